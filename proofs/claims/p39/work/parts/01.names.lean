-- ===== PART A: goes FIRST, ahead of the names: the tables' words, and 'selects' of the private methods out of them =====
/-- a private method of a class that the tables say can be made, by its rows of tables_1 -/
def lw_okq (q : MethodName × Nat) : Prop := (q.1.cls ≠ "java/lang/invoke/MethodHandle" ∧ q.1.cls ≠ "java/lang/invoke/VarHandle") ∧ Cond.instantiable q.1.cls q.2 ∈ tables_1 ∧ Cond.privateMethod q.1 ∈ tables_1 ∧ Cond.instanceMethod q.1 ∈ tables_1
theorem lw_p0 : lw_okq (⟨"SnowForts", "deny", "(I)Z"⟩, 18) := ⟨⟨by decide +kernel, by decide +kernel⟩, List.mem_of_getElem? (i := 19) (by decide +kernel), List.mem_of_getElem? (i := 483) (by decide +kernel), List.mem_of_getElem? (i := 484) (by decide +kernel)⟩
theorem lw_p1 : lw_okq (⟨"SnowForts", "grant", "()Z"⟩, 18) := ⟨⟨by decide +kernel, by decide +kernel⟩, List.mem_of_getElem? (i := 19) (by decide +kernel), List.mem_of_getElem? (i := 494) (by decide +kernel), List.mem_of_getElem? (i := 495) (by decide +kernel)⟩
theorem lw_p2 : lw_okq (⟨"SnowForts", "whyNotPlace", "(II)I"⟩, 18) := ⟨⟨by decide +kernel, by decide +kernel⟩, List.mem_of_getElem? (i := 19) (by decide +kernel), List.mem_of_getElem? (i := 502) (by decide +kernel), List.mem_of_getElem? (i := 503) (by decide +kernel)⟩
theorem lw_p3 : lw_okq (⟨"SnowForts$Tray", "cut", "(J)J"⟩, 3) := ⟨⟨by decide +kernel, by decide +kernel⟩, List.mem_of_getElem? (i := 28) (by decide +kernel), List.mem_of_getElem? (i := 519) (by decide +kernel), List.mem_of_getElem? (i := 520) (by decide +kernel)⟩
theorem lw_p4 : lw_okq (⟨"SnowForts", "refuse", "(I)I"⟩, 18) := ⟨⟨by decide +kernel, by decide +kernel⟩, List.mem_of_getElem? (i := 19) (by decide +kernel), List.mem_of_getElem? (i := 527) (by decide +kernel), List.mem_of_getElem? (i := 528) (by decide +kernel)⟩
theorem lw_p5 : lw_okq (⟨"SnowForts$Reader", "passBlanks", "()V"⟩, 17) := ⟨⟨by decide +kernel, by decide +kernel⟩, List.mem_of_getElem? (i := 48) (by decide +kernel), List.mem_of_getElem? (i := 578) (by decide +kernel), List.mem_of_getElem? (i := 579) (by decide +kernel)⟩
theorem lw_p6 : lw_okq (⟨"SnowForts$Reader", "byteAt", "(I)I"⟩, 17) := ⟨⟨by decide +kernel, by decide +kernel⟩, List.mem_of_getElem? (i := 48) (by decide +kernel), List.mem_of_getElem? (i := 582) (by decide +kernel), List.mem_of_getElem? (i := 583) (by decide +kernel)⟩
theorem lw_p7 : lw_okq (⟨"SnowForts$Reader", "kindHere", "()I"⟩, 17) := ⟨⟨by decide +kernel, by decide +kernel⟩, List.mem_of_getElem? (i := 48) (by decide +kernel), List.mem_of_getElem? (i := 586) (by decide +kernel), List.mem_of_getElem? (i := 587) (by decide +kernel)⟩
theorem lw_p8 : lw_okq (⟨"SnowForts$Reader", "passWord", "()J"⟩, 17) := ⟨⟨by decide +kernel, by decide +kernel⟩, List.mem_of_getElem? (i := 48) (by decide +kernel), List.mem_of_getElem? (i := 596) (by decide +kernel), List.mem_of_getElem? (i := 597) (by decide +kernel)⟩
theorem lw_p9 : lw_okq (⟨"SnowForts$Reader", "passNumber", "()I"⟩, 17) := ⟨⟨by decide +kernel, by decide +kernel⟩, List.mem_of_getElem? (i := 48) (by decide +kernel), List.mem_of_getElem? (i := 607) (by decide +kernel), List.mem_of_getElem? (i := 608) (by decide +kernel)⟩
theorem lw_p10 : lw_okq (⟨"SnowForts$YardText", "takeSize", "(LSnowForts$Yard;)Z"⟩, 5) := ⟨⟨by decide +kernel, by decide +kernel⟩, List.mem_of_getElem? (i := 124) (by decide +kernel), List.mem_of_getElem? (i := 615) (by decide +kernel), List.mem_of_getElem? (i := 616) (by decide +kernel)⟩
theorem lw_p11 : lw_okq (⟨"SnowForts$YardText", "takePart", "(LSnowForts$Yard;)Z"⟩, 5) := ⟨⟨by decide +kernel, by decide +kernel⟩, List.mem_of_getElem? (i := 124) (by decide +kernel), List.mem_of_getElem? (i := 645) (by decide +kernel), List.mem_of_getElem? (i := 646) (by decide +kernel)⟩
theorem lw_p12 : lw_okq (⟨"SnowForts$YardText", "takeSchool", "(LSnowForts$Yard;)Z"⟩, 5) := ⟨⟨by decide +kernel, by decide +kernel⟩, List.mem_of_getElem? (i := 124) (by decide +kernel), List.mem_of_getElem? (i := 651) (by decide +kernel), List.mem_of_getElem? (i := 652) (by decide +kernel)⟩
theorem lw_p13 : lw_okq (⟨"SnowForts$YardText", "takeHeap", "(LSnowForts$Yard;[I[ILSnowForts$Word;I)Z"⟩, 5) := ⟨⟨by decide +kernel, by decide +kernel⟩, List.mem_of_getElem? (i := 124) (by decide +kernel), List.mem_of_getElem? (i := 668) (by decide +kernel), List.mem_of_getElem? (i := 669) (by decide +kernel)⟩
theorem lw_p14 : lw_okq (⟨"SnowForts$YardText", "takeArticle", "(LSnowForts$Yard;)Z"⟩, 5) := ⟨⟨by decide +kernel, by decide +kernel⟩, List.mem_of_getElem? (i := 124) (by decide +kernel), List.mem_of_getElem? (i := 682) (by decide +kernel), List.mem_of_getElem? (i := 683) (by decide +kernel)⟩
theorem lw_p15 : lw_okq (⟨"SnowForts$YardText", "isNew", "(LSnowForts$Yard;I)Z"⟩, 5) := ⟨⟨by decide +kernel, by decide +kernel⟩, List.mem_of_getElem? (i := 124) (by decide +kernel), List.mem_of_getElem? (i := 686) (by decide +kernel), List.mem_of_getElem? (i := 687) (by decide +kernel)⟩
def lw_privs_1 : List (MethodName × Nat) := [(⟨"SnowForts", "deny", "(I)Z"⟩, 18), (⟨"SnowForts", "grant", "()Z"⟩, 18), (⟨"SnowForts", "whyNotPlace", "(II)I"⟩, 18), (⟨"SnowForts$Tray", "cut", "(J)J"⟩, 3), (⟨"SnowForts", "refuse", "(I)I"⟩, 18), (⟨"SnowForts$Reader", "passBlanks", "()V"⟩, 17), (⟨"SnowForts$Reader", "byteAt", "(I)I"⟩, 17), (⟨"SnowForts$Reader", "kindHere", "()I"⟩, 17), (⟨"SnowForts$Reader", "passWord", "()J"⟩, 17), (⟨"SnowForts$Reader", "passNumber", "()I"⟩, 17), (⟨"SnowForts$YardText", "takeSize", "(LSnowForts$Yard;)Z"⟩, 5), (⟨"SnowForts$YardText", "takePart", "(LSnowForts$Yard;)Z"⟩, 5), (⟨"SnowForts$YardText", "takeSchool", "(LSnowForts$Yard;)Z"⟩, 5), (⟨"SnowForts$YardText", "takeHeap", "(LSnowForts$Yard;[I[ILSnowForts$Word;I)Z"⟩, 5), (⟨"SnowForts$YardText", "takeArticle", "(LSnowForts$Yard;)Z"⟩, 5), (⟨"SnowForts$YardText", "isNew", "(LSnowForts$Yard;I)Z"⟩, 5)]
theorem lw_r1 : ∀ q ∈ lw_privs_1, lw_okq q := List.forall_mem_cons.mpr ⟨lw_p0, List.forall_mem_cons.mpr ⟨lw_p1, List.forall_mem_cons.mpr ⟨lw_p2, List.forall_mem_cons.mpr ⟨lw_p3, List.forall_mem_cons.mpr ⟨lw_p4, List.forall_mem_cons.mpr ⟨lw_p5, List.forall_mem_cons.mpr ⟨lw_p6, List.forall_mem_cons.mpr ⟨lw_p7, List.forall_mem_cons.mpr ⟨lw_p8, List.forall_mem_cons.mpr ⟨lw_p9, List.forall_mem_cons.mpr ⟨lw_p10, List.forall_mem_cons.mpr ⟨lw_p11, List.forall_mem_cons.mpr ⟨lw_p12, List.forall_mem_cons.mpr ⟨lw_p13, List.forall_mem_cons.mpr ⟨lw_p14, List.forall_mem_cons.mpr ⟨lw_p15, fun _ h => absurd h List.not_mem_nil⟩⟩⟩⟩⟩⟩⟩⟩⟩⟩⟩⟩⟩⟩⟩⟩
theorem lw_p16 : lw_okq (⟨"SnowForts$YardText", "takeLimit", "(LSnowForts$Yard;ILSnowForts$Word;I)Z"⟩, 5) := ⟨⟨by decide +kernel, by decide +kernel⟩, List.mem_of_getElem? (i := 124) (by decide +kernel), List.mem_of_getElem? (i := 692) (by decide +kernel), List.mem_of_getElem? (i := 693) (by decide +kernel)⟩
theorem lw_p17 : lw_okq (⟨"SnowForts", "answer", "(I)I"⟩, 18) := ⟨⟨by decide +kernel, by decide +kernel⟩, List.mem_of_getElem? (i := 19) (by decide +kernel), List.mem_of_getElem? (i := 709) (by decide +kernel), List.mem_of_getElem? (i := 710) (by decide +kernel)⟩
theorem lw_p18 : lw_okq (⟨"SnowForts$OrdersText", "takeEnd", "(LSnowForts$Orders;)Z"⟩, 4) := ⟨⟨by decide +kernel, by decide +kernel⟩, List.mem_of_getElem? (i := 146) (by decide +kernel), List.mem_of_getElem? (i := 725) (by decide +kernel), List.mem_of_getElem? (i := 726) (by decide +kernel)⟩
theorem lw_p19 : lw_okq (⟨"SnowForts$OrdersText", "takeStep", "(LSnowForts$Yard;LSnowForts$Orders;)Z"⟩, 4) := ⟨⟨by decide +kernel, by decide +kernel⟩, List.mem_of_getElem? (i := 146) (by decide +kernel), List.mem_of_getElem? (i := 735) (by decide +kernel), List.mem_of_getElem? (i := 736) (by decide +kernel)⟩
theorem lw_p20 : lw_okq (⟨"SnowForts$OrdersText", "takeTest", "(LSnowForts$Yard;LSnowForts$Orders;)Z"⟩, 4) := ⟨⟨by decide +kernel, by decide +kernel⟩, List.mem_of_getElem? (i := 146) (by decide +kernel), List.mem_of_getElem? (i := 760) (by decide +kernel), List.mem_of_getElem? (i := 761) (by decide +kernel)⟩
theorem lw_p21 : lw_okq (⟨"SnowForts$OrdersText", "takeCell", "(LSnowForts$Yard;Z[I)Z"⟩, 4) := ⟨⟨by decide +kernel, by decide +kernel⟩, List.mem_of_getElem? (i := 146) (by decide +kernel), List.mem_of_getElem? (i := 771) (by decide +kernel), List.mem_of_getElem? (i := 772) (by decide +kernel)⟩
theorem lw_p22 : lw_okq (⟨"SnowForts$OrdersText", "takeComparing", "(LSnowForts$Orders;)Z"⟩, 4) := ⟨⟨by decide +kernel, by decide +kernel⟩, List.mem_of_getElem? (i := 146) (by decide +kernel), List.mem_of_getElem? (i := 784) (by decide +kernel), List.mem_of_getElem? (i := 785) (by decide +kernel)⟩
theorem lw_p23 : lw_okq (⟨"SnowForts$OrdersText", "takeAmount", "(LSnowForts$Orders;II)Z"⟩, 4) := ⟨⟨by decide +kernel, by decide +kernel⟩, List.mem_of_getElem? (i := 146) (by decide +kernel), List.mem_of_getElem? (i := 788) (by decide +kernel), List.mem_of_getElem? (i := 789) (by decide +kernel)⟩
theorem lw_p24 : lw_okq (⟨"SnowForts$OrdersText", "takeRest", "(ILSnowForts$Yard;LSnowForts$Orders;)Z"⟩, 4) := ⟨⟨by decide +kernel, by decide +kernel⟩, List.mem_of_getElem? (i := 146) (by decide +kernel), List.mem_of_getElem? (i := 792) (by decide +kernel), List.mem_of_getElem? (i := 793) (by decide +kernel)⟩
theorem lw_p25 : lw_okq (⟨"SnowForts$OrdersText", "takeStorm", "(LSnowForts$Orders;)Z"⟩, 4) := ⟨⟨by decide +kernel, by decide +kernel⟩, List.mem_of_getElem? (i := 146) (by decide +kernel), List.mem_of_getElem? (i := 796) (by decide +kernel), List.mem_of_getElem? (i := 797) (by decide +kernel)⟩
theorem lw_p26 : lw_okq (⟨"SnowForts$OrdersText", "crossesHalves", "(LSnowForts$Yard;LSnowForts$Orders;)Z"⟩, 4) := ⟨⟨by decide +kernel, by decide +kernel⟩, List.mem_of_getElem? (i := 146) (by decide +kernel), List.mem_of_getElem? (i := 806) (by decide +kernel), List.mem_of_getElem? (i := 807) (by decide +kernel)⟩
theorem lw_p27 : lw_okq (⟨"SnowForts$Yard", "holds", "(I)Z"⟩, 18) := ⟨⟨by decide +kernel, by decide +kernel⟩, List.mem_of_getElem? (i := 165) (by decide +kernel), List.mem_of_getElem? (i := 842) (by decide +kernel), List.mem_of_getElem? (i := 843) (by decide +kernel)⟩
theorem lw_p28 : lw_okq (⟨"SnowForts$Yard", "halfOf", "(I)I"⟩, 18) := ⟨⟨by decide +kernel, by decide +kernel⟩, List.mem_of_getElem? (i := 165) (by decide +kernel), List.mem_of_getElem? (i := 847) (by decide +kernel), List.mem_of_getElem? (i := 848) (by decide +kernel)⟩
theorem lw_p29 : lw_okq (⟨"SnowForts$Yard", "icedCells", "(I)I"⟩, 18) := ⟨⟨by decide +kernel, by decide +kernel⟩, List.mem_of_getElem? (i := 165) (by decide +kernel), List.mem_of_getElem? (i := 861) (by decide +kernel), List.mem_of_getElem? (i := 862) (by decide +kernel)⟩
theorem lw_p30 : lw_okq (⟨"SnowForts$Yard", "isIn", "(II)Z"⟩, 18) := ⟨⟨by decide +kernel, by decide +kernel⟩, List.mem_of_getElem? (i := 165) (by decide +kernel), List.mem_of_getElem? (i := 865) (by decide +kernel), List.mem_of_getElem? (i := 866) (by decide +kernel)⟩
theorem lw_p31 : lw_okq (⟨"SnowForts$Yard", "wallsOf", "(I)I"⟩, 18) := ⟨⟨by decide +kernel, by decide +kernel⟩, List.mem_of_getElem? (i := 165) (by decide +kernel), List.mem_of_getElem? (i := 869) (by decide +kernel), List.mem_of_getElem? (i := 870) (by decide +kernel)⟩
def lw_privs_2 : List (MethodName × Nat) := [(⟨"SnowForts$YardText", "takeLimit", "(LSnowForts$Yard;ILSnowForts$Word;I)Z"⟩, 5), (⟨"SnowForts", "answer", "(I)I"⟩, 18), (⟨"SnowForts$OrdersText", "takeEnd", "(LSnowForts$Orders;)Z"⟩, 4), (⟨"SnowForts$OrdersText", "takeStep", "(LSnowForts$Yard;LSnowForts$Orders;)Z"⟩, 4), (⟨"SnowForts$OrdersText", "takeTest", "(LSnowForts$Yard;LSnowForts$Orders;)Z"⟩, 4), (⟨"SnowForts$OrdersText", "takeCell", "(LSnowForts$Yard;Z[I)Z"⟩, 4), (⟨"SnowForts$OrdersText", "takeComparing", "(LSnowForts$Orders;)Z"⟩, 4), (⟨"SnowForts$OrdersText", "takeAmount", "(LSnowForts$Orders;II)Z"⟩, 4), (⟨"SnowForts$OrdersText", "takeRest", "(ILSnowForts$Yard;LSnowForts$Orders;)Z"⟩, 4), (⟨"SnowForts$OrdersText", "takeStorm", "(LSnowForts$Orders;)Z"⟩, 4), (⟨"SnowForts$OrdersText", "crossesHalves", "(LSnowForts$Yard;LSnowForts$Orders;)Z"⟩, 4), (⟨"SnowForts$Yard", "holds", "(I)Z"⟩, 18), (⟨"SnowForts$Yard", "halfOf", "(I)I"⟩, 18), (⟨"SnowForts$Yard", "icedCells", "(I)I"⟩, 18), (⟨"SnowForts$Yard", "isIn", "(II)Z"⟩, 18), (⟨"SnowForts$Yard", "wallsOf", "(I)I"⟩, 18)]
theorem lw_r2 : ∀ q ∈ lw_privs_2, lw_okq q := List.forall_mem_cons.mpr ⟨lw_p16, List.forall_mem_cons.mpr ⟨lw_p17, List.forall_mem_cons.mpr ⟨lw_p18, List.forall_mem_cons.mpr ⟨lw_p19, List.forall_mem_cons.mpr ⟨lw_p20, List.forall_mem_cons.mpr ⟨lw_p21, List.forall_mem_cons.mpr ⟨lw_p22, List.forall_mem_cons.mpr ⟨lw_p23, List.forall_mem_cons.mpr ⟨lw_p24, List.forall_mem_cons.mpr ⟨lw_p25, List.forall_mem_cons.mpr ⟨lw_p26, List.forall_mem_cons.mpr ⟨lw_p27, List.forall_mem_cons.mpr ⟨lw_p28, List.forall_mem_cons.mpr ⟨lw_p29, List.forall_mem_cons.mpr ⟨lw_p30, List.forall_mem_cons.mpr ⟨lw_p31, fun _ h => absurd h List.not_mem_nil⟩⟩⟩⟩⟩⟩⟩⟩⟩⟩⟩⟩⟩⟩⟩⟩
theorem lw_p32 : lw_okq (⟨"SnowForts$Yard", "heaps", "(II)I"⟩, 18) := ⟨⟨by decide +kernel, by decide +kernel⟩, List.mem_of_getElem? (i := 165) (by decide +kernel), List.mem_of_getElem? (i := 890) (by decide +kernel), List.mem_of_getElem? (i := 891) (by decide +kernel)⟩
theorem lw_p33 : lw_okq (⟨"SnowForts$Yard", "meltsAt", "(II)I"⟩, 18) := ⟨⟨by decide +kernel, by decide +kernel⟩, List.mem_of_getElem? (i := 165) (by decide +kernel), List.mem_of_getElem? (i := 905) (by decide +kernel), List.mem_of_getElem? (i := 906) (by decide +kernel)⟩
theorem lw_p34 : lw_okq (⟨"SnowForts$Yard", "handsLeft", "(I)I"⟩, 18) := ⟨⟨by decide +kernel, by decide +kernel⟩, List.mem_of_getElem? (i := 165) (by decide +kernel), List.mem_of_getElem? (i := 923) (by decide +kernel), List.mem_of_getElem? (i := 924) (by decide +kernel)⟩
theorem lw_p35 : lw_okq (⟨"SnowForts$Yard", "wallLimit", "(I)I"⟩, 18) := ⟨⟨by decide +kernel, by decide +kernel⟩, List.mem_of_getElem? (i := 165) (by decide +kernel), List.mem_of_getElem? (i := 927) (by decide +kernel), List.mem_of_getElem? (i := 928) (by decide +kernel)⟩
theorem lw_p36 : lw_okq (⟨"SnowForts$Yard", "across", "(I)I"⟩, 18) := ⟨⟨by decide +kernel, by decide +kernel⟩, List.mem_of_getElem? (i := 165) (by decide +kernel), List.mem_of_getElem? (i := 932) (by decide +kernel), List.mem_of_getElem? (i := 933) (by decide +kernel)⟩
theorem lw_p37 : lw_okq (⟨"SnowForts$Yard", "raisesOne", "(III)V"⟩, 18) := ⟨⟨by decide +kernel, by decide +kernel⟩, List.mem_of_getElem? (i := 165) (by decide +kernel), List.mem_of_getElem? (i := 936) (by decide +kernel), List.mem_of_getElem? (i := 937) (by decide +kernel)⟩
theorem lw_p38 : lw_okq (⟨"SnowForts$Yard", "breaks", "(III)V"⟩, 18) := ⟨⟨by decide +kernel, by decide +kernel⟩, List.mem_of_getElem? (i := 165) (by decide +kernel), List.mem_of_getElem? (i := 940) (by decide +kernel), List.mem_of_getElem? (i := 941) (by decide +kernel)⟩
theorem lw_p39 : lw_okq (⟨"SnowForts$Yard", "lawfulHands", "(I)I"⟩, 18) := ⟨⟨by decide +kernel, by decide +kernel⟩, List.mem_of_getElem? (i := 165) (by decide +kernel), List.mem_of_getElem? (i := 944) (by decide +kernel), List.mem_of_getElem? (i := 945) (by decide +kernel)⟩
theorem lw_p40 : lw_okq (⟨"SnowForts$Yard", "fitsIn", "(I)I"⟩, 18) := ⟨⟨by decide +kernel, by decide +kernel⟩, List.mem_of_getElem? (i := 165) (by decide +kernel), List.mem_of_getElem? (i := 981) (by decide +kernel), List.mem_of_getElem? (i := 982) (by decide +kernel)⟩
theorem lw_p41 : lw_okq (⟨"SnowForts$Yard", "stepTo", "(III)I"⟩, 18) := ⟨⟨by decide +kernel, by decide +kernel⟩, List.mem_of_getElem? (i := 165) (by decide +kernel), List.mem_of_getElem? (i := 1024) (by decide +kernel), List.mem_of_getElem? (i := 1025) (by decide +kernel)⟩
theorem lw_p42 : lw_okq (⟨"SnowForts$Yard", "movedTo", "(III)I"⟩, 18) := ⟨⟨by decide +kernel, by decide +kernel⟩, List.mem_of_getElem? (i := 165) (by decide +kernel), List.mem_of_getElem? (i := 1039) (by decide +kernel), List.mem_of_getElem? (i := 1040) (by decide +kernel)⟩
theorem lw_p43 : lw_okq (⟨"SnowForts$Yard", "canBecome", "(II)Z"⟩, 18) := ⟨⟨by decide +kernel, by decide +kernel⟩, List.mem_of_getElem? (i := 165) (by decide +kernel), List.mem_of_getElem? (i := 1043) (by decide +kernel), List.mem_of_getElem? (i := 1044) (by decide +kernel)⟩
theorem lw_p44 : lw_okq (⟨"SnowForts$Yard", "lastingWall", "(III)I"⟩, 18) := ⟨⟨by decide +kernel, by decide +kernel⟩, List.mem_of_getElem? (i := 165) (by decide +kernel), List.mem_of_getElem? (i := 1063) (by decide +kernel), List.mem_of_getElem? (i := 1064) (by decide +kernel)⟩
theorem lw_p45 : lw_okq (⟨"SnowForts$Walk", "comesTo", "(LSnowForts$Yard;)Z"⟩, 8) := ⟨⟨by decide +kernel, by decide +kernel⟩, List.mem_of_getElem? (i := 299) (by decide +kernel), List.mem_of_getElem? (i := 1075) (by decide +kernel), List.mem_of_getElem? (i := 1076) (by decide +kernel)⟩
theorem lw_p46 : lw_okq (⟨"SnowForts$Walk", "weightFrom", "(LSnowForts$Yard;I)I"⟩, 8) := ⟨⟨by decide +kernel, by decide +kernel⟩, List.mem_of_getElem? (i := 299) (by decide +kernel), List.mem_of_getElem? (i := 1082) (by decide +kernel), List.mem_of_getElem? (i := 1083) (by decide +kernel)⟩
theorem lw_p47 : lw_okq (⟨"SnowForts$Walk", "weightBy", "(II)I"⟩, 8) := ⟨⟨by decide +kernel, by decide +kernel⟩, List.mem_of_getElem? (i := 299) (by decide +kernel), List.mem_of_getElem? (i := 1094) (by decide +kernel), List.mem_of_getElem? (i := 1095) (by decide +kernel)⟩
def lw_privs_3 : List (MethodName × Nat) := [(⟨"SnowForts$Yard", "heaps", "(II)I"⟩, 18), (⟨"SnowForts$Yard", "meltsAt", "(II)I"⟩, 18), (⟨"SnowForts$Yard", "handsLeft", "(I)I"⟩, 18), (⟨"SnowForts$Yard", "wallLimit", "(I)I"⟩, 18), (⟨"SnowForts$Yard", "across", "(I)I"⟩, 18), (⟨"SnowForts$Yard", "raisesOne", "(III)V"⟩, 18), (⟨"SnowForts$Yard", "breaks", "(III)V"⟩, 18), (⟨"SnowForts$Yard", "lawfulHands", "(I)I"⟩, 18), (⟨"SnowForts$Yard", "fitsIn", "(I)I"⟩, 18), (⟨"SnowForts$Yard", "stepTo", "(III)I"⟩, 18), (⟨"SnowForts$Yard", "movedTo", "(III)I"⟩, 18), (⟨"SnowForts$Yard", "canBecome", "(II)Z"⟩, 18), (⟨"SnowForts$Yard", "lastingWall", "(III)I"⟩, 18), (⟨"SnowForts$Walk", "comesTo", "(LSnowForts$Yard;)Z"⟩, 8), (⟨"SnowForts$Walk", "weightFrom", "(LSnowForts$Yard;I)I"⟩, 8), (⟨"SnowForts$Walk", "weightBy", "(II)I"⟩, 8)]
theorem lw_r3 : ∀ q ∈ lw_privs_3, lw_okq q := List.forall_mem_cons.mpr ⟨lw_p32, List.forall_mem_cons.mpr ⟨lw_p33, List.forall_mem_cons.mpr ⟨lw_p34, List.forall_mem_cons.mpr ⟨lw_p35, List.forall_mem_cons.mpr ⟨lw_p36, List.forall_mem_cons.mpr ⟨lw_p37, List.forall_mem_cons.mpr ⟨lw_p38, List.forall_mem_cons.mpr ⟨lw_p39, List.forall_mem_cons.mpr ⟨lw_p40, List.forall_mem_cons.mpr ⟨lw_p41, List.forall_mem_cons.mpr ⟨lw_p42, List.forall_mem_cons.mpr ⟨lw_p43, List.forall_mem_cons.mpr ⟨lw_p44, List.forall_mem_cons.mpr ⟨lw_p45, List.forall_mem_cons.mpr ⟨lw_p46, List.forall_mem_cons.mpr ⟨lw_p47, fun _ h => absurd h List.not_mem_nil⟩⟩⟩⟩⟩⟩⟩⟩⟩⟩⟩⟩⟩⟩⟩⟩
theorem lw_p48 : lw_okq (⟨"SnowForts$Walk", "begin", "()V"⟩, 8) := ⟨⟨by decide +kernel, by decide +kernel⟩, List.mem_of_getElem? (i := 299) (by decide +kernel), List.mem_of_getElem? (i := 1099) (by decide +kernel), List.mem_of_getElem? (i := 1100) (by decide +kernel)⟩
theorem lw_p49 : lw_okq (⟨"SnowForts$Walk", "cellBehind", "(LSnowForts$Yard;I)I"⟩, 8) := ⟨⟨by decide +kernel, by decide +kernel⟩, List.mem_of_getElem? (i := 299) (by decide +kernel), List.mem_of_getElem? (i := 1108) (by decide +kernel), List.mem_of_getElem? (i := 1109) (by decide +kernel)⟩
theorem lw_p50 : lw_okq (⟨"SnowForts", "isPeace", "()Z"⟩, 18) := ⟨⟨by decide +kernel, by decide +kernel⟩, List.mem_of_getElem? (i := 19) (by decide +kernel), List.mem_of_getElem? (i := 1120) (by decide +kernel), List.mem_of_getElem? (i := 1121) (by decide +kernel)⟩
theorem lw_p51 : lw_okq (⟨"SnowForts", "winningRaise", "(IIII)I"⟩, 18) := ⟨⟨by decide +kernel, by decide +kernel⟩, List.mem_of_getElem? (i := 19) (by decide +kernel), List.mem_of_getElem? (i := 1170) (by decide +kernel), List.mem_of_getElem? (i := 1171) (by decide +kernel)⟩
theorem lw_p52 : lw_okq (⟨"SnowForts", "weigh", "(III)I"⟩, 18) := ⟨⟨by decide +kernel, by decide +kernel⟩, List.mem_of_getElem? (i := 19) (by decide +kernel), List.mem_of_getElem? (i := 1186) (by decide +kernel), List.mem_of_getElem? (i := 1187) (by decide +kernel)⟩
theorem lw_p53 : lw_okq (⟨"SnowForts$Odds", "casesOfNone", "(LSnowForts$Tray;)J"⟩, 4) := ⟨⟨by decide +kernel, by decide +kernel⟩, List.mem_of_getElem? (i := 355) (by decide +kernel), List.mem_of_getElem? (i := 1203) (by decide +kernel), List.mem_of_getElem? (i := 1204) (by decide +kernel)⟩
theorem lw_p54 : lw_okq (⟨"SnowForts$Odds", "casesOf", "(ILSnowForts$Tray;)J"⟩, 4) := ⟨⟨by decide +kernel, by decide +kernel⟩, List.mem_of_getElem? (i := 355) (by decide +kernel), List.mem_of_getElem? (i := 1207) (by decide +kernel), List.mem_of_getElem? (i := 1208) (by decide +kernel)⟩
theorem lw_p55 : lw_okq (⟨"SnowForts$Runner", "behindEnd", "(LSnowForts$Orders;I)I"⟩, 7) := ⟨⟨by decide +kernel, by decide +kernel⟩, List.mem_of_getElem? (i := 376) (by decide +kernel), List.mem_of_getElem? (i := 1238) (by decide +kernel), List.mem_of_getElem? (i := 1239) (by decide +kernel)⟩
theorem lw_p56 : lw_okq (⟨"SnowForts$Runner", "behindStep", "(LSnowForts$Orders;LSnowForts$Yard;LSnowForts$Walk;I)I"⟩, 7) := ⟨⟨by decide +kernel, by decide +kernel⟩, List.mem_of_getElem? (i := 376) (by decide +kernel), List.mem_of_getElem? (i := 1242) (by decide +kernel), List.mem_of_getElem? (i := 1243) (by decide +kernel)⟩
theorem lw_p57 : lw_okq (⟨"SnowForts$Runner", "act", "(LSnowForts$Orders;LSnowForts$Yard;I)V"⟩, 7) := ⟨⟨by decide +kernel, by decide +kernel⟩, List.mem_of_getElem? (i := 376) (by decide +kernel), List.mem_of_getElem? (i := 1254) (by decide +kernel), List.mem_of_getElem? (i := 1255) (by decide +kernel)⟩
theorem lw_p58 : lw_okq (⟨"SnowForts$Runner", "draw", "(I)I"⟩, 7) := ⟨⟨by decide +kernel, by decide +kernel⟩, List.mem_of_getElem? (i := 376) (by decide +kernel), List.mem_of_getElem? (i := 1260) (by decide +kernel), List.mem_of_getElem? (i := 1261) (by decide +kernel)⟩
theorem lw_p59 : lw_okq (⟨"SnowFortsModel", "no", "(I)Z"⟩, 42) := ⟨⟨by decide +kernel, by decide +kernel⟩, List.mem_of_getElem? (i := 1299) (by decide +kernel), List.mem_of_getElem? (i := 1448) (by decide +kernel), List.mem_of_getElem? (i := 1449) (by decide +kernel)⟩
theorem lw_p60 : lw_okq (⟨"SnowFortsModel", "placed", "(II)I"⟩, 42) := ⟨⟨by decide +kernel, by decide +kernel⟩, List.mem_of_getElem? (i := 1299) (by decide +kernel), List.mem_of_getElem? (i := 1456) (by decide +kernel), List.mem_of_getElem? (i := 1457) (by decide +kernel)⟩
theorem lw_p61 : lw_okq (⟨"SnowFortsModel", "trayed", "(I)I"⟩, 42) := ⟨⟨by decide +kernel, by decide +kernel⟩, List.mem_of_getElem? (i := 1299) (by decide +kernel), List.mem_of_getElem? (i := 1460) (by decide +kernel), List.mem_of_getElem? (i := 1461) (by decide +kernel)⟩
theorem lw_p62 : lw_okq (⟨"SnowFortsModel", "lay", "(I)V"⟩, 42) := ⟨⟨by decide +kernel, by decide +kernel⟩, List.mem_of_getElem? (i := 1299) (by decide +kernel), List.mem_of_getElem? (i := 1480) (by decide +kernel), List.mem_of_getElem? (i := 1481) (by decide +kernel)⟩
theorem lw_p63 : lw_okq (⟨"SnowFortsModel", "opens", "(II)Z"⟩, 42) := ⟨⟨by decide +kernel, by decide +kernel⟩, List.mem_of_getElem? (i := 1299) (by decide +kernel), List.mem_of_getElem? (i := 1492) (by decide +kernel), List.mem_of_getElem? (i := 1493) (by decide +kernel)⟩
def lw_privs_4 : List (MethodName × Nat) := [(⟨"SnowForts$Walk", "begin", "()V"⟩, 8), (⟨"SnowForts$Walk", "cellBehind", "(LSnowForts$Yard;I)I"⟩, 8), (⟨"SnowForts", "isPeace", "()Z"⟩, 18), (⟨"SnowForts", "winningRaise", "(IIII)I"⟩, 18), (⟨"SnowForts", "weigh", "(III)I"⟩, 18), (⟨"SnowForts$Odds", "casesOfNone", "(LSnowForts$Tray;)J"⟩, 4), (⟨"SnowForts$Odds", "casesOf", "(ILSnowForts$Tray;)J"⟩, 4), (⟨"SnowForts$Runner", "behindEnd", "(LSnowForts$Orders;I)I"⟩, 7), (⟨"SnowForts$Runner", "behindStep", "(LSnowForts$Orders;LSnowForts$Yard;LSnowForts$Walk;I)I"⟩, 7), (⟨"SnowForts$Runner", "act", "(LSnowForts$Orders;LSnowForts$Yard;I)V"⟩, 7), (⟨"SnowForts$Runner", "draw", "(I)I"⟩, 7), (⟨"SnowFortsModel", "no", "(I)Z"⟩, 42), (⟨"SnowFortsModel", "placed", "(II)I"⟩, 42), (⟨"SnowFortsModel", "trayed", "(I)I"⟩, 42), (⟨"SnowFortsModel", "lay", "(I)V"⟩, 42), (⟨"SnowFortsModel", "opens", "(II)Z"⟩, 42)]
theorem lw_r4 : ∀ q ∈ lw_privs_4, lw_okq q := List.forall_mem_cons.mpr ⟨lw_p48, List.forall_mem_cons.mpr ⟨lw_p49, List.forall_mem_cons.mpr ⟨lw_p50, List.forall_mem_cons.mpr ⟨lw_p51, List.forall_mem_cons.mpr ⟨lw_p52, List.forall_mem_cons.mpr ⟨lw_p53, List.forall_mem_cons.mpr ⟨lw_p54, List.forall_mem_cons.mpr ⟨lw_p55, List.forall_mem_cons.mpr ⟨lw_p56, List.forall_mem_cons.mpr ⟨lw_p57, List.forall_mem_cons.mpr ⟨lw_p58, List.forall_mem_cons.mpr ⟨lw_p59, List.forall_mem_cons.mpr ⟨lw_p60, List.forall_mem_cons.mpr ⟨lw_p61, List.forall_mem_cons.mpr ⟨lw_p62, List.forall_mem_cons.mpr ⟨lw_p63, fun _ h => absurd h List.not_mem_nil⟩⟩⟩⟩⟩⟩⟩⟩⟩⟩⟩⟩⟩⟩⟩⟩
theorem lw_p64 : lw_okq (⟨"SnowFortsModel", "next", "()V"⟩, 42) := ⟨⟨by decide +kernel, by decide +kernel⟩, List.mem_of_getElem? (i := 1299) (by decide +kernel), List.mem_of_getElem? (i := 1496) (by decide +kernel), List.mem_of_getElem? (i := 1497) (by decide +kernel)⟩
theorem lw_p65 : lw_okq (⟨"SnowFortsModel", "look2", "(I)I"⟩, 42) := ⟨⟨by decide +kernel, by decide +kernel⟩, List.mem_of_getElem? (i := 1299) (by decide +kernel), List.mem_of_getElem? (i := 1500) (by decide +kernel), List.mem_of_getElem? (i := 1501) (by decide +kernel)⟩
theorem lw_p66 : lw_okq (⟨"SnowFortsModel", "isSignByte", "(I)Z"⟩, 42) := ⟨⟨by decide +kernel, by decide +kernel⟩, List.mem_of_getElem? (i := 1299) (by decide +kernel), List.mem_of_getElem? (i := 1512) (by decide +kernel), List.mem_of_getElem? (i := 1513) (by decide +kernel)⟩
theorem lw_p67 : lw_okq (⟨"SnowFortsModel", "isWide", "()Z"⟩, 42) := ⟨⟨by decide +kernel, by decide +kernel⟩, List.mem_of_getElem? (i := 1299) (by decide +kernel), List.mem_of_getElem? (i := 1516) (by decide +kernel), List.mem_of_getElem? (i := 1517) (by decide +kernel)⟩
theorem lw_p68 : lw_okq (⟨"SnowFortsModel", "isWord", "(J)Z"⟩, 42) := ⟨⟨by decide +kernel, by decide +kernel⟩, List.mem_of_getElem? (i := 1299) (by decide +kernel), List.mem_of_getElem? (i := 1523) (by decide +kernel), List.mem_of_getElem? (i := 1524) (by decide +kernel)⟩
theorem lw_p69 : lw_okq (⟨"SnowFortsModel", "must", "(Z)V"⟩, 42) := ⟨⟨by decide +kernel, by decide +kernel⟩, List.mem_of_getElem? (i := 1299) (by decide +kernel), List.mem_of_getElem? (i := 1527) (by decide +kernel), List.mem_of_getElem? (i := 1528) (by decide +kernel)⟩
theorem lw_p70 : lw_okq (⟨"SnowFortsModel", "wrong", "()V"⟩, 42) := ⟨⟨by decide +kernel, by decide +kernel⟩, List.mem_of_getElem? (i := 1299) (by decide +kernel), List.mem_of_getElem? (i := 1531) (by decide +kernel), List.mem_of_getElem? (i := 1532) (by decide +kernel)⟩
theorem lw_p71 : lw_okq (⟨"SnowFortsModel", "fail", "(II)V"⟩, 42) := ⟨⟨by decide +kernel, by decide +kernel⟩, List.mem_of_getElem? (i := 1299) (by decide +kernel), List.mem_of_getElem? (i := 1535) (by decide +kernel), List.mem_of_getElem? (i := 1536) (by decide +kernel)⟩
theorem lw_p72 : lw_okq (⟨"SnowFortsModel", "count", "(II)I"⟩, 42) := ⟨⟨by decide +kernel, by decide +kernel⟩, List.mem_of_getElem? (i := 1299) (by decide +kernel), List.mem_of_getElem? (i := 1539) (by decide +kernel), List.mem_of_getElem? (i := 1540) (by decide +kernel)⟩
theorem lw_p73 : lw_okq (⟨"SnowFortsModel", "isHigh", "()Z"⟩, 42) := ⟨⟨by decide +kernel, by decide +kernel⟩, List.mem_of_getElem? (i := 1299) (by decide +kernel), List.mem_of_getElem? (i := 1546) (by decide +kernel), List.mem_of_getElem? (i := 1547) (by decide +kernel)⟩
theorem lw_p74 : lw_okq (⟨"SnowFortsModel", "isSign", "(I)Z"⟩, 42) := ⟨⟨by decide +kernel, by decide +kernel⟩, List.mem_of_getElem? (i := 1299) (by decide +kernel), List.mem_of_getElem? (i := 1550) (by decide +kernel), List.mem_of_getElem? (i := 1551) (by decide +kernel)⟩
theorem lw_p75 : lw_okq (⟨"SnowFortsModel", "isSchool", "()Z"⟩, 42) := ⟨⟨by decide +kernel, by decide +kernel⟩, List.mem_of_getElem? (i := 1299) (by decide +kernel), List.mem_of_getElem? (i := 1554) (by decide +kernel), List.mem_of_getElem? (i := 1555) (by decide +kernel)⟩
theorem lw_p76 : lw_okq (⟨"SnowFortsModel", "readSchool", "()V"⟩, 42) := ⟨⟨by decide +kernel, by decide +kernel⟩, List.mem_of_getElem? (i := 1299) (by decide +kernel), List.mem_of_getElem? (i := 1558) (by decide +kernel), List.mem_of_getElem? (i := 1559) (by decide +kernel)⟩
theorem lw_p77 : lw_okq (⟨"SnowFortsModel", "isKept", "()Z"⟩, 42) := ⟨⟨by decide +kernel, by decide +kernel⟩, List.mem_of_getElem? (i := 1299) (by decide +kernel), List.mem_of_getElem? (i := 1562) (by decide +kernel), List.mem_of_getElem? (i := 1563) (by decide +kernel)⟩
theorem lw_p78 : lw_okq (⟨"SnowFortsModel", "isHands", "()Z"⟩, 42) := ⟨⟨by decide +kernel, by decide +kernel⟩, List.mem_of_getElem? (i := 1299) (by decide +kernel), List.mem_of_getElem? (i := 1566) (by decide +kernel), List.mem_of_getElem? (i := 1567) (by decide +kernel)⟩
theorem lw_p79 : lw_okq (⟨"SnowFortsModel", "isSnow", "()Z"⟩, 42) := ⟨⟨by decide +kernel, by decide +kernel⟩, List.mem_of_getElem? (i := 1299) (by decide +kernel), List.mem_of_getElem? (i := 1570) (by decide +kernel), List.mem_of_getElem? (i := 1571) (by decide +kernel)⟩
def lw_privs_5 : List (MethodName × Nat) := [(⟨"SnowFortsModel", "next", "()V"⟩, 42), (⟨"SnowFortsModel", "look2", "(I)I"⟩, 42), (⟨"SnowFortsModel", "isSignByte", "(I)Z"⟩, 42), (⟨"SnowFortsModel", "isWide", "()Z"⟩, 42), (⟨"SnowFortsModel", "isWord", "(J)Z"⟩, 42), (⟨"SnowFortsModel", "must", "(Z)V"⟩, 42), (⟨"SnowFortsModel", "wrong", "()V"⟩, 42), (⟨"SnowFortsModel", "fail", "(II)V"⟩, 42), (⟨"SnowFortsModel", "count", "(II)I"⟩, 42), (⟨"SnowFortsModel", "isHigh", "()Z"⟩, 42), (⟨"SnowFortsModel", "isSign", "(I)Z"⟩, 42), (⟨"SnowFortsModel", "isSchool", "()Z"⟩, 42), (⟨"SnowFortsModel", "readSchool", "()V"⟩, 42), (⟨"SnowFortsModel", "isKept", "()Z"⟩, 42), (⟨"SnowFortsModel", "isHands", "()Z"⟩, 42), (⟨"SnowFortsModel", "isSnow", "()Z"⟩, 42)]
theorem lw_r5 : ∀ q ∈ lw_privs_5, lw_okq q := List.forall_mem_cons.mpr ⟨lw_p64, List.forall_mem_cons.mpr ⟨lw_p65, List.forall_mem_cons.mpr ⟨lw_p66, List.forall_mem_cons.mpr ⟨lw_p67, List.forall_mem_cons.mpr ⟨lw_p68, List.forall_mem_cons.mpr ⟨lw_p69, List.forall_mem_cons.mpr ⟨lw_p70, List.forall_mem_cons.mpr ⟨lw_p71, List.forall_mem_cons.mpr ⟨lw_p72, List.forall_mem_cons.mpr ⟨lw_p73, List.forall_mem_cons.mpr ⟨lw_p74, List.forall_mem_cons.mpr ⟨lw_p75, List.forall_mem_cons.mpr ⟨lw_p76, List.forall_mem_cons.mpr ⟨lw_p77, List.forall_mem_cons.mpr ⟨lw_p78, List.forall_mem_cons.mpr ⟨lw_p79, fun _ h => absurd h List.not_mem_nil⟩⟩⟩⟩⟩⟩⟩⟩⟩⟩⟩⟩⟩⟩⟩⟩
theorem lw_p80 : lw_okq (⟨"SnowFortsModel", "isDeep", "()Z"⟩, 42) := ⟨⟨by decide +kernel, by decide +kernel⟩, List.mem_of_getElem? (i := 1299) (by decide +kernel), List.mem_of_getElem? (i := 1574) (by decide +kernel), List.mem_of_getElem? (i := 1575) (by decide +kernel)⟩
theorem lw_p81 : lw_okq (⟨"SnowFortsModel", "isTall", "()Z"⟩, 42) := ⟨⟨by decide +kernel, by decide +kernel⟩, List.mem_of_getElem? (i := 1299) (by decide +kernel), List.mem_of_getElem? (i := 1578) (by decide +kernel), List.mem_of_getElem? (i := 1579) (by decide +kernel)⟩
theorem lw_p82 : lw_okq (⟨"SnowFortsModel", "isSun", "()Z"⟩, 42) := ⟨⟨by decide +kernel, by decide +kernel⟩, List.mem_of_getElem? (i := 1299) (by decide +kernel), List.mem_of_getElem? (i := 1582) (by decide +kernel), List.mem_of_getElem? (i := 1583) (by decide +kernel)⟩
theorem lw_p83 : lw_okq (⟨"SnowFortsModel", "isBy", "()Z"⟩, 42) := ⟨⟨by decide +kernel, by decide +kernel⟩, List.mem_of_getElem? (i := 1299) (by decide +kernel), List.mem_of_getElem? (i := 1586) (by decide +kernel), List.mem_of_getElem? (i := 1587) (by decide +kernel)⟩
theorem lw_p84 : lw_okq (⟨"SnowFortsModel", "isNo", "()Z"⟩, 42) := ⟨⟨by decide +kernel, by decide +kernel⟩, List.mem_of_getElem? (i := 1299) (by decide +kernel), List.mem_of_getElem? (i := 1590) (by decide +kernel), List.mem_of_getElem? (i := 1591) (by decide +kernel)⟩
theorem lw_p85 : lw_okq (⟨"SnowFortsModel", "isAbove", "()Z"⟩, 42) := ⟨⟨by decide +kernel, by decide +kernel⟩, List.mem_of_getElem? (i := 1299) (by decide +kernel), List.mem_of_getElem? (i := 1594) (by decide +kernel), List.mem_of_getElem? (i := 1595) (by decide +kernel)⟩
theorem lw_p86 : lw_okq (⟨"SnowFortsModel", "isBehind", "()Z"⟩, 42) := ⟨⟨by decide +kernel, by decide +kernel⟩, List.mem_of_getElem? (i := 1299) (by decide +kernel), List.mem_of_getElem? (i := 1598) (by decide +kernel), List.mem_of_getElem? (i := 1599) (by decide +kernel)⟩
theorem lw_p87 : lw_okq (⟨"SnowFortsModel", "isTo", "()Z"⟩, 42) := ⟨⟨by decide +kernel, by decide +kernel⟩, List.mem_of_getElem? (i := 1299) (by decide +kernel), List.mem_of_getElem? (i := 1602) (by decide +kernel), List.mem_of_getElem? (i := 1603) (by decide +kernel)⟩
theorem lw_p88 : lw_okq (⟨"SnowFortsModel", "isFrom", "()Z"⟩, 42) := ⟨⟨by decide +kernel, by decide +kernel⟩, List.mem_of_getElem? (i := 1299) (by decide +kernel), List.mem_of_getElem? (i := 1606) (by decide +kernel), List.mem_of_getElem? (i := 1607) (by decide +kernel)⟩
theorem lw_p89 : lw_okq (⟨"SnowFortsModel", "stepWord", "()I"⟩, 42) := ⟨⟨by decide +kernel, by decide +kernel⟩, List.mem_of_getElem? (i := 1299) (by decide +kernel), List.mem_of_getElem? (i := 1610) (by decide +kernel), List.mem_of_getElem? (i := 1611) (by decide +kernel)⟩
theorem lw_p90 : lw_okq (⟨"SnowFortsModel", "isBuild", "()Z"⟩, 42) := ⟨⟨by decide +kernel, by decide +kernel⟩, List.mem_of_getElem? (i := 1299) (by decide +kernel), List.mem_of_getElem? (i := 1614) (by decide +kernel), List.mem_of_getElem? (i := 1615) (by decide +kernel)⟩
theorem lw_p91 : lw_okq (⟨"SnowFortsModel", "isIce", "()Z"⟩, 42) := ⟨⟨by decide +kernel, by decide +kernel⟩, List.mem_of_getElem? (i := 1299) (by decide +kernel), List.mem_of_getElem? (i := 1618) (by decide +kernel), List.mem_of_getElem? (i := 1619) (by decide +kernel)⟩
theorem lw_p92 : lw_okq (⟨"SnowFortsModel", "isSteal", "()Z"⟩, 42) := ⟨⟨by decide +kernel, by decide +kernel⟩, List.mem_of_getElem? (i := 1299) (by decide +kernel), List.mem_of_getElem? (i := 1622) (by decide +kernel), List.mem_of_getElem? (i := 1623) (by decide +kernel)⟩
theorem lw_p93 : lw_okq (⟨"SnowFortsModel", "testWord", "()I"⟩, 42) := ⟨⟨by decide +kernel, by decide +kernel⟩, List.mem_of_getElem? (i := 1299) (by decide +kernel), List.mem_of_getElem? (i := 1626) (by decide +kernel), List.mem_of_getElem? (i := 1627) (by decide +kernel)⟩
theorem lw_p94 : lw_okq (⟨"SnowFortsModel", "isWall", "()Z"⟩, 42) := ⟨⟨by decide +kernel, by decide +kernel⟩, List.mem_of_getElem? (i := 1299) (by decide +kernel), List.mem_of_getElem? (i := 1630) (by decide +kernel), List.mem_of_getElem? (i := 1631) (by decide +kernel)⟩
theorem lw_p95 : lw_okq (⟨"SnowFortsModel", "isEnd", "()Z"⟩, 42) := ⟨⟨by decide +kernel, by decide +kernel⟩, List.mem_of_getElem? (i := 1299) (by decide +kernel), List.mem_of_getElem? (i := 1634) (by decide +kernel), List.mem_of_getElem? (i := 1635) (by decide +kernel)⟩
def lw_privs_6 : List (MethodName × Nat) := [(⟨"SnowFortsModel", "isDeep", "()Z"⟩, 42), (⟨"SnowFortsModel", "isTall", "()Z"⟩, 42), (⟨"SnowFortsModel", "isSun", "()Z"⟩, 42), (⟨"SnowFortsModel", "isBy", "()Z"⟩, 42), (⟨"SnowFortsModel", "isNo", "()Z"⟩, 42), (⟨"SnowFortsModel", "isAbove", "()Z"⟩, 42), (⟨"SnowFortsModel", "isBehind", "()Z"⟩, 42), (⟨"SnowFortsModel", "isTo", "()Z"⟩, 42), (⟨"SnowFortsModel", "isFrom", "()Z"⟩, 42), (⟨"SnowFortsModel", "stepWord", "()I"⟩, 42), (⟨"SnowFortsModel", "isBuild", "()Z"⟩, 42), (⟨"SnowFortsModel", "isIce", "()Z"⟩, 42), (⟨"SnowFortsModel", "isSteal", "()Z"⟩, 42), (⟨"SnowFortsModel", "testWord", "()I"⟩, 42), (⟨"SnowFortsModel", "isWall", "()Z"⟩, 42), (⟨"SnowFortsModel", "isEnd", "()Z"⟩, 42)]
theorem lw_r6 : ∀ q ∈ lw_privs_6, lw_okq q := List.forall_mem_cons.mpr ⟨lw_p80, List.forall_mem_cons.mpr ⟨lw_p81, List.forall_mem_cons.mpr ⟨lw_p82, List.forall_mem_cons.mpr ⟨lw_p83, List.forall_mem_cons.mpr ⟨lw_p84, List.forall_mem_cons.mpr ⟨lw_p85, List.forall_mem_cons.mpr ⟨lw_p86, List.forall_mem_cons.mpr ⟨lw_p87, List.forall_mem_cons.mpr ⟨lw_p88, List.forall_mem_cons.mpr ⟨lw_p89, List.forall_mem_cons.mpr ⟨lw_p90, List.forall_mem_cons.mpr ⟨lw_p91, List.forall_mem_cons.mpr ⟨lw_p92, List.forall_mem_cons.mpr ⟨lw_p93, List.forall_mem_cons.mpr ⟨lw_p94, List.forall_mem_cons.mpr ⟨lw_p95, fun _ h => absurd h List.not_mem_nil⟩⟩⟩⟩⟩⟩⟩⟩⟩⟩⟩⟩⟩⟩⟩⟩
theorem lw_p96 : lw_okq (⟨"SnowFortsModel", "readCell", "(I)V"⟩, 42) := ⟨⟨by decide +kernel, by decide +kernel⟩, List.mem_of_getElem? (i := 1299) (by decide +kernel), List.mem_of_getElem? (i := 1638) (by decide +kernel), List.mem_of_getElem? (i := 1639) (by decide +kernel)⟩
theorem lw_p97 : lw_okq (⟨"SnowFortsModel", "readArticle", "()V"⟩, 42) := ⟨⟨by decide +kernel, by decide +kernel⟩, List.mem_of_getElem? (i := 1299) (by decide +kernel), List.mem_of_getElem? (i := 1642) (by decide +kernel), List.mem_of_getElem? (i := 1643) (by decide +kernel)⟩
theorem lw_p98 : lw_okq (⟨"SnowFortsModel", "isWell", "()Z"⟩, 42) := ⟨⟨by decide +kernel, by decide +kernel⟩, List.mem_of_getElem? (i := 1299) (by decide +kernel), List.mem_of_getElem? (i := 1646) (by decide +kernel), List.mem_of_getElem? (i := 1647) (by decide +kernel)⟩
theorem lw_p99 : lw_okq (⟨"SnowFortsModel", "readStep", "(I)V"⟩, 42) := ⟨⟨by decide +kernel, by decide +kernel⟩, List.mem_of_getElem? (i := 1299) (by decide +kernel), List.mem_of_getElem? (i := 1654) (by decide +kernel), List.mem_of_getElem? (i := 1655) (by decide +kernel)⟩
theorem lw_p100 : lw_okq (⟨"SnowFortsModel", "readRest", "(I)V"⟩, 42) := ⟨⟨by decide +kernel, by decide +kernel⟩, List.mem_of_getElem? (i := 1299) (by decide +kernel), List.mem_of_getElem? (i := 1658) (by decide +kernel), List.mem_of_getElem? (i := 1659) (by decide +kernel)⟩
theorem lw_p101 : lw_okq (⟨"SnowFortsModel", "readPlace", "(Z)I"⟩, 42) := ⟨⟨by decide +kernel, by decide +kernel⟩, List.mem_of_getElem? (i := 1299) (by decide +kernel), List.mem_of_getElem? (i := 1662) (by decide +kernel), List.mem_of_getElem? (i := 1663) (by decide +kernel)⟩
theorem lw_p102 : lw_okq (⟨"SnowFortsModel", "halfOf", "(I)I"⟩, 42) := ⟨⟨by decide +kernel, by decide +kernel⟩, List.mem_of_getElem? (i := 1299) (by decide +kernel), List.mem_of_getElem? (i := 1666) (by decide +kernel), List.mem_of_getElem? (i := 1667) (by decide +kernel)⟩
theorem lw_p103 : lw_okq (⟨"SnowFortsModel", "readSteal", "(I)V"⟩, 42) := ⟨⟨by decide +kernel, by decide +kernel⟩, List.mem_of_getElem? (i := 1299) (by decide +kernel), List.mem_of_getElem? (i := 1670) (by decide +kernel), List.mem_of_getElem? (i := 1671) (by decide +kernel)⟩
theorem lw_p104 : lw_okq (⟨"SnowFortsModel", "readTest", "(I)V"⟩, 42) := ⟨⟨by decide +kernel, by decide +kernel⟩, List.mem_of_getElem? (i := 1299) (by decide +kernel), List.mem_of_getElem? (i := 1674) (by decide +kernel), List.mem_of_getElem? (i := 1675) (by decide +kernel)⟩
theorem lw_p105 : lw_okq (⟨"SnowFortsModel", "allOf", "(I)I"⟩, 42) := ⟨⟨by decide +kernel, by decide +kernel⟩, List.mem_of_getElem? (i := 1299) (by decide +kernel), List.mem_of_getElem? (i := 1682) (by decide +kernel), List.mem_of_getElem? (i := 1683) (by decide +kernel)⟩
theorem lw_p106 : lw_okq (⟨"SnowFortsModel", "refuse", "(I)I"⟩, 42) := ⟨⟨by decide +kernel, by decide +kernel⟩, List.mem_of_getElem? (i := 1299) (by decide +kernel), List.mem_of_getElem? (i := 1686) (by decide +kernel), List.mem_of_getElem? (i := 1687) (by decide +kernel)⟩
theorem lw_p107 : lw_okq (⟨"SnowFortsModel", "isCell", "(II)Z"⟩, 42) := ⟨⟨by decide +kernel, by decide +kernel⟩, List.mem_of_getElem? (i := 1299) (by decide +kernel), List.mem_of_getElem? (i := 1694) (by decide +kernel), List.mem_of_getElem? (i := 1695) (by decide +kernel)⟩
theorem lw_p108 : lw_okq (⟨"SnowFortsModel", "isSchoolAt", "(I)Z"⟩, 42) := ⟨⟨by decide +kernel, by decide +kernel⟩, List.mem_of_getElem? (i := 1299) (by decide +kernel), List.mem_of_getElem? (i := 1705) (by decide +kernel), List.mem_of_getElem? (i := 1706) (by decide +kernel)⟩
theorem lw_p109 : lw_okq (⟨"SnowFortsModel", "allOfHalf", "(II)I"⟩, 42) := ⟨⟨by decide +kernel, by decide +kernel⟩, List.mem_of_getElem? (i := 1299) (by decide +kernel), List.mem_of_getElem? (i := 1709) (by decide +kernel), List.mem_of_getElem? (i := 1710) (by decide +kernel)⟩
theorem lw_p110 : lw_okq (⟨"SnowFortsModel", "falls", "(I)I"⟩, 42) := ⟨⟨by decide +kernel, by decide +kernel⟩, List.mem_of_getElem? (i := 1299) (by decide +kernel), List.mem_of_getElem? (i := 1728) (by decide +kernel), List.mem_of_getElem? (i := 1729) (by decide +kernel)⟩
theorem lw_p111 : lw_okq (⟨"SnowFortsModel", "thaws", "(I)I"⟩, 42) := ⟨⟨by decide +kernel, by decide +kernel⟩, List.mem_of_getElem? (i := 1299) (by decide +kernel), List.mem_of_getElem? (i := 1737) (by decide +kernel), List.mem_of_getElem? (i := 1738) (by decide +kernel)⟩
def lw_privs_7 : List (MethodName × Nat) := [(⟨"SnowFortsModel", "readCell", "(I)V"⟩, 42), (⟨"SnowFortsModel", "readArticle", "()V"⟩, 42), (⟨"SnowFortsModel", "isWell", "()Z"⟩, 42), (⟨"SnowFortsModel", "readStep", "(I)V"⟩, 42), (⟨"SnowFortsModel", "readRest", "(I)V"⟩, 42), (⟨"SnowFortsModel", "readPlace", "(Z)I"⟩, 42), (⟨"SnowFortsModel", "halfOf", "(I)I"⟩, 42), (⟨"SnowFortsModel", "readSteal", "(I)V"⟩, 42), (⟨"SnowFortsModel", "readTest", "(I)V"⟩, 42), (⟨"SnowFortsModel", "allOf", "(I)I"⟩, 42), (⟨"SnowFortsModel", "refuse", "(I)I"⟩, 42), (⟨"SnowFortsModel", "isCell", "(II)Z"⟩, 42), (⟨"SnowFortsModel", "isSchoolAt", "(I)Z"⟩, 42), (⟨"SnowFortsModel", "allOfHalf", "(II)I"⟩, 42), (⟨"SnowFortsModel", "falls", "(I)I"⟩, 42), (⟨"SnowFortsModel", "thaws", "(I)I"⟩, 42)]
theorem lw_r7 : ∀ q ∈ lw_privs_7, lw_okq q := List.forall_mem_cons.mpr ⟨lw_p96, List.forall_mem_cons.mpr ⟨lw_p97, List.forall_mem_cons.mpr ⟨lw_p98, List.forall_mem_cons.mpr ⟨lw_p99, List.forall_mem_cons.mpr ⟨lw_p100, List.forall_mem_cons.mpr ⟨lw_p101, List.forall_mem_cons.mpr ⟨lw_p102, List.forall_mem_cons.mpr ⟨lw_p103, List.forall_mem_cons.mpr ⟨lw_p104, List.forall_mem_cons.mpr ⟨lw_p105, List.forall_mem_cons.mpr ⟨lw_p106, List.forall_mem_cons.mpr ⟨lw_p107, List.forall_mem_cons.mpr ⟨lw_p108, List.forall_mem_cons.mpr ⟨lw_p109, List.forall_mem_cons.mpr ⟨lw_p110, List.forall_mem_cons.mpr ⟨lw_p111, fun _ h => absurd h List.not_mem_nil⟩⟩⟩⟩⟩⟩⟩⟩⟩⟩⟩⟩⟩⟩⟩⟩
theorem lw_p112 : lw_okq (⟨"SnowFortsModel", "isOwned", "(II)Z"⟩, 42) := ⟨⟨by decide +kernel, by decide +kernel⟩, List.mem_of_getElem? (i := 1299) (by decide +kernel), List.mem_of_getElem? (i := 1746) (by decide +kernel), List.mem_of_getElem? (i := 1747) (by decide +kernel)⟩
theorem lw_p113 : lw_okq (⟨"SnowFortsModel", "builds", "(II)I"⟩, 42) := ⟨⟨by decide +kernel, by decide +kernel⟩, List.mem_of_getElem? (i := 1299) (by decide +kernel), List.mem_of_getElem? (i := 1750) (by decide +kernel), List.mem_of_getElem? (i := 1751) (by decide +kernel)⟩
theorem lw_p114 : lw_okq (⟨"SnowFortsModel", "isHand", "(II)Z"⟩, 42) := ⟨⟨by decide +kernel, by decide +kernel⟩, List.mem_of_getElem? (i := 1299) (by decide +kernel), List.mem_of_getElem? (i := 1754) (by decide +kernel), List.mem_of_getElem? (i := 1755) (by decide +kernel)⟩
theorem lw_p115 : lw_okq (⟨"SnowFortsModel", "acrossOf", "(I)I"⟩, 42) := ⟨⟨by decide +kernel, by decide +kernel⟩, List.mem_of_getElem? (i := 1299) (by decide +kernel), List.mem_of_getElem? (i := 1758) (by decide +kernel), List.mem_of_getElem? (i := 1759) (by decide +kernel)⟩
theorem lw_p116 : lw_okq (⟨"SnowFortsModel", "breaks", "(III)V"⟩, 42) := ⟨⟨by decide +kernel, by decide +kernel⟩, List.mem_of_getElem? (i := 1299) (by decide +kernel), List.mem_of_getElem? (i := 1762) (by decide +kernel), List.mem_of_getElem? (i := 1763) (by decide +kernel)⟩
theorem lw_p117 : lw_okq (⟨"SnowFortsModel", "ices", "(I)Z"⟩, 42) := ⟨⟨by decide +kernel, by decide +kernel⟩, List.mem_of_getElem? (i := 1299) (by decide +kernel), List.mem_of_getElem? (i := 1770) (by decide +kernel), List.mem_of_getElem? (i := 1771) (by decide +kernel)⟩
theorem lw_p118 : lw_okq (⟨"SnowFortsModel", "steals", "(III)I"⟩, 42) := ⟨⟨by decide +kernel, by decide +kernel⟩, List.mem_of_getElem? (i := 1299) (by decide +kernel), List.mem_of_getElem? (i := 1778) (by decide +kernel), List.mem_of_getElem? (i := 1779) (by decide +kernel)⟩
theorem lw_p119 : lw_okq (⟨"SnowFortsModel", "nights", "()Z"⟩, 42) := ⟨⟨by decide +kernel, by decide +kernel⟩, List.mem_of_getElem? (i := 1299) (by decide +kernel), List.mem_of_getElem? (i := 1786) (by decide +kernel), List.mem_of_getElem? (i := 1787) (by decide +kernel)⟩
theorem lw_p120 : lw_okq (⟨"SnowFortsModel", "freeOf", "(I)I"⟩, 42) := ⟨⟨by decide +kernel, by decide +kernel⟩, List.mem_of_getElem? (i := 1299) (by decide +kernel), List.mem_of_getElem? (i := 1794) (by decide +kernel), List.mem_of_getElem? (i := 1795) (by decide +kernel)⟩
theorem lw_p121 : lw_okq (⟨"SnowFortsModel", "lateRest", "(I)I"⟩, 42) := ⟨⟨by decide +kernel, by decide +kernel⟩, List.mem_of_getElem? (i := 1299) (by decide +kernel), List.mem_of_getElem? (i := 1798) (by decide +kernel), List.mem_of_getElem? (i := 1799) (by decide +kernel)⟩
theorem lw_p122 : lw_okq (⟨"SnowFortsModel", "topOf", "(I)I"⟩, 42) := ⟨⟨by decide +kernel, by decide +kernel⟩, List.mem_of_getElem? (i := 1299) (by decide +kernel), List.mem_of_getElem? (i := 1811) (by decide +kernel), List.mem_of_getElem? (i := 1812) (by decide +kernel)⟩
theorem lw_p123 : lw_okq (⟨"SnowFortsModel", "mayBe", "(II)Z"⟩, 42) := ⟨⟨by decide +kernel, by decide +kernel⟩, List.mem_of_getElem? (i := 1299) (by decide +kernel), List.mem_of_getElem? (i := 1832) (by decide +kernel), List.mem_of_getElem? (i := 1833) (by decide +kernel)⟩
theorem lw_p124 : lw_okq (⟨"SnowFortsModel", "lastingOf", "(III)I"⟩, 42) := ⟨⟨by decide +kernel, by decide +kernel⟩, List.mem_of_getElem? (i := 1299) (by decide +kernel), List.mem_of_getElem? (i := 1842) (by decide +kernel), List.mem_of_getElem? (i := 1843) (by decide +kernel)⟩
theorem lw_p125 : lw_okq (⟨"SnowFortsModel", "ways", "()I"⟩, 42) := ⟨⟨by decide +kernel, by decide +kernel⟩, List.mem_of_getElem? (i := 1299) (by decide +kernel), List.mem_of_getElem? (i := 1850) (by decide +kernel), List.mem_of_getElem? (i := 1851) (by decide +kernel)⟩
theorem lw_p126 : lw_okq (⟨"SnowFortsModel", "goesBy", "(II)I"⟩, 42) := ⟨⟨by decide +kernel, by decide +kernel⟩, List.mem_of_getElem? (i := 1299) (by decide +kernel), List.mem_of_getElem? (i := 1854) (by decide +kernel), List.mem_of_getElem? (i := 1855) (by decide +kernel)⟩
theorem lw_p127 : lw_okq (⟨"SnowFortsModel", "beside", "(II)I"⟩, 42) := ⟨⟨by decide +kernel, by decide +kernel⟩, List.mem_of_getElem? (i := 1299) (by decide +kernel), List.mem_of_getElem? (i := 1858) (by decide +kernel), List.mem_of_getElem? (i := 1859) (by decide +kernel)⟩
def lw_privs_8 : List (MethodName × Nat) := [(⟨"SnowFortsModel", "isOwned", "(II)Z"⟩, 42), (⟨"SnowFortsModel", "builds", "(II)I"⟩, 42), (⟨"SnowFortsModel", "isHand", "(II)Z"⟩, 42), (⟨"SnowFortsModel", "acrossOf", "(I)I"⟩, 42), (⟨"SnowFortsModel", "breaks", "(III)V"⟩, 42), (⟨"SnowFortsModel", "ices", "(I)Z"⟩, 42), (⟨"SnowFortsModel", "steals", "(III)I"⟩, 42), (⟨"SnowFortsModel", "nights", "()Z"⟩, 42), (⟨"SnowFortsModel", "freeOf", "(I)I"⟩, 42), (⟨"SnowFortsModel", "lateRest", "(I)I"⟩, 42), (⟨"SnowFortsModel", "topOf", "(I)I"⟩, 42), (⟨"SnowFortsModel", "mayBe", "(II)Z"⟩, 42), (⟨"SnowFortsModel", "lastingOf", "(III)I"⟩, 42), (⟨"SnowFortsModel", "ways", "()I"⟩, 42), (⟨"SnowFortsModel", "goesBy", "(II)I"⟩, 42), (⟨"SnowFortsModel", "beside", "(II)I"⟩, 42)]
theorem lw_r8 : ∀ q ∈ lw_privs_8, lw_okq q := List.forall_mem_cons.mpr ⟨lw_p112, List.forall_mem_cons.mpr ⟨lw_p113, List.forall_mem_cons.mpr ⟨lw_p114, List.forall_mem_cons.mpr ⟨lw_p115, List.forall_mem_cons.mpr ⟨lw_p116, List.forall_mem_cons.mpr ⟨lw_p117, List.forall_mem_cons.mpr ⟨lw_p118, List.forall_mem_cons.mpr ⟨lw_p119, List.forall_mem_cons.mpr ⟨lw_p120, List.forall_mem_cons.mpr ⟨lw_p121, List.forall_mem_cons.mpr ⟨lw_p122, List.forall_mem_cons.mpr ⟨lw_p123, List.forall_mem_cons.mpr ⟨lw_p124, List.forall_mem_cons.mpr ⟨lw_p125, List.forall_mem_cons.mpr ⟨lw_p126, List.forall_mem_cons.mpr ⟨lw_p127, fun _ h => absurd h List.not_mem_nil⟩⟩⟩⟩⟩⟩⟩⟩⟩⟩⟩⟩⟩⟩⟩⟩
theorem lw_p128 : lw_okq (⟨"SnowFortsModel", "hidingOf", "(I)I"⟩, 42) := ⟨⟨by decide +kernel, by decide +kernel⟩, List.mem_of_getElem? (i := 1299) (by decide +kernel), List.mem_of_getElem? (i := 1881) (by decide +kernel), List.mem_of_getElem? (i := 1882) (by decide +kernel)⟩
theorem lw_p129 : lw_okq (⟨"SnowFortsModel", "isTray", "(I)Z"⟩, 42) := ⟨⟨by decide +kernel, by decide +kernel⟩, List.mem_of_getElem? (i := 1299) (by decide +kernel), List.mem_of_getElem? (i := 1894) (by decide +kernel), List.mem_of_getElem? (i := 1895) (by decide +kernel)⟩
theorem lw_p130 : lw_okq (⟨"SnowFortsModel", "numberOf", "(II)J"⟩, 42) := ⟨⟨by decide +kernel, by decide +kernel⟩, List.mem_of_getElem? (i := 1299) (by decide +kernel), List.mem_of_getElem? (i := 1900) (by decide +kernel), List.mem_of_getElem? (i := 1901) (by decide +kernel)⟩
theorem lw_p131 : lw_okq (⟨"SnowFortsModel", "isGame", "(IIII)Z"⟩, 42) := ⟨⟨by decide +kernel, by decide +kernel⟩, List.mem_of_getElem? (i := 1299) (by decide +kernel), List.mem_of_getElem? (i := 1916) (by decide +kernel), List.mem_of_getElem? (i := 1917) (by decide +kernel)⟩
theorem lw_p132 : lw_okq (⟨"SnowFortsModel", "reckons", "(III)I"⟩, 42) := ⟨⟨by decide +kernel, by decide +kernel⟩, List.mem_of_getElem? (i := 1299) (by decide +kernel), List.mem_of_getElem? (i := 1931) (by decide +kernel), List.mem_of_getElem? (i := 1932) (by decide +kernel)⟩
theorem lw_p133 : lw_okq (⟨"SnowFortsModel", "fraction", "(JJ)Z"⟩, 42) := ⟨⟨by decide +kernel, by decide +kernel⟩, List.mem_of_getElem? (i := 1299) (by decide +kernel), List.mem_of_getElem? (i := 1940) (by decide +kernel), List.mem_of_getElem? (i := 1941) (by decide +kernel)⟩
theorem lw_p134 : lw_okq (⟨"SnowFortsModel", "runs", "(I)V"⟩, 42) := ⟨⟨by decide +kernel, by decide +kernel⟩, List.mem_of_getElem? (i := 1299) (by decide +kernel), List.mem_of_getElem? (i := 1956) (by decide +kernel), List.mem_of_getElem? (i := 1957) (by decide +kernel)⟩
theorem lw_p135 : lw_okq (⟨"SnowFortsModel", "doAll", "(II)V"⟩, 42) := ⟨⟨by decide +kernel, by decide +kernel⟩, List.mem_of_getElem? (i := 1299) (by decide +kernel), List.mem_of_getElem? (i := 1960) (by decide +kernel), List.mem_of_getElem? (i := 1961) (by decide +kernel)⟩
theorem lw_p136 : lw_okq (⟨"SnowFortsModel", "doOne", "(I)V"⟩, 42) := ⟨⟨by decide +kernel, by decide +kernel⟩, List.mem_of_getElem? (i := 1299) (by decide +kernel), List.mem_of_getElem? (i := 1964) (by decide +kernel), List.mem_of_getElem? (i := 1965) (by decide +kernel)⟩
theorem lw_p137 : lw_okq (⟨"SnowFortsModel", "does", "(I)Z"⟩, 42) := ⟨⟨by decide +kernel, by decide +kernel⟩, List.mem_of_getElem? (i := 1299) (by decide +kernel), List.mem_of_getElem? (i := 1968) (by decide +kernel), List.mem_of_getElem? (i := 1969) (by decide +kernel)⟩
theorem lw_p138 : lw_okq (⟨"SnowFortsModel", "draw", "(I)I"⟩, 42) := ⟨⟨by decide +kernel, by decide +kernel⟩, List.mem_of_getElem? (i := 1299) (by decide +kernel), List.mem_of_getElem? (i := 1972) (by decide +kernel), List.mem_of_getElem? (i := 1973) (by decide +kernel)⟩
theorem lw_p139 : lw_okq (⟨"SnowFortsModel", "isSo", "(I)Z"⟩, 42) := ⟨⟨by decide +kernel, by decide +kernel⟩, List.mem_of_getElem? (i := 1299) (by decide +kernel), List.mem_of_getElem? (i := 1977) (by decide +kernel), List.mem_of_getElem? (i := 1978) (by decide +kernel)⟩
theorem lw_p140 : lw_okq (⟨"SnowFortsModel", "copy", "(II)V"⟩, 42) := ⟨⟨by decide +kernel, by decide +kernel⟩, List.mem_of_getElem? (i := 1299) (by decide +kernel), List.mem_of_getElem? (i := 1993) (by decide +kernel), List.mem_of_getElem? (i := 1994) (by decide +kernel)⟩
def lw_privs_9 : List (MethodName × Nat) := [(⟨"SnowFortsModel", "hidingOf", "(I)I"⟩, 42), (⟨"SnowFortsModel", "isTray", "(I)Z"⟩, 42), (⟨"SnowFortsModel", "numberOf", "(II)J"⟩, 42), (⟨"SnowFortsModel", "isGame", "(IIII)Z"⟩, 42), (⟨"SnowFortsModel", "reckons", "(III)I"⟩, 42), (⟨"SnowFortsModel", "fraction", "(JJ)Z"⟩, 42), (⟨"SnowFortsModel", "runs", "(I)V"⟩, 42), (⟨"SnowFortsModel", "doAll", "(II)V"⟩, 42), (⟨"SnowFortsModel", "doOne", "(I)V"⟩, 42), (⟨"SnowFortsModel", "does", "(I)Z"⟩, 42), (⟨"SnowFortsModel", "draw", "(I)I"⟩, 42), (⟨"SnowFortsModel", "isSo", "(I)Z"⟩, 42), (⟨"SnowFortsModel", "copy", "(II)V"⟩, 42)]
theorem lw_r9 : ∀ q ∈ lw_privs_9, lw_okq q := List.forall_mem_cons.mpr ⟨lw_p128, List.forall_mem_cons.mpr ⟨lw_p129, List.forall_mem_cons.mpr ⟨lw_p130, List.forall_mem_cons.mpr ⟨lw_p131, List.forall_mem_cons.mpr ⟨lw_p132, List.forall_mem_cons.mpr ⟨lw_p133, List.forall_mem_cons.mpr ⟨lw_p134, List.forall_mem_cons.mpr ⟨lw_p135, List.forall_mem_cons.mpr ⟨lw_p136, List.forall_mem_cons.mpr ⟨lw_p137, List.forall_mem_cons.mpr ⟨lw_p138, List.forall_mem_cons.mpr ⟨lw_p139, List.forall_mem_cons.mpr ⟨lw_p140, fun _ h => absurd h List.not_mem_nil⟩⟩⟩⟩⟩⟩⟩⟩⟩⟩⟩⟩⟩
def lw_privs : List (MethodName × Nat) := lw_privs_1 ++ (lw_privs_2 ++ (lw_privs_3 ++ (lw_privs_4 ++ (lw_privs_5 ++ (lw_privs_6 ++ (lw_privs_7 ++ (lw_privs_8 ++ (lw_privs_9))))))))
def lw_tbl : List Cond := k2_sels lw_privs ++ tables_1
theorem lw_privs_ok : ∀ q ∈ lw_privs, lw_okq q := by
  show ∀ q ∈ lw_privs_1 ++ (lw_privs_2 ++ (lw_privs_3 ++ (lw_privs_4 ++ (lw_privs_5 ++ (lw_privs_6 ++ (lw_privs_7 ++ (lw_privs_8 ++ (lw_privs_9)))))))), lw_okq q
  exact List.forall_mem_append.mpr ⟨lw_r1, List.forall_mem_append.mpr ⟨lw_r2, List.forall_mem_append.mpr ⟨lw_r3, List.forall_mem_append.mpr ⟨lw_r4, List.forall_mem_append.mpr ⟨lw_r5, List.forall_mem_append.mpr ⟨lw_r6, List.forall_mem_append.mpr ⟨lw_r7, List.forall_mem_append.mpr ⟨lw_r8, lw_r9⟩⟩⟩⟩⟩⟩⟩⟩
def RX0 : String := "SnowForts$Mornings"
def TX0 : u_T := fun k => match k with
  | 0 => ("SnowForts$Mornings", "rows", "J", false)
  | 1 => ("SnowForts$Mornings", "fewest", "I", false)
  | 2 => ("SnowForts$Mornings", "greatest", "I", false)
  | _ => ("SnowForts$Mornings", "hardest", "I", false)
def tyX0 : Nat → FieldType := fun k => match k with
  | 0 => .long
  | 1 => .int
  | 2 => .int
  | _ => .int
abbrev wsX00 : List Cond := u_ws RX0 TX0 4
theorem nmX0 : ∀ a, a < 4 → ∀ b, b < 4 → a ≠ b → (TX0 a).2.1 ≠ (TX0 b).2.1 := by decide +kernel
theorem tyX0_ok : ∀ k, k < 4 → parseFieldDescriptor (TX0 k).2.2.1 = some (tyX0 k) := by decide +kernel
abbrev cX0_init : ByteArray := prog_2_method_1_code
def yX0_init : MethodName := ⟨RX0, "<init>", "()V"⟩
abbrev cX0_explain : ByteArray := prog_2_method_2_code
def yX0_explain : MethodName := ⟨RX0, "explain", "(LSnowForts$Tray;LSnowForts$Tray;I)V"⟩
def RX1 : String := "SnowForts$Odds"
def TX1 : u_T := fun k => match k with
  | 0 => ("SnowForts$Odds", "upper", "J", false)
  | 1 => ("SnowForts$Odds", "lower", "J", false)
  | 2 => ("SnowForts$Odds", "cases", "[J", true)
  | _ => ("SnowForts$Odds", "allCases", "J", false)
def tyX1 : Nat → FieldType := fun k => match k with
  | 0 => .long
  | 1 => .long
  | 2 => .array .long
  | _ => .long
abbrev wsX10 : List Cond := u_ws RX1 TX1 4
theorem nmX1 : ∀ a, a < 4 → ∀ b, b < 4 → a ≠ b → (TX1 a).2.1 ≠ (TX1 b).2.1 := by decide +kernel
theorem tyX1_ok : ∀ k, k < 4 → parseFieldDescriptor (TX1 k).2.2.1 = some (tyX1 k) := by decide +kernel
abbrev cX1_init : ByteArray := prog_3_method_1_code
def yX1_init : MethodName := ⟨RX1, "<init>", "()V"⟩
abbrev cX1_canBe : ByteArray := prog_3_method_2_code
def yX1_canBe : MethodName := ⟨RX1, "canBe", "(LSnowForts$Tray;)Z"⟩
abbrev cX1_spread : ByteArray := prog_3_method_3_code
def yX1_spread : MethodName := ⟨RX1, "spread", "(IILSnowForts$Tray;)V"⟩
abbrev cX1_casesOf : ByteArray := prog_3_method_4_code
def yX1_casesOf : MethodName := ⟨RX1, "casesOf", "(ILSnowForts$Tray;)J"⟩
abbrev cX1_casesOfNone : ByteArray := prog_3_method_5_code
def yX1_casesOfNone : MethodName := ⟨RX1, "casesOfNone", "(LSnowForts$Tray;)J"⟩
abbrev cX1_tellStanding : ByteArray := prog_3_method_6_code
def yX1_tellStanding : MethodName := ⟨RX1, "tellStanding", "()V"⟩
abbrev cX1_tellMean : ByteArray := prog_3_method_7_code
def yX1_tellMean : MethodName := ⟨RX1, "tellMean", "()V"⟩
abbrev cX1_tellFraction : ByteArray := prog_3_method_8_code
def yX1_tellFraction : MethodName := ⟨RX1, "tellFraction", "(JJ)V"⟩
def RX2 : String := "SnowForts$Orders"
def TX2 : u_T := fun k => match k with
  | 0 => ("SnowForts$Orders", "given", "Z", false)
  | 1 => ("SnowForts$Orders", "items", "I", false)
  | 2 => ("SnowForts$Orders", "steps", "I", false)
  | 3 => ("SnowForts$Orders", "kinds", "[I", true)
  | 4 => ("SnowForts$Orders", "amounts", "[I", true)
  | 5 => ("SnowForts$Orders", "seconds", "[I", true)
  | 6 => ("SnowForts$Orders", "cells", "[I", true)
  | 7 => ("SnowForts$Orders", "froms", "[I", true)
  | _ => ("SnowForts$Orders", "partners", "[I", true)
def tyX2 : Nat → FieldType := fun k => match k with
  | 0 => .boolean
  | 1 => .int
  | 2 => .int
  | 3 => .array .int
  | 4 => .array .int
  | 5 => .array .int
  | 6 => .array .int
  | 7 => .array .int
  | _ => .array .int
abbrev wsX20 : List Cond := u_ws RX2 TX2 9
theorem nmX2 : ∀ a, a < 9 → ∀ b, b < 9 → a ≠ b → (TX2 a).2.1 ≠ (TX2 b).2.1 := by decide +kernel
theorem tyX2_ok : ∀ k, k < 9 → parseFieldDescriptor (TX2 k).2.2.1 = some (tyX2 k) := by decide +kernel
abbrev cX2_init : ByteArray := prog_4_method_1_code
def yX2_init : MethodName := ⟨RX2, "<init>", "()V"⟩
abbrev cX2_clear : ByteArray := prog_4_method_2_code
def yX2_clear : MethodName := ⟨RX2, "clear", "()V"⟩
abbrev cX2_copyOf : ByteArray := prog_4_method_3_code
def yX2_copyOf : MethodName := ⟨RX2, "copyOf", "(LSnowForts$Orders;)V"⟩
abbrev cX2_isItem : ByteArray := prog_4_method_4_code
def yX2_isItem : MethodName := ⟨RX2, "isItem", "(I)Z"⟩
def RX3 : String := "SnowForts$OrdersText"
def TX3 : u_T := fun k => match k with
  | 0 => ("SnowForts$OrdersText", "reader", "LSnowForts$Reader;", true)
  | 1 => ("SnowForts$OrdersText", "openers", "[I", true)
  | 2 => ("SnowForts$OrdersText", "depth", "I", false)
  | _ => ("SnowForts$OrdersText", "item", "I", false)
def tyX3 : Nat → FieldType := fun k => match k with
  | 0 => .object "SnowForts$Reader"
  | 1 => .array .int
  | 2 => .int
  | _ => .int
abbrev wsX30 : List Cond := u_ws RX3 TX3 4
theorem nmX3 : ∀ a, a < 4 → ∀ b, b < 4 → a ≠ b → (TX3 a).2.1 ≠ (TX3 b).2.1 := by decide +kernel
theorem tyX3_ok : ∀ k, k < 4 → parseFieldDescriptor (TX3 k).2.2.1 = some (tyX3 k) := by decide +kernel
abbrev cX3_init : ByteArray := prog_5_method_1_code
def yX3_init : MethodName := ⟨RX3, "<init>", "(LSnowForts$Reader;)V"⟩
abbrev cX3_parse : ByteArray := prog_5_method_2_code
def yX3_parse : MethodName := ⟨RX3, "parse", "(ILSnowForts$Yard;LSnowForts$Orders;)Z"⟩
abbrev cX3_takeEnd : ByteArray := prog_5_method_3_code
def yX3_takeEnd : MethodName := ⟨RX3, "takeEnd", "(LSnowForts$Orders;)Z"⟩
abbrev cX3_takeStep : ByteArray := prog_5_method_4_code
def yX3_takeStep : MethodName := ⟨RX3, "takeStep", "(LSnowForts$Yard;LSnowForts$Orders;)Z"⟩
abbrev cX3_kindOf : ByteArray := prog_5_method_5_code
def yX3_kindOf : MethodName := ⟨RX3, "kindOf", "(LSnowForts$Word;)I"⟩
abbrev cX3_takeRest : ByteArray := prog_5_method_6_code
def yX3_takeRest : MethodName := ⟨RX3, "takeRest", "(ILSnowForts$Yard;LSnowForts$Orders;)Z"⟩
abbrev cX3_takeAmount : ByteArray := prog_5_method_7_code
def yX3_takeAmount : MethodName := ⟨RX3, "takeAmount", "(LSnowForts$Orders;II)Z"⟩
abbrev cX3_takeStorm : ByteArray := prog_5_method_8_code
def yX3_takeStorm : MethodName := ⟨RX3, "takeStorm", "(LSnowForts$Orders;)Z"⟩
abbrev cX3_takeCell : ByteArray := prog_5_method_9_code
def yX3_takeCell : MethodName := ⟨RX3, "takeCell", "(LSnowForts$Yard;Z[I)Z"⟩
abbrev cX3_crossesHalves : ByteArray := prog_5_method_10_code
def yX3_crossesHalves : MethodName := ⟨RX3, "crossesHalves", "(LSnowForts$Yard;LSnowForts$Orders;)Z"⟩
abbrev cX3_takeTest : ByteArray := prog_5_method_11_code
def yX3_takeTest : MethodName := ⟨RX3, "takeTest", "(LSnowForts$Yard;LSnowForts$Orders;)Z"⟩
abbrev cX3_takeComparing : ByteArray := prog_5_method_12_code
def yX3_takeComparing : MethodName := ⟨RX3, "takeComparing", "(LSnowForts$Orders;)Z"⟩
def RX4 : String := "SnowForts$Reader"
def TX4 : u_T := fun k => match k with
  | 0 => ("SnowForts$Reader", "tape", "[B", true)
  | 1 => ("SnowForts$Reader", "filled", "I", false)
  | 2 => ("SnowForts$Reader", "kinds", "[I", true)
  | 3 => ("SnowForts$Reader", "places", "[I", true)
  | 4 => ("SnowForts$Reader", "values", "[J", true)
  | 5 => ("SnowForts$Reader", "words", "[LSnowForts$Word;", true)
  | 6 => ("SnowForts$Reader", "length", "I", false)
  | 7 => ("SnowForts$Reader", "next", "I", false)
  | 8 => ("SnowForts$Reader", "token", "I", false)
  | 9 => ("SnowForts$Reader", "kind", "I", false)
  | 10 => ("SnowForts$Reader", "place", "I", false)
  | 11 => ("SnowForts$Reader", "value", "J", false)
  | 12 => ("SnowForts$Reader", "word", "LSnowForts$Word;", false)
  | 13 => ("SnowForts$Reader", "number", "I", false)
  | 14 => ("SnowForts$Reader", "numberPlace", "I", false)
  | 15 => ("SnowForts$Reader", "fault", "I", false)
  | _ => ("SnowForts$Reader", "faultPlace", "I", false)
def tyX4 : Nat → FieldType := fun k => match k with
  | 0 => .array .byte
  | 1 => .int
  | 2 => .array .int
  | 3 => .array .int
  | 4 => .array .long
  | 5 => .array (.object "SnowForts$Word")
  | 6 => .int
  | 7 => .int
  | 8 => .int
  | 9 => .int
  | 10 => .int
  | 11 => .long
  | 12 => .object "SnowForts$Word"
  | 13 => .int
  | 14 => .int
  | 15 => .int
  | _ => .int
abbrev wsX40 : List Cond := u_ws RX4 TX4 17
theorem nmX4 : ∀ a, a < 17 → ∀ b, b < 17 → a ≠ b → (TX4 a).2.1 ≠ (TX4 b).2.1 := by decide +kernel
theorem tyX4_ok : ∀ k, k < 17 → parseFieldDescriptor (TX4 k).2.2.1 = some (tyX4 k) := by decide +kernel
abbrev cX4_init : ByteArray := prog_6_method_1_code
def yX4_init : MethodName := ⟨RX4, "<init>", "()V"⟩
abbrev cX4_append : ByteArray := prog_6_method_2_code
def yX4_append : MethodName := ⟨RX4, "append", "(I)V"⟩
abbrev cX4_start : ByteArray := prog_6_method_3_code
def yX4_start : MethodName := ⟨RX4, "start", "(I)V"⟩
abbrev cX4_byteAt : ByteArray := prog_6_method_4_code
def yX4_byteAt : MethodName := ⟨RX4, "byteAt", "(I)I"⟩
abbrev cX4_isLetter : ByteArray := prog_6_method_5_code
def yX4_isLetter : MethodName := ⟨RX4, "isLetter", "(I)Z"⟩
abbrev cX4_isDigit : ByteArray := prog_6_method_6_code
def yX4_isDigit : MethodName := ⟨RX4, "isDigit", "(I)Z"⟩
abbrev cX4_passBlanks : ByteArray := prog_6_method_7_code
def yX4_passBlanks : MethodName := ⟨RX4, "passBlanks", "()V"⟩
abbrev cX4_kindHere : ByteArray := prog_6_method_8_code
def yX4_kindHere : MethodName := ⟨RX4, "kindHere", "()I"⟩
abbrev cX4_passWord : ByteArray := prog_6_method_9_code
def yX4_passWord : MethodName := ⟨RX4, "passWord", "()J"⟩
abbrev cX4_passNumber : ByteArray := prog_6_method_10_code
def yX4_passNumber : MethodName := ⟨RX4, "passNumber", "()I"⟩
abbrev cX4_advance : ByteArray := prog_6_method_11_code
def yX4_advance : MethodName := ⟨RX4, "advance", "()V"⟩
abbrev cX4_fail : ByteArray := prog_6_method_12_code
def yX4_fail : MethodName := ⟨RX4, "fail", "(II)Z"⟩
abbrev cX4_misfit : ByteArray := prog_6_method_13_code
def yX4_misfit : MethodName := ⟨RX4, "misfit", "()Z"⟩
abbrev cX4_take : ByteArray := prog_6_method_14_code
def yX4_take : MethodName := ⟨RX4, "take", "(LSnowForts$Word;)Z"⟩
abbrev cX4_takeSign : ByteArray := prog_6_method_15_code
def yX4_takeSign : MethodName := ⟨RX4, "takeSign", "(I)Z"⟩
abbrev cX4_takeNumber : ByteArray := prog_6_method_16_code
def yX4_takeNumber : MethodName := ⟨RX4, "takeNumber", "(II)Z"⟩
abbrev cX4_isName : ByteArray := prog_6_method_17_code
def yX4_isName : MethodName := ⟨RX4, "isName", "()Z"⟩
def RX5 : String := "SnowForts$Runner"
def TX5 : u_T := fun k => match k with
  | 0 => ("SnowForts$Runner", "done", "I", false)
  | 1 => ("SnowForts$Runner", "missed", "I", false)
  | 2 => ("SnowForts$Runner", "built", "I", false)
  | 3 => ("SnowForts$Runner", "broken", "I", false)
  | 4 => ("SnowForts$Runner", "leftOver", "Z", false)
  | 5 => ("SnowForts$Runner", "draws", "I", false)
  | _ => ("SnowForts$Runner", "rounds", "[I", true)
def tyX5 : Nat → FieldType := fun k => match k with
  | 0 => .int
  | 1 => .int
  | 2 => .int
  | 3 => .int
  | 4 => .boolean
  | 5 => .int
  | _ => .array .int
abbrev wsX50 : List Cond := u_ws RX5 TX5 7
theorem nmX5 : ∀ a, a < 7 → ∀ b, b < 7 → a ≠ b → (TX5 a).2.1 ≠ (TX5 b).2.1 := by decide +kernel
theorem tyX5_ok : ∀ k, k < 7 → parseFieldDescriptor (TX5 k).2.2.1 = some (tyX5 k) := by decide +kernel
abbrev cX5_init : ByteArray := prog_7_method_1_code
def yX5_init : MethodName := ⟨RX5, "<init>", "()V"⟩
abbrev cX5_perform : ByteArray := prog_7_method_2_code
def yX5_perform : MethodName := ⟨RX5, "perform", "(LSnowForts$Orders;LSnowForts$Yard;LSnowForts$Walk;I)V"⟩
abbrev cX5_tell : ByteArray := prog_7_method_3_code
def yX5_tell : MethodName := ⟨RX5, "tell", "(I)I"⟩
abbrev cX5_behindEnd : ByteArray := prog_7_method_4_code
def yX5_behindEnd : MethodName := ⟨RX5, "behindEnd", "(LSnowForts$Orders;I)I"⟩
abbrev cX5_behindStep : ByteArray := prog_7_method_5_code
def yX5_behindStep : MethodName := ⟨RX5, "behindStep", "(LSnowForts$Orders;LSnowForts$Yard;LSnowForts$Walk;I)I"⟩
abbrev cX5_behindTest : ByteArray := prog_7_method_6_code
def yX5_behindTest : MethodName := ⟨RX5, "behindTest", "(LSnowForts$Orders;II)I"⟩
abbrev cX5_act : ByteArray := prog_7_method_7_code
def yX5_act : MethodName := ⟨RX5, "act", "(LSnowForts$Orders;LSnowForts$Yard;I)V"⟩
abbrev cX5_draw : ByteArray := prog_7_method_8_code
def yX5_draw : MethodName := ⟨RX5, "draw", "(I)I"⟩
def RX6 : String := "SnowForts$Tray"
def TX6 : u_T := fun k => match k with
  | 0 => ("SnowForts$Tray", "numbers", "[J", true)
  | 1 => ("SnowForts$Tray", "sort", "I", false)
  | _ => ("SnowForts$Tray", "length", "I", false)
def tyX6 : Nat → FieldType := fun k => match k with
  | 0 => .array .long
  | 1 => .int
  | _ => .int
abbrev wsX60 : List Cond := u_ws RX6 TX6 3
theorem nmX6 : ∀ a, a < 3 → ∀ b, b < 3 → a ≠ b → (TX6 a).2.1 ≠ (TX6 b).2.1 := by decide +kernel
theorem tyX6_ok : ∀ k, k < 3 → parseFieldDescriptor (TX6 k).2.2.1 = some (tyX6 k) := by decide +kernel
abbrev cX6_init : ByteArray := prog_8_method_1_code
def yX6_init : MethodName := ⟨RX6, "<init>", "()V"⟩
abbrev cX6_isMissing : ByteArray := prog_8_method_2_code
def yX6_isMissing : MethodName := ⟨RX6, "isMissing", "()Z"⟩
abbrev cX6_hasPlace : ByteArray := prog_8_method_3_code
def yX6_hasPlace : MethodName := ⟨RX6, "hasPlace", "(I)Z"⟩
abbrev cX6_hasRow : ByteArray := prog_8_method_4_code
def yX6_hasRow : MethodName := ⟨RX6, "hasRow", "(II)Z"⟩
abbrev cX6_become : ByteArray := prog_8_method_5_code
def yX6_become : MethodName := ⟨RX6, "become", "(II)V"⟩
abbrev cX6_put : ByteArray := prog_8_method_6_code
def yX6_put : MethodName := ⟨RX6, "put", "(IJ)V"⟩
abbrev cX6_cut : ByteArray := prog_8_method_7_code
def yX6_cut : MethodName := ⟨RX6, "cut", "(J)J"⟩
abbrev cX6_numberAt : ByteArray := prog_8_method_8_code
def yX6_numberAt : MethodName := ⟨RX6, "numberAt", "(I)J"⟩
abbrev cX6_holdsWithin : ByteArray := prog_8_method_9_code
def yX6_holdsWithin : MethodName := ⟨RX6, "holdsWithin", "(II)Z"⟩
def RX7 : String := "SnowForts$Walk"
def TX7 : u_T := fun k => match k with
  | 0 => ("SnowForts$Walk", "path", "[I", true)
  | 1 => ("SnowForts$Walk", "traced", "I", false)
  | 2 => ("SnowForts$Walk", "heights", "[I", true)
  | 3 => ("SnowForts$Walk", "weights", "[I", true)
  | 4 => ("SnowForts$Walk", "wide", "I", false)
  | 5 => ("SnowForts$Walk", "high", "I", false)
  | 6 => ("SnowForts$Walk", "beginning", "I", false)
  | _ => ("SnowForts$Walk", "cost", "I", false)
def tyX7 : Nat → FieldType := fun k => match k with
  | 0 => .array .int
  | 1 => .int
  | 2 => .array .int
  | 3 => .array .int
  | 4 => .int
  | 5 => .int
  | 6 => .int
  | _ => .int
abbrev wsX70 : List Cond := u_ws RX7 TX7 8
theorem nmX7 : ∀ a, a < 8 → ∀ b, b < 8 → a ≠ b → (TX7 a).2.1 ≠ (TX7 b).2.1 := by decide +kernel
theorem tyX7_ok : ∀ k, k < 8 → parseFieldDescriptor (TX7 k).2.2.1 = some (tyX7 k) := by decide +kernel
abbrev cX7_init : ByteArray := prog_9_method_1_code
def yX7_init : MethodName := ⟨RX7, "<init>", "()V"⟩
abbrev cX7_costOver : ByteArray := prog_9_method_2_code
def yX7_costOver : MethodName := ⟨RX7, "costOver", "(LSnowForts$Yard;)I"⟩
abbrev cX7_comesTo : ByteArray := prog_9_method_3_code
def yX7_comesTo : MethodName := ⟨RX7, "comesTo", "(LSnowForts$Yard;)Z"⟩
abbrev cX7_begin : ByteArray := prog_9_method_4_code
def yX7_begin : MethodName := ⟨RX7, "begin", "()V"⟩
abbrev cX7_costOfStep : ByteArray := prog_9_method_5_code
def yX7_costOfStep : MethodName := ⟨RX7, "costOfStep", "(II)I"⟩
abbrev cX7_weightFrom : ByteArray := prog_9_method_6_code
def yX7_weightFrom : MethodName := ⟨RX7, "weightFrom", "(LSnowForts$Yard;I)I"⟩
abbrev cX7_weightBy : ByteArray := prog_9_method_7_code
def yX7_weightBy : MethodName := ⟨RX7, "weightBy", "(II)I"⟩
abbrev cX7_trace : ByteArray := prog_9_method_8_code
def yX7_trace : MethodName := ⟨RX7, "trace", "(LSnowForts$Yard;)V"⟩
abbrev cX7_cellBehind : ByteArray := prog_9_method_9_code
def yX7_cellBehind : MethodName := ⟨RX7, "cellBehind", "(LSnowForts$Yard;I)I"⟩
def RX8 : String := "SnowForts$Word"
def TX8 : u_T := fun k => match k with
  | _ => ("", "", "", false)
def tyX8 : Nat → FieldType := fun k => match k with
  | _ => .int
abbrev wsX80 : List Cond := u_ws RX8 TX8 0
theorem nmX8 : ∀ a, a < 0 → ∀ b, b < 0 → a ≠ b → (TX8 a).2.1 ≠ (TX8 b).2.1 := by decide +kernel
theorem tyX8_ok : ∀ k, k < 0 → parseFieldDescriptor (TX8 k).2.2.1 = some (tyX8 k) := by decide +kernel
abbrev cX8_of : ByteArray := prog_10_method_4_code
def yX8_of : MethodName := ⟨RX8, "of", "(J)LSnowForts$Word;"⟩
def RX9 : String := "SnowForts$Yard"
def TX9 : u_T := fun k => match k with
  | 0 => ("SnowForts$Yard", "wide", "I", false)
  | 1 => ("SnowForts$Yard", "high", "I", false)
  | 2 => ("SnowForts$Yard", "schools", "I", false)
  | 3 => ("SnowForts$Yard", "day", "I", false)
  | 4 => ("SnowForts$Yard", "melted", "I", false)
  | 5 => ("SnowForts$Yard", "ranOff", "I", false)
  | 6 => ("SnowForts$Yard", "fell", "I", false)
  | 7 => ("SnowForts$Yard", "hands", "[I", true)
  | 8 => ("SnowForts$Yard", "used", "[I", true)
  | 9 => ("SnowForts$Yard", "broken", "[I", true)
  | 10 => ("SnowForts$Yard", "articles", "[I", true)
  | 11 => ("SnowForts$Yard", "first", "[I", true)
  | 12 => ("SnowForts$Yard", "snow", "[I", true)
  | 13 => ("SnowForts$Yard", "wall", "[I", true)
  | 14 => ("SnowForts$Yard", "sun", "[I", true)
  | 15 => ("SnowForts$Yard", "lastWall", "[I", true)
  | 16 => ("SnowForts$Yard", "iced", "[I", true)
  | _ => ("SnowForts$Yard", "known", "[I", true)
def tyX9 : Nat → FieldType := fun k => match k with
  | 0 => .int
  | 1 => .int
  | 2 => .int
  | 3 => .int
  | 4 => .int
  | 5 => .int
  | 6 => .int
  | 7 => .array .int
  | 8 => .array .int
  | 9 => .array .int
  | 10 => .array .int
  | 11 => .array .int
  | 12 => .array .int
  | 13 => .array .int
  | 14 => .array .int
  | 15 => .array .int
  | 16 => .array .int
  | _ => .array .int
abbrev wsX90 : List Cond := u_ws RX9 TX9 18
theorem nmX9 : ∀ a, a < 18 → ∀ b, b < 18 → a ≠ b → (TX9 a).2.1 ≠ (TX9 b).2.1 := by decide +kernel
theorem tyX9_ok : ∀ k, k < 18 → parseFieldDescriptor (TX9 k).2.2.1 = some (tyX9 k) := by decide +kernel
abbrev cX9_init : ByteArray := prog_11_method_1_code
def yX9_init : MethodName := ⟨RX9, "<init>", "()V"⟩
abbrev cX9_clear : ByteArray := prog_11_method_2_code
def yX9_clear : MethodName := ⟨RX9, "clear", "()V"⟩
abbrev cX9_copyOf : ByteArray := prog_11_method_3_code
def yX9_copyOf : MethodName := ⟨RX9, "copyOf", "(LSnowForts$Yard;)V"⟩
abbrev cX9_isCell : ByteArray := prog_11_method_4_code
def yX9_isCell : MethodName := ⟨RX9, "isCell", "(II)Z"⟩
abbrev cX9_holds : ByteArray := prog_11_method_5_code
def yX9_holds : MethodName := ⟨RX9, "holds", "(I)Z"⟩
abbrev cX9_isSchool : ByteArray := prog_11_method_6_code
def yX9_isSchool : MethodName := ⟨RX9, "isSchool", "(I)Z"⟩
abbrev cX9_halfOfColumn : ByteArray := prog_11_method_7_code
def yX9_halfOfColumn : MethodName := ⟨RX9, "halfOfColumn", "(I)I"⟩
abbrev cX9_halfOf : ByteArray := prog_11_method_8_code
def yX9_halfOf : MethodName := ⟨RX9, "halfOf", "(I)I"⟩
abbrev cX9_isIn : ByteArray := prog_11_method_9_code
def yX9_isIn : MethodName := ⟨RX9, "isIn", "(II)Z"⟩
abbrev cX9_isOwned : ByteArray := prog_11_method_10_code
def yX9_isOwned : MethodName := ⟨RX9, "isOwned", "(II)Z"⟩
abbrev cX9_across : ByteArray := prog_11_method_11_code
def yX9_across : MethodName := ⟨RX9, "across", "(I)I"⟩
abbrev cX9_topOf : ByteArray := prog_11_method_12_code
def yX9_topOf : MethodName := ⟨RX9, "topOf", "(I)I"⟩
abbrev cX9_wallOf : ByteArray := prog_11_method_13_code
def yX9_wallOf : MethodName := ⟨RX9, "wallOf", "(I)I"⟩
abbrev cX9_allBreaches : ByteArray := prog_11_method_14_code
def yX9_allBreaches : MethodName := ⟨RX9, "allBreaches", "()I"⟩
abbrev cX9_sumOf : ByteArray := prog_11_method_15_code
def yX9_sumOf : MethodName := ⟨RX9, "sumOf", "([I)I"⟩
abbrev cX9_tell : ByteArray := prog_11_method_16_code
def yX9_tell : MethodName := ⟨RX9, "tell", "(I)I"⟩
abbrev cX9_tellCell : ByteArray := prog_11_method_17_code
def yX9_tellCell : MethodName := ⟨RX9, "tellCell", "(II)I"⟩
abbrev cX9_tellSchool : ByteArray := prog_11_method_18_code
def yX9_tellSchool : MethodName := ⟨RX9, "tellSchool", "(II)I"⟩
abbrev cX9_icedCells : ByteArray := prog_11_method_19_code
def yX9_icedCells : MethodName := ⟨RX9, "icedCells", "(I)I"⟩
abbrev cX9_wallsOf : ByteArray := prog_11_method_20_code
def yX9_wallsOf : MethodName := ⟨RX9, "wallsOf", "(I)I"⟩
abbrev cX9_snowFalls : ByteArray := prog_11_method_21_code
def yX9_snowFalls : MethodName := ⟨RX9, "snowFalls", "(I)I"⟩
abbrev cX9_heaps : ByteArray := prog_11_method_22_code
def yX9_heaps : MethodName := ⟨RX9, "heaps", "(II)I"⟩
abbrev cX9_melts : ByteArray := prog_11_method_23_code
def yX9_melts : MethodName := ⟨RX9, "melts", "(I)I"⟩
abbrev cX9_meltsAt : ByteArray := prog_11_method_24_code
def yX9_meltsAt : MethodName := ⟨RX9, "meltsAt", "(II)I"⟩
abbrev cX9_handsLeft : ByteArray := prog_11_method_25_code
def yX9_handsLeft : MethodName := ⟨RX9, "handsLeft", "(I)I"⟩
abbrev cX9_raises : ByteArray := prog_11_method_26_code
def yX9_raises : MethodName := ⟨RX9, "raises", "(II)I"⟩
abbrev cX9_raisesOne : ByteArray := prog_11_method_27_code
def yX9_raisesOne : MethodName := ⟨RX9, "raisesOne", "(III)V"⟩
abbrev cX9_breaks : ByteArray := prog_11_method_28_code
def yX9_breaks : MethodName := ⟨RX9, "breaks", "(III)V"⟩
abbrev cX9_freezes : ByteArray := prog_11_method_29_code
def yX9_freezes : MethodName := ⟨RX9, "freezes", "(I)Z"⟩
abbrev cX9_takes : ByteArray := prog_11_method_30_code
def yX9_takes : MethodName := ⟨RX9, "takes", "(III)I"⟩
abbrev cX9_sleeps : ByteArray := prog_11_method_31_code
def yX9_sleeps : MethodName := ⟨RX9, "sleeps", "()Z"⟩
abbrev cX9_wallLimit : ByteArray := prog_11_method_32_code
def yX9_wallLimit : MethodName := ⟨RX9, "wallLimit", "(I)I"⟩
abbrev cX9_lawfulHands : ByteArray := prog_11_method_33_code
def yX9_lawfulHands : MethodName := ⟨RX9, "lawfulHands", "(I)I"⟩
abbrev cX9_fitsIn : ByteArray := prog_11_method_34_code
def yX9_fitsIn : MethodName := ⟨RX9, "fitsIn", "(I)I"⟩
abbrev cX9_roomAt : ByteArray := prog_11_method_35_code
def yX9_roomAt : MethodName := ⟨RX9, "roomAt", "(I)I"⟩
abbrev cX9_mostOf : ByteArray := prog_11_method_36_code
def yX9_mostOf : MethodName := ⟨RX9, "mostOf", "(I)I"⟩
abbrev cX9_lowestTop : ByteArray := prog_11_method_37_code
def yX9_lowestTop : MethodName := ⟨RX9, "lowestTop", "(I)I"⟩
abbrev cX9_highestTop : ByteArray := prog_11_method_38_code
def yX9_highestTop : MethodName := ⟨RX9, "highestTop", "(I)I"⟩
abbrev cX9_steepestStep : ByteArray := prog_11_method_39_code
def yX9_steepestStep : MethodName := ⟨RX9, "steepestStep", "()I"⟩
abbrev cX9_stepTo : ByteArray := prog_11_method_40_code
def yX9_stepTo : MethodName := ⟨RX9, "stepTo", "(III)I"⟩
abbrev cX9_movedToLevel : ByteArray := prog_11_method_41_code
def yX9_movedToLevel : MethodName := ⟨RX9, "movedToLevel", "(I)I"⟩
abbrev cX9_movedTo : ByteArray := prog_11_method_42_code
def yX9_movedTo : MethodName := ⟨RX9, "movedTo", "(III)I"⟩
abbrev cX9_canBecome : ByteArray := prog_11_method_43_code
def yX9_canBecome : MethodName := ⟨RX9, "canBecome", "(II)Z"⟩
abbrev cX9_unlikeCouples : ByteArray := prog_11_method_44_code
def yX9_unlikeCouples : MethodName := ⟨RX9, "unlikeCouples", "()I"⟩
abbrev cX9_lastingWalls : ByteArray := prog_11_method_45_code
def yX9_lastingWalls : MethodName := ⟨RX9, "lastingWalls", "(III)I"⟩
abbrev cX9_lastingWall : ByteArray := prog_11_method_46_code
def yX9_lastingWall : MethodName := ⟨RX9, "lastingWall", "(III)I"⟩
abbrev cX9_looksAt : ByteArray := prog_11_method_47_code
def yX9_looksAt : MethodName := ⟨RX9, "looksAt", "(I)Z"⟩
abbrev cX9_hidingCells : ByteArray := prog_11_method_48_code
def yX9_hidingCells : MethodName := ⟨RX9, "hidingCells", "(I)I"⟩
def RX10 : String := "SnowForts$YardText"
def TX10 : u_T := fun k => match k with
  | 0 => ("SnowForts$YardText", "reader", "LSnowForts$Reader;", true)
  | 1 => ("SnowForts$YardText", "snowTold", "[I", true)
  | 2 => ("SnowForts$YardText", "wallTold", "[I", true)
  | 3 => ("SnowForts$YardText", "sunTold", "[I", true)
  | _ => ("SnowForts$YardText", "firstName", "J", false)
def tyX10 : Nat → FieldType := fun k => match k with
  | 0 => .object "SnowForts$Reader"
  | 1 => .array .int
  | 2 => .array .int
  | 3 => .array .int
  | _ => .long
abbrev wsX100 : List Cond := u_ws RX10 TX10 5
theorem nmX10 : ∀ a, a < 5 → ∀ b, b < 5 → a ≠ b → (TX10 a).2.1 ≠ (TX10 b).2.1 := by decide +kernel
theorem tyX10_ok : ∀ k, k < 5 → parseFieldDescriptor (TX10 k).2.2.1 = some (tyX10 k) := by decide +kernel
abbrev cX10_init : ByteArray := prog_12_method_1_code
def yX10_init : MethodName := ⟨RX10, "<init>", "(LSnowForts$Reader;)V"⟩
abbrev cX10_parse : ByteArray := prog_12_method_2_code
def yX10_parse : MethodName := ⟨RX10, "parse", "(ILSnowForts$Yard;)Z"⟩
abbrev cX10_takeSize : ByteArray := prog_12_method_3_code
def yX10_takeSize : MethodName := ⟨RX10, "takeSize", "(LSnowForts$Yard;)Z"⟩
abbrev cX10_takePart : ByteArray := prog_12_method_4_code
def yX10_takePart : MethodName := ⟨RX10, "takePart", "(LSnowForts$Yard;)Z"⟩
abbrev cX10_takeSchool : ByteArray := prog_12_method_5_code
def yX10_takeSchool : MethodName := ⟨RX10, "takeSchool", "(LSnowForts$Yard;)Z"⟩
abbrev cX10_takeHeap : ByteArray := prog_12_method_6_code
def yX10_takeHeap : MethodName := ⟨RX10, "takeHeap", "(LSnowForts$Yard;[I[ILSnowForts$Word;I)Z"⟩
abbrev cX10_takeArticle : ByteArray := prog_12_method_7_code
def yX10_takeArticle : MethodName := ⟨RX10, "takeArticle", "(LSnowForts$Yard;)Z"⟩
abbrev cX10_isNew : ByteArray := prog_12_method_8_code
def yX10_isNew : MethodName := ⟨RX10, "isNew", "(LSnowForts$Yard;I)Z"⟩
abbrev cX10_takeLimit : ByteArray := prog_12_method_9_code
def yX10_takeLimit : MethodName := ⟨RX10, "takeLimit", "(LSnowForts$Yard;ILSnowForts$Word;I)Z"⟩
def RX11 : String := "SnowForts"
def TX11 : u_T := fun k => match k with
  | 0 => ("SnowForts", "status", "I", false)
  | 1 => ("SnowForts", "trays", "[LSnowForts$Tray;", true)
  | 2 => ("SnowForts", "reader", "LSnowForts$Reader;", true)
  | 3 => ("SnowForts", "yardText", "LSnowForts$YardText;", true)
  | 4 => ("SnowForts", "ordersText", "LSnowForts$OrdersText;", true)
  | 5 => ("SnowForts", "yard", "LSnowForts$Yard;", false)
  | 6 => ("SnowForts", "spareYard", "LSnowForts$Yard;", false)
  | 7 => ("SnowForts", "orders", "LSnowForts$Orders;", false)
  | 8 => ("SnowForts", "spareOrders", "LSnowForts$Orders;", false)
  | 9 => ("SnowForts", "markedYards", "[LSnowForts$Yard;", true)
  | 10 => ("SnowForts", "markedOrders", "[LSnowForts$Orders;", true)
  | 11 => ("SnowForts", "marks", "I", false)
  | 12 => ("SnowForts", "walk", "LSnowForts$Walk;", true)
  | 13 => ("SnowForts", "mornings", "LSnowForts$Mornings;", true)
  | 14 => ("SnowForts", "odds", "LSnowForts$Odds;", true)
  | 15 => ("SnowForts", "winning", "[Z", true)
  | 16 => ("SnowForts", "latestRun", "LSnowForts$Runner;", true)
  | _ => ("SnowForts", "trialRun", "LSnowForts$Runner;", true)
def tyX11 : Nat → FieldType := fun k => match k with
  | 0 => .int
  | 1 => .array (.object "SnowForts$Tray")
  | 2 => .object "SnowForts$Reader"
  | 3 => .object "SnowForts$YardText"
  | 4 => .object "SnowForts$OrdersText"
  | 5 => .object "SnowForts$Yard"
  | 6 => .object "SnowForts$Yard"
  | 7 => .object "SnowForts$Orders"
  | 8 => .object "SnowForts$Orders"
  | 9 => .array (.object "SnowForts$Yard")
  | 10 => .array (.object "SnowForts$Orders")
  | 11 => .int
  | 12 => .object "SnowForts$Walk"
  | 13 => .object "SnowForts$Mornings"
  | 14 => .object "SnowForts$Odds"
  | 15 => .array .boolean
  | 16 => .object "SnowForts$Runner"
  | _ => .object "SnowForts$Runner"
abbrev wsX110 : List Cond := u_ws RX11 TX11 18
theorem nmX11 : ∀ a, a < 18 → ∀ b, b < 18 → a ≠ b → (TX11 a).2.1 ≠ (TX11 b).2.1 := by decide +kernel
theorem tyX11_ok : ∀ k, k < 18 → parseFieldDescriptor (TX11 k).2.2.1 = some (tyX11 k) := by decide +kernel
abbrev cX11_init : ByteArray := prog_1_method_1_code
def yX11_init : MethodName := ⟨RX11, "<init>", "()V"⟩
abbrev cX11_status : ByteArray := prog_1_method_2_code
def yX11_status : MethodName := ⟨RX11, "status", "()I"⟩
abbrev cX11_top : ByteArray := prog_1_method_3_code
def yX11_top : MethodName := ⟨RX11, "top", "()J"⟩
abbrev cX11_bottom : ByteArray := prog_1_method_4_code
def yX11_bottom : MethodName := ⟨RX11, "bottom", "()J"⟩
abbrev cX11_refuse : ByteArray := prog_1_method_5_code
def yX11_refuse : MethodName := ⟨RX11, "refuse", "(I)I"⟩
abbrev cX11_deny : ByteArray := prog_1_method_6_code
def yX11_deny : MethodName := ⟨RX11, "deny", "(I)Z"⟩
abbrev cX11_answer : ByteArray := prog_1_method_7_code
def yX11_answer : MethodName := ⟨RX11, "answer", "(I)I"⟩
abbrev cX11_grant : ByteArray := prog_1_method_8_code
def yX11_grant : MethodName := ⟨RX11, "grant", "()Z"⟩
abbrev cX11_isWithin : ByteArray := prog_1_method_9_code
def yX11_isWithin : MethodName := ⟨RX11, "isWithin", "(JII)Z"⟩
abbrev cX11_isTray : ByteArray := prog_1_method_10_code
def yX11_isTray : MethodName := ⟨RX11, "isTray", "(I)Z"⟩
abbrev cX11_whyNotPlace : ByteArray := prog_1_method_11_code
def yX11_whyNotPlace : MethodName := ⟨RX11, "whyNotPlace", "(II)I"⟩
abbrev cX11_tray : ByteArray := prog_1_method_12_code
def yX11_tray : MethodName := ⟨RX11, "tray", "(III)Z"⟩
abbrev cX11_write : ByteArray := prog_1_method_13_code
def yX11_write : MethodName := ⟨RX11, "write", "(IIJ)Z"⟩
abbrev cX11_read : ByteArray := prog_1_method_14_code
def yX11_read : MethodName := ⟨RX11, "read", "(II)J"⟩
abbrev cX11_pour : ByteArray := prog_1_method_15_code
def yX11_pour : MethodName := ⟨RX11, "pour", "(IIIII)Z"⟩
abbrev cX11_feed : ByteArray := prog_1_method_16_code
def yX11_feed : MethodName := ⟨RX11, "feed", "(IIIII)I"⟩
abbrev cX11_yard : ByteArray := prog_1_method_17_code
def yX11_yard : MethodName := ⟨RX11, "yard", "(I)I"⟩
abbrev cX11_orders : ByteArray := prog_1_method_18_code
def yX11_orders : MethodName := ⟨RX11, "orders", "(I)I"⟩
abbrev cX11_fault : ByteArray := prog_1_method_19_code
def yX11_fault : MethodName := ⟨RX11, "fault", "(I)I"⟩
abbrev cX11_many : ByteArray := prog_1_method_20_code
def yX11_many : MethodName := ⟨RX11, "many", "(I)I"⟩
abbrev cX11_cell : ByteArray := prog_1_method_21_code
def yX11_cell : MethodName := ⟨RX11, "cell", "(III)I"⟩
abbrev cX11_school : ByteArray := prog_1_method_22_code
def yX11_school : MethodName := ⟨RX11, "school", "(II)I"⟩
abbrev cX11_article : ByteArray := prog_1_method_23_code
def yX11_article : MethodName := ⟨RX11, "article", "(I)I"⟩
abbrev cX11_breach : ByteArray := prog_1_method_24_code
def yX11_breach : MethodName := ⟨RX11, "breach", "(I)I"⟩
abbrev cX11_fall : ByteArray := prog_1_method_25_code
def yX11_fall : MethodName := ⟨RX11, "fall", "(I)I"⟩
abbrev cX11_thaw : ByteArray := prog_1_method_26_code
def yX11_thaw : MethodName := ⟨RX11, "thaw", "(I)I"⟩
abbrev cX11_build : ByteArray := prog_1_method_27_code
def yX11_build : MethodName := ⟨RX11, "build", "(III)I"⟩
abbrev cX11_ice : ByteArray := prog_1_method_28_code
def yX11_ice : MethodName := ⟨RX11, "ice", "(II)Z"⟩
abbrev cX11_steal : ByteArray := prog_1_method_29_code
def yX11_steal : MethodName := ⟨RX11, "steal", "(IIIII)I"⟩
abbrev cX11_night : ByteArray := prog_1_method_30_code
def yX11_night : MethodName := ⟨RX11, "night", "()I"⟩
abbrev cX11_isHalf : ByteArray := prog_1_method_31_code
def yX11_isHalf : MethodName := ⟨RX11, "isHalf", "(I)Z"⟩
abbrev cX11_room : ByteArray := prog_1_method_32_code
def yX11_room : MethodName := ⟨RX11, "room", "(II)I"⟩
abbrev cX11_most : ByteArray := prog_1_method_33_code
def yX11_most : MethodName := ⟨RX11, "most", "(I)I"⟩
abbrev cX11_lowest : ByteArray := prog_1_method_34_code
def yX11_lowest : MethodName := ⟨RX11, "lowest", "(I)I"⟩
abbrev cX11_highest : ByteArray := prog_1_method_35_code
def yX11_highest : MethodName := ⟨RX11, "highest", "(I)I"⟩
abbrev cX11_steepest : ByteArray := prog_1_method_36_code
def yX11_steepest : MethodName := ⟨RX11, "steepest", "()I"⟩
abbrev cX11_level : ByteArray := prog_1_method_37_code
def yX11_level : MethodName := ⟨RX11, "level", "(I)I"⟩
abbrev cX11_unlike : ByteArray := prog_1_method_38_code
def yX11_unlike : MethodName := ⟨RX11, "unlike", "()I"⟩
abbrev cX11_lasting : ByteArray := prog_1_method_39_code
def yX11_lasting : MethodName := ⟨RX11, "lasting", "(III)I"⟩
abbrev cX11_way : ByteArray := prog_1_method_40_code
def yX11_way : MethodName := ⟨RX11, "way", "()I"⟩
abbrev cX11_wayAt : ByteArray := prog_1_method_41_code
def yX11_wayAt : MethodName := ⟨RX11, "wayAt", "(II)I"⟩
abbrev cX11_isPeace : ByteArray := prog_1_method_42_code
def yX11_isPeace : MethodName := ⟨RX11, "isPeace", "()Z"⟩
abbrev cX11_peace : ByteArray := prog_1_method_43_code
def yX11_peace : MethodName := ⟨RX11, "peace", "()I"⟩
abbrev cX11_look : ByteArray := prog_1_method_44_code
def yX11_look : MethodName := ⟨RX11, "look", "(II)I"⟩
abbrev cX11_hiding : ByteArray := prog_1_method_45_code
def yX11_hiding : MethodName := ⟨RX11, "hiding", "(I)I"⟩
abbrev cX11_sure : ByteArray := prog_1_method_46_code
def yX11_sure : MethodName := ⟨RX11, "sure", "(II)I"⟩
abbrev cX11_works : ByteArray := prog_1_method_47_code
def yX11_works : MethodName := ⟨RX11, "works", "(III)J"⟩
abbrev cX11_worked : ByteArray := prog_1_method_48_code
def yX11_worked : MethodName := ⟨RX11, "worked", "(I)I"⟩
abbrev cX11_isGame : ByteArray := prog_1_method_49_code
def yX11_isGame : MethodName := ⟨RX11, "isGame", "(IIII)Z"⟩
abbrev cX11_raisedTo : ByteArray := prog_1_method_50_code
def yX11_raisedTo : MethodName := ⟨RX11, "raisedTo", "(IIII)I"⟩
abbrev cX11_winningRaise : ByteArray := prog_1_method_51_code
def yX11_winningRaise : MethodName := ⟨RX11, "winningRaise", "(IIII)I"⟩
abbrev cX11_wins : ByteArray := prog_1_method_52_code
def yX11_wins : MethodName := ⟨RX11, "wins", "(IIII)I"⟩
abbrev cX11_turns : ByteArray := prog_1_method_53_code
def yX11_turns : MethodName := ⟨RX11, "turns", "(IIII)I"⟩
abbrev cX11_weigh : ByteArray := prog_1_method_54_code
def yX11_weigh : MethodName := ⟨RX11, "weigh", "(III)I"⟩
abbrev cX11_stands : ByteArray := prog_1_method_55_code
def yX11_stands : MethodName := ⟨RX11, "stands", "(III)Z"⟩
abbrev cX11_mean : ByteArray := prog_1_method_56_code
def yX11_mean : MethodName := ⟨RX11, "mean", "(III)Z"⟩
abbrev cX11_run : ByteArray := prog_1_method_57_code
def yX11_run : MethodName := ⟨RX11, "run", "(I)I"⟩
abbrev cX11_ran : ByteArray := prog_1_method_58_code
def yX11_ran : MethodName := ⟨RX11, "ran", "(I)I"⟩
abbrev cX11_peaces : ByteArray := prog_1_method_59_code
def yX11_peaces : MethodName := ⟨RX11, "peaces", "(II)Z"⟩
abbrev cX11_mark : ByteArray := prog_1_method_60_code
def yX11_mark : MethodName := ⟨RX11, "mark", "()I"⟩
abbrev cX11_back : ByteArray := prog_1_method_61_code
def yX11_back : MethodName := ⟨RX11, "back", "()I"⟩
def RX12 : String := "SnowFortsModel"
def TX12 : u_T := fun k => match k with
  | 0 => ("SnowFortsModel", "status", "I", false)
  | 1 => ("SnowFortsModel", "thrown", "I", false)
  | 2 => ("SnowFortsModel", "above", "J", false)
  | 3 => ("SnowFortsModel", "under", "J", false)
  | 4 => ("SnowFortsModel", "traySort", "[I", true)
  | 5 => ("SnowFortsModel", "trayMany", "[I", true)
  | 6 => ("SnowFortsModel", "numbers", "[J", true)
  | 7 => ("SnowFortsModel", "tape", "[B", true)
  | 8 => ("SnowFortsModel", "taped", "I", false)
  | 9 => ("SnowFortsModel", "textEnd", "I", false)
  | 10 => ("SnowFortsModel", "faultKind", "I", false)
  | 11 => ("SnowFortsModel", "faultAt", "I", false)
  | 12 => ("SnowFortsModel", "bad", "I", false)
  | 13 => ("SnowFortsModel", "badAt", "I", false)
  | 14 => ("SnowFortsModel", "token", "I", false)
  | 15 => ("SnowFortsModel", "at", "I", false)
  | 16 => ("SnowFortsModel", "behind", "I", false)
  | 17 => ("SnowFortsModel", "number", "I", false)
  | 18 => ("SnowFortsModel", "letters", "I", false)
  | 19 => ("SnowFortsModel", "word", "J", false)
  | 20 => ("SnowFortsModel", "c", "[I", true)
  | 21 => ("SnowFortsModel", "kept", "[I", true)
  | 22 => ("SnowFortsModel", "toldCells", "[I", true)
  | 23 => ("SnowFortsModel", "words", "[J", true)
  | 24 => ("SnowFortsModel", "markMany", "I", false)
  | 25 => ("SnowFortsModel", "newSteps", "I", false)
  | 26 => ("SnowFortsModel", "out", "[I", true)
  | 27 => ("SnowFortsModel", "wayTold", "[I", true)
  | 28 => ("SnowFortsModel", "wayMany", "I", false)
  | 29 => ("SnowFortsModel", "workTold", "[I", true)
  | 30 => ("SnowFortsModel", "hasWorks", "Z", false)
  | 31 => ("SnowFortsModel", "won", "[Z", true)
  | 32 => ("SnowFortsModel", "chance", "[J", true)
  | 33 => ("SnowFortsModel", "after", "[J", true)
  | 34 => ("SnowFortsModel", "ranLast", "[I", true)
  | 35 => ("SnowFortsModel", "hasRan", "Z", false)
  | 36 => ("SnowFortsModel", "isOver", "Z", false)
  | 37 => ("SnowFortsModel", "random", "I", false)
  | 38 => ("SnowFortsModel", "done", "I", false)
  | 39 => ("SnowFortsModel", "missed", "I", false)
  | 40 => ("SnowFortsModel", "built", "I", false)
  | _ => ("SnowFortsModel", "leftOver", "I", false)
def tyX12 : Nat → FieldType := fun k => match k with
  | 0 => .int
  | 1 => .int
  | 2 => .long
  | 3 => .long
  | 4 => .array .int
  | 5 => .array .int
  | 6 => .array .long
  | 7 => .array .byte
  | 8 => .int
  | 9 => .int
  | 10 => .int
  | 11 => .int
  | 12 => .int
  | 13 => .int
  | 14 => .int
  | 15 => .int
  | 16 => .int
  | 17 => .int
  | 18 => .int
  | 19 => .long
  | 20 => .array .int
  | 21 => .array .int
  | 22 => .array .int
  | 23 => .array .long
  | 24 => .int
  | 25 => .int
  | 26 => .array .int
  | 27 => .array .int
  | 28 => .int
  | 29 => .array .int
  | 30 => .boolean
  | 31 => .array .boolean
  | 32 => .array .long
  | 33 => .array .long
  | 34 => .array .int
  | 35 => .boolean
  | 36 => .boolean
  | 37 => .int
  | 38 => .int
  | 39 => .int
  | 40 => .int
  | _ => .int
abbrev wsX120 : List Cond := u_ws RX12 TX12 42
theorem nmX12 : ∀ a, a < 42 → ∀ b, b < 42 → a ≠ b → (TX12 a).2.1 ≠ (TX12 b).2.1 := by decide +kernel
theorem tyX12_ok : ∀ k, k < 42 → parseFieldDescriptor (TX12 k).2.2.1 = some (tyX12 k) := by decide +kernel
abbrev cX12_init : ByteArray := prog_14_method_1_code
def yX12_init : MethodName := ⟨RX12, "<init>", "()V"⟩
abbrev cX12_status : ByteArray := prog_14_method_3_code
def yX12_status : MethodName := ⟨RX12, "status", "()I"⟩
abbrev cX12_top : ByteArray := prog_14_method_4_code
def yX12_top : MethodName := ⟨RX12, "top", "()J"⟩
abbrev cX12_bottom : ByteArray := prog_14_method_5_code
def yX12_bottom : MethodName := ⟨RX12, "bottom", "()J"⟩
abbrev cX12_refuse : ByteArray := prog_14_method_6_code
def yX12_refuse : MethodName := ⟨RX12, "refuse", "(I)I"⟩
abbrev cX12_no : ByteArray := prog_14_method_7_code
def yX12_no : MethodName := ⟨RX12, "no", "(I)Z"⟩
abbrev cX12_isIn : ByteArray := prog_14_method_8_code
def yX12_isIn : MethodName := ⟨RX12, "isIn", "(JJJ)Z"⟩
abbrev cX12_fraction : ByteArray := prog_14_method_9_code
def yX12_fraction : MethodName := ⟨RX12, "fraction", "(JJ)Z"⟩
abbrev cX12_cut : ByteArray := prog_14_method_10_code
def yX12_cut : MethodName := ⟨RX12, "cut", "(IJ)J"⟩
abbrev cX12_tray : ByteArray := prog_14_method_11_code
def yX12_tray : MethodName := ⟨RX12, "tray", "(III)Z"⟩
abbrev cX12_trayed : ByteArray := prog_14_method_12_code
def yX12_trayed : MethodName := ⟨RX12, "trayed", "(I)I"⟩
abbrev cX12_placed : ByteArray := prog_14_method_13_code
def yX12_placed : MethodName := ⟨RX12, "placed", "(II)I"⟩
abbrev cX12_write : ByteArray := prog_14_method_14_code
def yX12_write : MethodName := ⟨RX12, "write", "(IIJ)Z"⟩
abbrev cX12_read : ByteArray := prog_14_method_15_code
def yX12_read : MethodName := ⟨RX12, "read", "(II)J"⟩
abbrev cX12_pour : ByteArray := prog_14_method_16_code
def yX12_pour : MethodName := ⟨RX12, "pour", "(IIIII)Z"⟩
abbrev cX12_numberOf : ByteArray := prog_14_method_17_code
def yX12_numberOf : MethodName := ⟨RX12, "numberOf", "(II)J"⟩
abbrev cX12_isTray : ByteArray := prog_14_method_18_code
def yX12_isTray : MethodName := ⟨RX12, "isTray", "(I)Z"⟩
abbrev cX12_look2 : ByteArray := prog_14_method_19_code
def yX12_look2 : MethodName := ⟨RX12, "look2", "(I)I"⟩
abbrev cX12_isLetter : ByteArray := prog_14_method_20_code
def yX12_isLetter : MethodName := ⟨RX12, "isLetter", "(I)Z"⟩
abbrev cX12_isDigit : ByteArray := prog_14_method_21_code
def yX12_isDigit : MethodName := ⟨RX12, "isDigit", "(I)Z"⟩
abbrev cX12_isSignByte : ByteArray := prog_14_method_22_code
def yX12_isSignByte : MethodName := ⟨RX12, "isSignByte", "(I)Z"⟩
abbrev cX12_next : ByteArray := prog_14_method_23_code
def yX12_next : MethodName := ⟨RX12, "next", "()V"⟩
abbrev cX12_isSign : ByteArray := prog_14_method_24_code
def yX12_isSign : MethodName := ⟨RX12, "isSign", "(I)Z"⟩
abbrev cX12_spelled : ByteArray := prog_14_method_25_code
def yX12_spelled : MethodName := ⟨RX12, "spelled", "(IIIIII)J"⟩
abbrev cX12_isWord : ByteArray := prog_14_method_26_code
def yX12_isWord : MethodName := ⟨RX12, "isWord", "(J)Z"⟩
abbrev cX12_isWide : ByteArray := prog_14_method_27_code
def yX12_isWide : MethodName := ⟨RX12, "isWide", "()Z"⟩
abbrev cX12_isHigh : ByteArray := prog_14_method_28_code
def yX12_isHigh : MethodName := ⟨RX12, "isHigh", "()Z"⟩
abbrev cX12_isSchool : ByteArray := prog_14_method_29_code
def yX12_isSchool : MethodName := ⟨RX12, "isSchool", "()Z"⟩
abbrev cX12_isHands : ByteArray := prog_14_method_30_code
def yX12_isHands : MethodName := ⟨RX12, "isHands", "()Z"⟩
abbrev cX12_isSnow : ByteArray := prog_14_method_31_code
def yX12_isSnow : MethodName := ⟨RX12, "isSnow", "()Z"⟩
abbrev cX12_isDeep : ByteArray := prog_14_method_32_code
def yX12_isDeep : MethodName := ⟨RX12, "isDeep", "()Z"⟩
abbrev cX12_isWall : ByteArray := prog_14_method_33_code
def yX12_isWall : MethodName := ⟨RX12, "isWall", "()Z"⟩
abbrev cX12_isTall : ByteArray := prog_14_method_34_code
def yX12_isTall : MethodName := ⟨RX12, "isTall", "()Z"⟩
abbrev cX12_isSun : ByteArray := prog_14_method_35_code
def yX12_isSun : MethodName := ⟨RX12, "isSun", "()Z"⟩
abbrev cX12_isBy : ByteArray := prog_14_method_36_code
def yX12_isBy : MethodName := ⟨RX12, "isBy", "()Z"⟩
abbrev cX12_isNo : ByteArray := prog_14_method_37_code
def yX12_isNo : MethodName := ⟨RX12, "isNo", "()Z"⟩
abbrev cX12_isAbove : ByteArray := prog_14_method_38_code
def yX12_isAbove : MethodName := ⟨RX12, "isAbove", "()Z"⟩
abbrev cX12_isBuild : ByteArray := prog_14_method_39_code
def yX12_isBuild : MethodName := ⟨RX12, "isBuild", "()Z"⟩
abbrev cX12_isBehind : ByteArray := prog_14_method_40_code
def yX12_isBehind : MethodName := ⟨RX12, "isBehind", "()Z"⟩
abbrev cX12_isSteal : ByteArray := prog_14_method_41_code
def yX12_isSteal : MethodName := ⟨RX12, "isSteal", "()Z"⟩
abbrev cX12_isIce : ByteArray := prog_14_method_42_code
def yX12_isIce : MethodName := ⟨RX12, "isIce", "()Z"⟩
abbrev cX12_isTo : ByteArray := prog_14_method_43_code
def yX12_isTo : MethodName := ⟨RX12, "isTo", "()Z"⟩
abbrev cX12_isFrom : ByteArray := prog_14_method_44_code
def yX12_isFrom : MethodName := ⟨RX12, "isFrom", "()Z"⟩
abbrev cX12_stepWord : ByteArray := prog_14_method_45_code
def yX12_stepWord : MethodName := ⟨RX12, "stepWord", "()I"⟩
abbrev cX12_testWord : ByteArray := prog_14_method_46_code
def yX12_testWord : MethodName := ⟨RX12, "testWord", "()I"⟩
abbrev cX12_isEnd : ByteArray := prog_14_method_47_code
def yX12_isEnd : MethodName := ⟨RX12, "isEnd", "()Z"⟩
abbrev cX12_isKept : ByteArray := prog_14_method_48_code
def yX12_isKept : MethodName := ⟨RX12, "isKept", "()Z"⟩
abbrev cX12_fail : ByteArray := prog_14_method_49_code
def yX12_fail : MethodName := ⟨RX12, "fail", "(II)V"⟩
abbrev cX12_wrong : ByteArray := prog_14_method_50_code
def yX12_wrong : MethodName := ⟨RX12, "wrong", "()V"⟩
abbrev cX12_must : ByteArray := prog_14_method_51_code
def yX12_must : MethodName := ⟨RX12, "must", "(Z)V"⟩
abbrev cX12_count : ByteArray := prog_14_method_52_code
def yX12_count : MethodName := ⟨RX12, "count", "(II)I"⟩
abbrev cX12_feed : ByteArray := prog_14_method_53_code
def yX12_feed : MethodName := ⟨RX12, "feed", "(IIIII)I"⟩
abbrev cX12_lay : ByteArray := prog_14_method_54_code
def yX12_lay : MethodName := ⟨RX12, "lay", "(I)V"⟩
abbrev cX12_opens : ByteArray := prog_14_method_55_code
def yX12_opens : MethodName := ⟨RX12, "opens", "(II)Z"⟩
abbrev cX12_isWell : ByteArray := prog_14_method_56_code
def yX12_isWell : MethodName := ⟨RX12, "isWell", "()Z"⟩
abbrev cX12_fault : ByteArray := prog_14_method_57_code
def yX12_fault : MethodName := ⟨RX12, "fault", "(I)I"⟩
abbrev cX12_readSchool : ByteArray := prog_14_method_58_code
def yX12_readSchool : MethodName := ⟨RX12, "readSchool", "()V"⟩
abbrev cX12_readCell : ByteArray := prog_14_method_59_code
def yX12_readCell : MethodName := ⟨RX12, "readCell", "(I)V"⟩
abbrev cX12_readArticle : ByteArray := prog_14_method_60_code
def yX12_readArticle : MethodName := ⟨RX12, "readArticle", "()V"⟩
abbrev cX12_yard : ByteArray := prog_14_method_61_code
def yX12_yard : MethodName := ⟨RX12, "yard", "(I)I"⟩
abbrev cX12_readPlace : ByteArray := prog_14_method_62_code
def yX12_readPlace : MethodName := ⟨RX12, "readPlace", "(Z)I"⟩
abbrev cX12_readTest : ByteArray := prog_14_method_63_code
def yX12_readTest : MethodName := ⟨RX12, "readTest", "(I)V"⟩
abbrev cX12_readSteal : ByteArray := prog_14_method_64_code
def yX12_readSteal : MethodName := ⟨RX12, "readSteal", "(I)V"⟩
abbrev cX12_readRest : ByteArray := prog_14_method_65_code
def yX12_readRest : MethodName := ⟨RX12, "readRest", "(I)V"⟩
abbrev cX12_readStep : ByteArray := prog_14_method_66_code
def yX12_readStep : MethodName := ⟨RX12, "readStep", "(I)V"⟩
abbrev cX12_orders : ByteArray := prog_14_method_67_code
def yX12_orders : MethodName := ⟨RX12, "orders", "(I)I"⟩
abbrev cX12_isCell : ByteArray := prog_14_method_68_code
def yX12_isCell : MethodName := ⟨RX12, "isCell", "(II)Z"⟩
abbrev cX12_at2 : ByteArray := prog_14_method_69_code
def yX12_at2 : MethodName := ⟨RX12, "at2", "(II)I"⟩
abbrev cX12_halfOf : ByteArray := prog_14_method_70_code
def yX12_halfOf : MethodName := ⟨RX12, "halfOf", "(I)I"⟩
abbrev cX12_isSchoolAt : ByteArray := prog_14_method_71_code
def yX12_isSchoolAt : MethodName := ⟨RX12, "isSchoolAt", "(I)Z"⟩
abbrev cX12_acrossOf : ByteArray := prog_14_method_72_code
def yX12_acrossOf : MethodName := ⟨RX12, "acrossOf", "(I)I"⟩
abbrev cX12_allOf : ByteArray := prog_14_method_73_code
def yX12_allOf : MethodName := ⟨RX12, "allOf", "(I)I"⟩
abbrev cX12_allOfHalf : ByteArray := prog_14_method_74_code
def yX12_allOfHalf : MethodName := ⟨RX12, "allOfHalf", "(II)I"⟩
abbrev cX12_many : ByteArray := prog_14_method_75_code
def yX12_many : MethodName := ⟨RX12, "many", "(I)I"⟩
abbrev cX12_cell : ByteArray := prog_14_method_76_code
def yX12_cell : MethodName := ⟨RX12, "cell", "(III)I"⟩
abbrev cX12_school : ByteArray := prog_14_method_77_code
def yX12_school : MethodName := ⟨RX12, "school", "(II)I"⟩
abbrev cX12_article : ByteArray := prog_14_method_78_code
def yX12_article : MethodName := ⟨RX12, "article", "(I)I"⟩
abbrev cX12_breach : ByteArray := prog_14_method_79_code
def yX12_breach : MethodName := ⟨RX12, "breach", "(I)I"⟩
abbrev cX12_breaks : ByteArray := prog_14_method_80_code
def yX12_breaks : MethodName := ⟨RX12, "breaks", "(III)V"⟩
abbrev cX12_falls : ByteArray := prog_14_method_81_code
def yX12_falls : MethodName := ⟨RX12, "falls", "(I)I"⟩
abbrev cX12_fall : ByteArray := prog_14_method_82_code
def yX12_fall : MethodName := ⟨RX12, "fall", "(I)I"⟩
abbrev cX12_thaws : ByteArray := prog_14_method_83_code
def yX12_thaws : MethodName := ⟨RX12, "thaws", "(I)I"⟩
abbrev cX12_thaw : ByteArray := prog_14_method_84_code
def yX12_thaw : MethodName := ⟨RX12, "thaw", "(I)I"⟩
abbrev cX12_isHand : ByteArray := prog_14_method_85_code
def yX12_isHand : MethodName := ⟨RX12, "isHand", "(II)Z"⟩
abbrev cX12_builds : ByteArray := prog_14_method_86_code
def yX12_builds : MethodName := ⟨RX12, "builds", "(II)I"⟩
abbrev cX12_isOwned : ByteArray := prog_14_method_87_code
def yX12_isOwned : MethodName := ⟨RX12, "isOwned", "(II)Z"⟩
abbrev cX12_build : ByteArray := prog_14_method_88_code
def yX12_build : MethodName := ⟨RX12, "build", "(III)I"⟩
abbrev cX12_ices : ByteArray := prog_14_method_89_code
def yX12_ices : MethodName := ⟨RX12, "ices", "(I)Z"⟩
abbrev cX12_ice : ByteArray := prog_14_method_90_code
def yX12_ice : MethodName := ⟨RX12, "ice", "(II)Z"⟩
abbrev cX12_steals : ByteArray := prog_14_method_91_code
def yX12_steals : MethodName := ⟨RX12, "steals", "(III)I"⟩
abbrev cX12_steal : ByteArray := prog_14_method_92_code
def yX12_steal : MethodName := ⟨RX12, "steal", "(IIIII)I"⟩
abbrev cX12_nights : ByteArray := prog_14_method_93_code
def yX12_nights : MethodName := ⟨RX12, "nights", "()Z"⟩
abbrev cX12_night : ByteArray := prog_14_method_94_code
def yX12_night : MethodName := ⟨RX12, "night", "()I"⟩
abbrev cX12_lateRest : ByteArray := prog_14_method_95_code
def yX12_lateRest : MethodName := ⟨RX12, "lateRest", "(I)I"⟩
abbrev cX12_freeOf : ByteArray := prog_14_method_96_code
def yX12_freeOf : MethodName := ⟨RX12, "freeOf", "(I)I"⟩
abbrev cX12_room : ByteArray := prog_14_method_97_code
def yX12_room : MethodName := ⟨RX12, "room", "(II)I"⟩
abbrev cX12_most : ByteArray := prog_14_method_98_code
def yX12_most : MethodName := ⟨RX12, "most", "(I)I"⟩
abbrev cX12_topOf : ByteArray := prog_14_method_99_code
def yX12_topOf : MethodName := ⟨RX12, "topOf", "(I)I"⟩
abbrev cX12_lowest : ByteArray := prog_14_method_100_code
def yX12_lowest : MethodName := ⟨RX12, "lowest", "(I)I"⟩
abbrev cX12_highest : ByteArray := prog_14_method_101_code
def yX12_highest : MethodName := ⟨RX12, "highest", "(I)I"⟩
abbrev cX12_steepest : ByteArray := prog_14_method_102_code
def yX12_steepest : MethodName := ⟨RX12, "steepest", "()I"⟩
abbrev cX12_unlike : ByteArray := prog_14_method_103_code
def yX12_unlike : MethodName := ⟨RX12, "unlike", "()I"⟩
abbrev cX12_mayBe : ByteArray := prog_14_method_104_code
def yX12_mayBe : MethodName := ⟨RX12, "mayBe", "(II)Z"⟩
abbrev cX12_level : ByteArray := prog_14_method_105_code
def yX12_level : MethodName := ⟨RX12, "level", "(I)I"⟩
abbrev cX12_lastingOf : ByteArray := prog_14_method_106_code
def yX12_lastingOf : MethodName := ⟨RX12, "lastingOf", "(III)I"⟩
abbrev cX12_lasting : ByteArray := prog_14_method_107_code
def yX12_lasting : MethodName := ⟨RX12, "lasting", "(III)I"⟩
abbrev cX12_step : ByteArray := prog_14_method_108_code
def yX12_step : MethodName := ⟨RX12, "step", "(II)I"⟩
abbrev cX12_beside : ByteArray := prog_14_method_109_code
def yX12_beside : MethodName := ⟨RX12, "beside", "(II)I"⟩
abbrev cX12_goesBy : ByteArray := prog_14_method_110_code
def yX12_goesBy : MethodName := ⟨RX12, "goesBy", "(II)I"⟩
abbrev cX12_ways : ByteArray := prog_14_method_111_code
def yX12_ways : MethodName := ⟨RX12, "ways", "()I"⟩
abbrev cX12_way : ByteArray := prog_14_method_112_code
def yX12_way : MethodName := ⟨RX12, "way", "()I"⟩
abbrev cX12_wayAt : ByteArray := prog_14_method_113_code
def yX12_wayAt : MethodName := ⟨RX12, "wayAt", "(II)I"⟩
abbrev cX12_peace : ByteArray := prog_14_method_114_code
def yX12_peace : MethodName := ⟨RX12, "peace", "()I"⟩
abbrev cX12_look : ByteArray := prog_14_method_115_code
def yX12_look : MethodName := ⟨RX12, "look", "(II)I"⟩
abbrev cX12_hidingOf : ByteArray := prog_14_method_116_code
def yX12_hidingOf : MethodName := ⟨RX12, "hidingOf", "(I)I"⟩
abbrev cX12_hiding : ByteArray := prog_14_method_117_code
def yX12_hiding : MethodName := ⟨RX12, "hiding", "(I)I"⟩
abbrev cX12_sure : ByteArray := prog_14_method_118_code
def yX12_sure : MethodName := ⟨RX12, "sure", "(II)I"⟩
abbrev cX12_works : ByteArray := prog_14_method_119_code
def yX12_works : MethodName := ⟨RX12, "works", "(III)J"⟩
abbrev cX12_worked : ByteArray := prog_14_method_120_code
def yX12_worked : MethodName := ⟨RX12, "worked", "(I)I"⟩
abbrev cX12_isGame : ByteArray := prog_14_method_121_code
def yX12_isGame : MethodName := ⟨RX12, "isGame", "(IIII)Z"⟩
abbrev cX12_mostRaise : ByteArray := prog_14_method_122_code
def yX12_mostRaise : MethodName := ⟨RX12, "mostRaise", "(IIII)I"⟩
abbrev cX12_wins : ByteArray := prog_14_method_123_code
def yX12_wins : MethodName := ⟨RX12, "wins", "(IIII)I"⟩
abbrev cX12_turns : ByteArray := prog_14_method_124_code
def yX12_turns : MethodName := ⟨RX12, "turns", "(IIII)I"⟩
abbrev cX12_reckons : ByteArray := prog_14_method_125_code
def yX12_reckons : MethodName := ⟨RX12, "reckons", "(III)I"⟩
abbrev cX12_power : ByteArray := prog_14_method_126_code
def yX12_power : MethodName := ⟨RX12, "power", "(I)J"⟩
abbrev cX12_stands : ByteArray := prog_14_method_127_code
def yX12_stands : MethodName := ⟨RX12, "stands", "(III)Z"⟩
abbrev cX12_mean : ByteArray := prog_14_method_128_code
def yX12_mean : MethodName := ⟨RX12, "mean", "(III)Z"⟩
abbrev cX12_draw : ByteArray := prog_14_method_129_code
def yX12_draw : MethodName := ⟨RX12, "draw", "(I)I"⟩
abbrev cX12_does : ByteArray := prog_14_method_130_code
def yX12_does : MethodName := ⟨RX12, "does", "(I)Z"⟩
abbrev cX12_isSo : ByteArray := prog_14_method_131_code
def yX12_isSo : MethodName := ⟨RX12, "isSo", "(I)Z"⟩
abbrev cX12_doOne : ByteArray := prog_14_method_132_code
def yX12_doOne : MethodName := ⟨RX12, "doOne", "(I)V"⟩
abbrev cX12_doAll : ByteArray := prog_14_method_133_code
def yX12_doAll : MethodName := ⟨RX12, "doAll", "(II)V"⟩
abbrev cX12_runs : ByteArray := prog_14_method_134_code
def yX12_runs : MethodName := ⟨RX12, "runs", "(I)V"⟩
abbrev cX12_run : ByteArray := prog_14_method_135_code
def yX12_run : MethodName := ⟨RX12, "run", "(I)I"⟩
abbrev cX12_ran : ByteArray := prog_14_method_136_code
def yX12_ran : MethodName := ⟨RX12, "ran", "(I)I"⟩
abbrev cX12_peaces : ByteArray := prog_14_method_137_code
def yX12_peaces : MethodName := ⟨RX12, "peaces", "(II)Z"⟩
abbrev cX12_copy : ByteArray := prog_14_method_138_code
def yX12_copy : MethodName := ⟨RX12, "copy", "(II)V"⟩
abbrev cX12_mark : ByteArray := prog_14_method_139_code
def yX12_mark : MethodName := ⟨RX12, "mark", "()I"⟩
abbrev cX12_back : ByteArray := prog_14_method_140_code
def yX12_back : MethodName := ⟨RX12, "back", "()I"⟩
def RJx29ce0 : String := "java/lang/Enum"
def RJ9 : String := "java/lang/Math"
abbrev cJ9_abs_0f7a4 : ByteArray := prog_16_method_59_code
def yJ9_abs_0f7a4 : MethodName := ⟨RJ9, "abs", "(I)I"⟩
abbrev cJ9_abs_067f4 : ByteArray := prog_16_method_61_code
def yJ9_abs_067f4 : MethodName := ⟨RJ9, "abs", "(J)J"⟩
abbrev cJ9_max_7cf53 : ByteArray := prog_16_method_65_code
def yJ9_max_7cf53 : MethodName := ⟨RJ9, "max", "(II)I"⟩
abbrev cJ9_max_f86c9 : ByteArray := prog_16_method_66_code
def yJ9_max_f86c9 : MethodName := ⟨RJ9, "max", "(JJ)J"⟩
abbrev cJ9_min_7cf53 : ByteArray := prog_16_method_69_code
def yJ9_min_7cf53 : MethodName := ⟨RJ9, "min", "(II)I"⟩
def RJ10 : String := "java/lang/System"
def RJ7 : String := "java/util/Arrays"
abbrev cJ7_fill_d0a16 : ByteArray := prog_18_method_101_code
def yJ7_fill_d0a16 : MethodName := ⟨RJ7, "fill", "([JJ)V"⟩
abbrev cJ7_fill_53178 : ByteArray := prog_18_method_103_code
def yJ7_fill_53178 : MethodName := ⟨RJ7, "fill", "([II)V"⟩
def RL : String := "SnowFortsLaw"
abbrev cL_law : ByteArray := code
def yL_law : MethodName := ⟨RL, "law", "([I)Z"⟩
abbrev vwCl : List vw_C := [(RX0, TX0, 4), (RX1, TX1, 4), (RX2, TX2, 9), (RX3, TX3, 4), (RX4, TX4, 17), (RX5, TX5, 7), (RX6, TX6, 3), (RX7, TX7, 8), (RX9, TX9, 18), (RX10, TX10, 5), (RX11, TX11, 18), (RX12, TX12, 42)]
def GW : List Cond := lw_tbl.filter goodWord
theorem GW_mem {w : Cond} (h : w ∈ tables_1) (hg : goodWord w = true) : w ∈ GW := List.mem_filter.mpr ⟨List.mem_append_right _ h, hg⟩
theorem GW_memP {w : Cond} (h : w ∈ k2_sels lw_privs) (hg : goodWord w = true) : w ∈ GW := List.mem_filter.mpr ⟨List.mem_append_left _ h, hg⟩
theorem GW_good : ∀ w ∈ GW, w ∈ GW ∧ ((w.onTables && w.keeps) = true ∨ ∃ ty, w = .arrayClass ty) := fun w h => ⟨h, good_of_word (List.mem_filter.mp h).2⟩
