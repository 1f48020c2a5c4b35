section
-- ===== PART A: goes FIRST, ahead of the names: the tables' words, and 'selects' of the private methods out of them =====
/-- a private method of a class that the tables say can be made, by its rows of tables_1 -/
def lw_okq (q : MethodName × Nat) : Prop := (q.1.cls ≠ "java/lang/invoke/MethodHandle" ∧ q.1.cls ≠ "java/lang/invoke/VarHandle") ∧ Cond.instantiable q.1.cls q.2 ∈ tables_1 ∧ Cond.privateMethod q.1 ∈ tables_1 ∧ Cond.instanceMethod q.1 ∈ tables_1
theorem lw_p0 : lw_okq (⟨"AnyOrder$Tables", "allowAll", "()V"⟩, 7) := ⟨⟨by decide +kernel, by decide +kernel⟩, List.mem_of_getElem? (i := 26) (by decide +kernel), List.mem_of_getElem? (i := 36) (by decide +kernel), List.mem_of_getElem? (i := 37) (by decide +kernel)⟩
theorem lw_p1 : lw_okq (⟨"AnyOrder", "addTable", "(III)I"⟩, 8) := ⟨⟨by decide +kernel, by decide +kernel⟩, List.mem_of_getElem? (i := 18) (by decide +kernel), List.mem_of_getElem? (i := 294) (by decide +kernel), List.mem_of_getElem? (i := 295) (by decide +kernel)⟩
theorem lw_p2 : lw_okq (⟨"AnyOrder", "lookAtCells", "(IIII)I"⟩, 8) := ⟨⟨by decide +kernel, by decide +kernel⟩, List.mem_of_getElem? (i := 18) (by decide +kernel), List.mem_of_getElem? (i := 302) (by decide +kernel), List.mem_of_getElem? (i := 303) (by decide +kernel)⟩
theorem lw_p3 : lw_okq (⟨"AnyOrder$Tables", "restOf", "(J)J"⟩, 7) := ⟨⟨by decide +kernel, by decide +kernel⟩, List.mem_of_getElem? (i := 26) (by decide +kernel), List.mem_of_getElem? (i := 349) (by decide +kernel), List.mem_of_getElem? (i := 350) (by decide +kernel)⟩
theorem lw_p4 : lw_okq (⟨"AnyOrder$Tables", "makeTable", "(I[I)LAnyOrder$Table;"⟩, 7) := ⟨⟨by decide +kernel, by decide +kernel⟩, List.mem_of_getElem? (i := 26) (by decide +kernel), List.mem_of_getElem? (i := 353) (by decide +kernel), List.mem_of_getElem? (i := 354) (by decide +kernel)⟩
theorem lw_p5 : lw_okq (⟨"AnyOrder$Tables", "isShuffle", "([I)Z"⟩, 7) := ⟨⟨by decide +kernel, by decide +kernel⟩, List.mem_of_getElem? (i := 26) (by decide +kernel), List.mem_of_getElem? (i := 357) (by decide +kernel), List.mem_of_getElem? (i := 358) (by decide +kernel)⟩
theorem lw_p6 : lw_okq (⟨"AnyOrder$Tables", "isEven", "([I)Z"⟩, 7) := ⟨⟨by decide +kernel, by decide +kernel⟩, List.mem_of_getElem? (i := 26) (by decide +kernel), List.mem_of_getElem? (i := 361) (by decide +kernel), List.mem_of_getElem? (i := 362) (by decide +kernel)⟩
theorem lw_p7 : lw_okq (⟨"AnyOrder", "settle", "(I)I"⟩, 8) := ⟨⟨by decide +kernel, by decide +kernel⟩, List.mem_of_getElem? (i := 18) (by decide +kernel), List.mem_of_getElem? (i := 405) (by decide +kernel), List.mem_of_getElem? (i := 406) (by decide +kernel)⟩
theorem lw_p8 : lw_okq (⟨"AnyOrder$Lengths", "findWays", "()V"⟩, 6) := ⟨⟨by decide +kernel, by decide +kernel⟩, List.mem_of_getElem? (i := 64) (by decide +kernel), List.mem_of_getElem? (i := 454) (by decide +kernel), List.mem_of_getElem? (i := 455) (by decide +kernel)⟩
theorem lw_p9 : lw_okq (⟨"AnyOrder$Lengths", "countWays", "(II)I"⟩, 6) := ⟨⟨by decide +kernel, by decide +kernel⟩, List.mem_of_getElem? (i := 64) (by decide +kernel), List.mem_of_getElem? (i := 462) (by decide +kernel), List.mem_of_getElem? (i := 463) (by decide +kernel)⟩
theorem lw_p10 : lw_okq (⟨"AnyOrder$Lengths", "noteWord", "(LAnyOrder$Survey;I)V"⟩, 6) := ⟨⟨by decide +kernel, by decide +kernel⟩, List.mem_of_getElem? (i := 64) (by decide +kernel), List.mem_of_getElem? (i := 481) (by decide +kernel), List.mem_of_getElem? (i := 482) (by decide +kernel)⟩
theorem lw_p11 : lw_okq (⟨"AnyOrder$Lengths", "leadsOn", "(III)Z"⟩, 6) := ⟨⟨by decide +kernel, by decide +kernel⟩, List.mem_of_getElem? (i := 64) (by decide +kernel), List.mem_of_getElem? (i := 525) (by decide +kernel), List.mem_of_getElem? (i := 526) (by decide +kernel)⟩
theorem lw_p12 : lw_okq (⟨"AnyOrder$Lengths", "extendPrefix", "(II)V"⟩, 6) := ⟨⟨by decide +kernel, by decide +kernel⟩, List.mem_of_getElem? (i := 64) (by decide +kernel), List.mem_of_getElem? (i := 529) (by decide +kernel), List.mem_of_getElem? (i := 530) (by decide +kernel)⟩
theorem lw_p13 : lw_okq (⟨"AnyOrder$Closure", "findAll", "()Z"⟩, 13) := ⟨⟨by decide +kernel, by decide +kernel⟩, List.mem_of_getElem? (i := 142) (by decide +kernel), List.mem_of_getElem? (i := 583) (by decide +kernel), List.mem_of_getElem? (i := 584) (by decide +kernel)⟩
theorem lw_p14 : lw_okq (⟨"AnyOrder$Closure", "prepareRows", "()V"⟩, 13) := ⟨⟨by decide +kernel, by decide +kernel⟩, List.mem_of_getElem? (i := 142) (by decide +kernel), List.mem_of_getElem? (i := 587) (by decide +kernel), List.mem_of_getElem? (i := 588) (by decide +kernel)⟩
theorem lw_p15 : lw_okq (⟨"AnyOrder$Closure", "take", "([JI)Z"⟩, 13) := ⟨⟨by decide +kernel, by decide +kernel⟩, List.mem_of_getElem? (i := 142) (by decide +kernel), List.mem_of_getElem? (i := 595) (by decide +kernel), List.mem_of_getElem? (i := 596) (by decide +kernel)⟩
def lw_privs_1 : List (MethodName × Nat) := [(⟨"AnyOrder$Tables", "allowAll", "()V"⟩, 7), (⟨"AnyOrder", "addTable", "(III)I"⟩, 8), (⟨"AnyOrder", "lookAtCells", "(IIII)I"⟩, 8), (⟨"AnyOrder$Tables", "restOf", "(J)J"⟩, 7), (⟨"AnyOrder$Tables", "makeTable", "(I[I)LAnyOrder$Table;"⟩, 7), (⟨"AnyOrder$Tables", "isShuffle", "([I)Z"⟩, 7), (⟨"AnyOrder$Tables", "isEven", "([I)Z"⟩, 7), (⟨"AnyOrder", "settle", "(I)I"⟩, 8), (⟨"AnyOrder$Lengths", "findWays", "()V"⟩, 6), (⟨"AnyOrder$Lengths", "countWays", "(II)I"⟩, 6), (⟨"AnyOrder$Lengths", "noteWord", "(LAnyOrder$Survey;I)V"⟩, 6), (⟨"AnyOrder$Lengths", "leadsOn", "(III)Z"⟩, 6), (⟨"AnyOrder$Lengths", "extendPrefix", "(II)V"⟩, 6), (⟨"AnyOrder$Closure", "findAll", "()Z"⟩, 13), (⟨"AnyOrder$Closure", "prepareRows", "()V"⟩, 13), (⟨"AnyOrder$Closure", "take", "([JI)Z"⟩, 13)]
theorem lw_r1 : ∀ q ∈ lw_privs_1, lw_okq q := List.forall_mem_cons.mpr ⟨lw_p0, List.forall_mem_cons.mpr ⟨lw_p1, List.forall_mem_cons.mpr ⟨lw_p2, List.forall_mem_cons.mpr ⟨lw_p3, List.forall_mem_cons.mpr ⟨lw_p4, List.forall_mem_cons.mpr ⟨lw_p5, List.forall_mem_cons.mpr ⟨lw_p6, List.forall_mem_cons.mpr ⟨lw_p7, List.forall_mem_cons.mpr ⟨lw_p8, List.forall_mem_cons.mpr ⟨lw_p9, List.forall_mem_cons.mpr ⟨lw_p10, List.forall_mem_cons.mpr ⟨lw_p11, List.forall_mem_cons.mpr ⟨lw_p12, List.forall_mem_cons.mpr ⟨lw_p13, List.forall_mem_cons.mpr ⟨lw_p14, List.forall_mem_cons.mpr ⟨lw_p15, fun _ h => absurd h List.not_mem_nil⟩⟩⟩⟩⟩⟩⟩⟩⟩⟩⟩⟩⟩⟩⟩⟩
theorem lw_p16 : lw_okq (⟨"AnyOrder$Closure", "isBeyond", "([J)Z"⟩, 13) := ⟨⟨by decide +kernel, by decide +kernel⟩, List.mem_of_getElem? (i := 142) (by decide +kernel), List.mem_of_getElem? (i := 599) (by decide +kernel), List.mem_of_getElem? (i := 600) (by decide +kernel)⟩
theorem lw_p17 : lw_okq (⟨"AnyOrder$Closure", "slotOf", "([J)I"⟩, 13) := ⟨⟨by decide +kernel, by decide +kernel⟩, List.mem_of_getElem? (i := 142) (by decide +kernel), List.mem_of_getElem? (i := 605) (by decide +kernel), List.mem_of_getElem? (i := 606) (by decide +kernel)⟩
theorem lw_p18 : lw_okq (⟨"AnyOrder$Closure", "firstSlotOf", "([J)I"⟩, 13) := ⟨⟨by decide +kernel, by decide +kernel⟩, List.mem_of_getElem? (i := 142) (by decide +kernel), List.mem_of_getElem? (i := 609) (by decide +kernel), List.mem_of_getElem? (i := 610) (by decide +kernel)⟩
theorem lw_p19 : lw_okq (⟨"AnyOrder$Closure", "isSame", "(I[J)Z"⟩, 13) := ⟨⟨by decide +kernel, by decide +kernel⟩, List.mem_of_getElem? (i := 142) (by decide +kernel), List.mem_of_getElem? (i := 614) (by decide +kernel), List.mem_of_getElem? (i := 615) (by decide +kernel)⟩
theorem lw_p20 : lw_okq (⟨"AnyOrder$Closure", "extendByLetters", "(I)Z"⟩, 13) := ⟨⟨by decide +kernel, by decide +kernel⟩, List.mem_of_getElem? (i := 142) (by decide +kernel), List.mem_of_getElem? (i := 619) (by decide +kernel), List.mem_of_getElem? (i := 620) (by decide +kernel)⟩
theorem lw_p21 : lw_okq (⟨"AnyOrder$Closure", "load", "(I[J)V"⟩, 13) := ⟨⟨by decide +kernel, by decide +kernel⟩, List.mem_of_getElem? (i := 142) (by decide +kernel), List.mem_of_getElem? (i := 623) (by decide +kernel), List.mem_of_getElem? (i := 624) (by decide +kernel)⟩
theorem lw_p22 : lw_okq (⟨"AnyOrder$Closure", "sumUp", "()V"⟩, 13) := ⟨⟨by decide +kernel, by decide +kernel⟩, List.mem_of_getElem? (i := 142) (by decide +kernel), List.mem_of_getElem? (i := 628) (by decide +kernel), List.mem_of_getElem? (i := 629) (by decide +kernel)⟩
theorem lw_p23 : lw_okq (⟨"AnyOrder$Closure", "multiplyNumbered", "(II)V"⟩, 13) := ⟨⟨by decide +kernel, by decide +kernel⟩, List.mem_of_getElem? (i := 142) (by decide +kernel), List.mem_of_getElem? (i := 632) (by decide +kernel), List.mem_of_getElem? (i := 633) (by decide +kernel)⟩
theorem lw_p24 : lw_okq (⟨"AnyOrder", "keepWord", "(IIII)I"⟩, 8) := ⟨⟨by decide +kernel, by decide +kernel⟩, List.mem_of_getElem? (i := 18) (by decide +kernel), List.mem_of_getElem? (i := 678) (by decide +kernel), List.mem_of_getElem? (i := 679) (by decide +kernel)⟩
theorem lw_p25 : lw_okq (⟨"AnyOrder", "finishWord", "()I"⟩, 8) := ⟨⟨by decide +kernel, by decide +kernel⟩, List.mem_of_getElem? (i := 18) (by decide +kernel), List.mem_of_getElem? (i := 690) (by decide +kernel), List.mem_of_getElem? (i := 691) (by decide +kernel)⟩
theorem lw_p26 : lw_okq (⟨"AnyOrder", "hasWord", "(I)Z"⟩, 8) := ⟨⟨by decide +kernel, by decide +kernel⟩, List.mem_of_getElem? (i := 18) (by decide +kernel), List.mem_of_getElem? (i := 704) (by decide +kernel), List.mem_of_getElem? (i := 705) (by decide +kernel)⟩
theorem lw_p27 : lw_okq (⟨"AnyOrder", "isRing", "(LAnyOrder$Word;)Z"⟩, 8) := ⟨⟨by decide +kernel, by decide +kernel⟩, List.mem_of_getElem? (i := 18) (by decide +kernel), List.mem_of_getElem? (i := 725) (by decide +kernel), List.mem_of_getElem? (i := 726) (by decide +kernel)⟩
theorem lw_p28 : lw_okq (⟨"AnyOrder", "renewSheet", "(III)I"⟩, 8) := ⟨⟨by decide +kernel, by decide +kernel⟩, List.mem_of_getElem? (i := 18) (by decide +kernel), List.mem_of_getElem? (i := 751) (by decide +kernel), List.mem_of_getElem? (i := 752) (by decide +kernel)⟩
theorem lw_p29 : lw_okq (⟨"AnyOrder", "putCell", "(III)I"⟩, 8) := ⟨⟨by decide +kernel, by decide +kernel⟩, List.mem_of_getElem? (i := 18) (by decide +kernel), List.mem_of_getElem? (i := 772) (by decide +kernel), List.mem_of_getElem? (i := 773) (by decide +kernel)⟩
theorem lw_p30 : lw_okq (⟨"AnyOrder", "takeAs", "(II)I"⟩, 8) := ⟨⟨by decide +kernel, by decide +kernel⟩, List.mem_of_getElem? (i := 18) (by decide +kernel), List.mem_of_getElem? (i := 840) (by decide +kernel), List.mem_of_getElem? (i := 841) (by decide +kernel)⟩
theorem lw_p31 : lw_okq (⟨"AnyOrderModel", "against", "(II)I"⟩, 33) := ⟨⟨by decide +kernel, by decide +kernel⟩, List.mem_of_getElem? (i := 874) (by decide +kernel), List.mem_of_getElem? (i := 994) (by decide +kernel), List.mem_of_getElem? (i := 995) (by decide +kernel)⟩
def lw_privs_2 : List (MethodName × Nat) := [(⟨"AnyOrder$Closure", "isBeyond", "([J)Z"⟩, 13), (⟨"AnyOrder$Closure", "slotOf", "([J)I"⟩, 13), (⟨"AnyOrder$Closure", "firstSlotOf", "([J)I"⟩, 13), (⟨"AnyOrder$Closure", "isSame", "(I[J)Z"⟩, 13), (⟨"AnyOrder$Closure", "extendByLetters", "(I)Z"⟩, 13), (⟨"AnyOrder$Closure", "load", "(I[J)V"⟩, 13), (⟨"AnyOrder$Closure", "sumUp", "()V"⟩, 13), (⟨"AnyOrder$Closure", "multiplyNumbered", "(II)V"⟩, 13), (⟨"AnyOrder", "keepWord", "(IIII)I"⟩, 8), (⟨"AnyOrder", "finishWord", "()I"⟩, 8), (⟨"AnyOrder", "hasWord", "(I)Z"⟩, 8), (⟨"AnyOrder", "isRing", "(LAnyOrder$Word;)Z"⟩, 8), (⟨"AnyOrder", "renewSheet", "(III)I"⟩, 8), (⟨"AnyOrder", "putCell", "(III)I"⟩, 8), (⟨"AnyOrder", "takeAs", "(II)I"⟩, 8), (⟨"AnyOrderModel", "against", "(II)I"⟩, 33)]
theorem lw_r2 : ∀ q ∈ lw_privs_2, lw_okq q := List.forall_mem_cons.mpr ⟨lw_p16, List.forall_mem_cons.mpr ⟨lw_p17, List.forall_mem_cons.mpr ⟨lw_p18, List.forall_mem_cons.mpr ⟨lw_p19, List.forall_mem_cons.mpr ⟨lw_p20, List.forall_mem_cons.mpr ⟨lw_p21, List.forall_mem_cons.mpr ⟨lw_p22, List.forall_mem_cons.mpr ⟨lw_p23, List.forall_mem_cons.mpr ⟨lw_p24, List.forall_mem_cons.mpr ⟨lw_p25, List.forall_mem_cons.mpr ⟨lw_p26, List.forall_mem_cons.mpr ⟨lw_p27, List.forall_mem_cons.mpr ⟨lw_p28, List.forall_mem_cons.mpr ⟨lw_p29, List.forall_mem_cons.mpr ⟨lw_p30, List.forall_mem_cons.mpr ⟨lw_p31, fun _ h => absurd h List.not_mem_nil⟩⟩⟩⟩⟩⟩⟩⟩⟩⟩⟩⟩⟩⟩⟩⟩
theorem lw_p32 : lw_okq (⟨"AnyOrderModel", "fails", "(I)I"⟩, 33) := ⟨⟨by decide +kernel, by decide +kernel⟩, List.mem_of_getElem? (i := 874) (by decide +kernel), List.mem_of_getElem? (i := 998) (by decide +kernel), List.mem_of_getElem? (i := 999) (by decide +kernel)⟩
theorem lw_p33 : lw_okq (⟨"AnyOrderModel", "isTable", "(I)Z"⟩, 33) := ⟨⟨by decide +kernel, by decide +kernel⟩, List.mem_of_getElem? (i := 874) (by decide +kernel), List.mem_of_getElem? (i := 1008) (by decide +kernel), List.mem_of_getElem? (i := 1009) (by decide +kernel)⟩
theorem lw_p34 : lw_okq (⟨"AnyOrderModel", "isPlace", "(II)Z"⟩, 33) := ⟨⟨by decide +kernel, by decide +kernel⟩, List.mem_of_getElem? (i := 874) (by decide +kernel), List.mem_of_getElem? (i := 1012) (by decide +kernel), List.mem_of_getElem? (i := 1013) (by decide +kernel)⟩
theorem lw_p35 : lw_okq (⟨"AnyOrderModel", "isSpent", "(I)Z"⟩, 33) := ⟨⟨by decide +kernel, by decide +kernel⟩, List.mem_of_getElem? (i := 874) (by decide +kernel), List.mem_of_getElem? (i := 1026) (by decide +kernel), List.mem_of_getElem? (i := 1027) (by decide +kernel)⟩
theorem lw_p36 : lw_okq (⟨"AnyOrderModel", "mayFollow", "(II)Z"⟩, 33) := ⟨⟨by decide +kernel, by decide +kernel⟩, List.mem_of_getElem? (i := 874) (by decide +kernel), List.mem_of_getElem? (i := 1030) (by decide +kernel), List.mem_of_getElem? (i := 1031) (by decide +kernel)⟩
theorem lw_p37 : lw_okq (⟨"AnyOrderModel", "goThrough", "(I)V"⟩, 33) := ⟨⟨by decide +kernel, by decide +kernel⟩, List.mem_of_getElem? (i := 874) (by decide +kernel), List.mem_of_getElem? (i := 1035) (by decide +kernel), List.mem_of_getElem? (i := 1036) (by decide +kernel)⟩
theorem lw_p38 : lw_okq (⟨"AnyOrderModel", "beginWords", "()V"⟩, 33) := ⟨⟨by decide +kernel, by decide +kernel⟩, List.mem_of_getElem? (i := 874) (by decide +kernel), List.mem_of_getElem? (i := 1039) (by decide +kernel), List.mem_of_getElem? (i := 1040) (by decide +kernel)⟩
theorem lw_p39 : lw_okq (⟨"AnyOrderModel", "beginLevels", "()V"⟩, 33) := ⟨⟨by decide +kernel, by decide +kernel⟩, List.mem_of_getElem? (i := 874) (by decide +kernel), List.mem_of_getElem? (i := 1043) (by decide +kernel), List.mem_of_getElem? (i := 1044) (by decide +kernel)⟩
theorem lw_p40 : lw_okq (⟨"AnyOrderModel", "next", "(I)Z"⟩, 33) := ⟨⟨by decide +kernel, by decide +kernel⟩, List.mem_of_getElem? (i := 874) (by decide +kernel), List.mem_of_getElem? (i := 1047) (by decide +kernel), List.mem_of_getElem? (i := 1048) (by decide +kernel)⟩
theorem lw_p41 : lw_okq (⟨"AnyOrderModel", "goOn", "(II)V"⟩, 33) := ⟨⟨by decide +kernel, by decide +kernel⟩, List.mem_of_getElem? (i := 874) (by decide +kernel), List.mem_of_getElem? (i := 1051) (by decide +kernel), List.mem_of_getElem? (i := 1052) (by decide +kernel)⟩
theorem lw_p42 : lw_okq (⟨"AnyOrderModel", "rest", "(J)J"⟩, 33) := ⟨⟨by decide +kernel, by decide +kernel⟩, List.mem_of_getElem? (i := 874) (by decide +kernel), List.mem_of_getElem? (i := 1055) (by decide +kernel), List.mem_of_getElem? (i := 1056) (by decide +kernel)⟩
theorem lw_p43 : lw_okq (⟨"AnyOrderModel", "normAt", "(I)J"⟩, 33) := ⟨⟨by decide +kernel, by decide +kernel⟩, List.mem_of_getElem? (i := 874) (by decide +kernel), List.mem_of_getElem? (i := 1059) (by decide +kernel), List.mem_of_getElem? (i := 1060) (by decide +kernel)⟩
theorem lw_p44 : lw_okq (⟨"AnyOrderModel", "findRings", "(I)V"⟩, 33) := ⟨⟨by decide +kernel, by decide +kernel⟩, List.mem_of_getElem? (i := 874) (by decide +kernel), List.mem_of_getElem? (i := 1074) (by decide +kernel), List.mem_of_getElem? (i := 1075) (by decide +kernel)⟩
theorem lw_p45 : lw_okq (⟨"AnyOrderModel", "isRing", "(I)Z"⟩, 33) := ⟨⟨by decide +kernel, by decide +kernel⟩, List.mem_of_getElem? (i := 874) (by decide +kernel), List.mem_of_getElem? (i := 1078) (by decide +kernel), List.mem_of_getElem? (i := 1079) (by decide +kernel)⟩
theorem lw_p46 : lw_okq (⟨"AnyOrderModel", "isAllowed", "(I)Z"⟩, 33) := ⟨⟨by decide +kernel, by decide +kernel⟩, List.mem_of_getElem? (i := 874) (by decide +kernel), List.mem_of_getElem? (i := 1082) (by decide +kernel), List.mem_of_getElem? (i := 1083) (by decide +kernel)⟩
theorem lw_p47 : lw_okq (⟨"AnyOrderModel", "timesOf", "(I)I"⟩, 33) := ⟨⟨by decide +kernel, by decide +kernel⟩, List.mem_of_getElem? (i := 874) (by decide +kernel), List.mem_of_getElem? (i := 1086) (by decide +kernel), List.mem_of_getElem? (i := 1087) (by decide +kernel)⟩
def lw_privs_3 : List (MethodName × Nat) := [(⟨"AnyOrderModel", "fails", "(I)I"⟩, 33), (⟨"AnyOrderModel", "isTable", "(I)Z"⟩, 33), (⟨"AnyOrderModel", "isPlace", "(II)Z"⟩, 33), (⟨"AnyOrderModel", "isSpent", "(I)Z"⟩, 33), (⟨"AnyOrderModel", "mayFollow", "(II)Z"⟩, 33), (⟨"AnyOrderModel", "goThrough", "(I)V"⟩, 33), (⟨"AnyOrderModel", "beginWords", "()V"⟩, 33), (⟨"AnyOrderModel", "beginLevels", "()V"⟩, 33), (⟨"AnyOrderModel", "next", "(I)Z"⟩, 33), (⟨"AnyOrderModel", "goOn", "(II)V"⟩, 33), (⟨"AnyOrderModel", "rest", "(J)J"⟩, 33), (⟨"AnyOrderModel", "normAt", "(I)J"⟩, 33), (⟨"AnyOrderModel", "findRings", "(I)V"⟩, 33), (⟨"AnyOrderModel", "isRing", "(I)Z"⟩, 33), (⟨"AnyOrderModel", "isAllowed", "(I)Z"⟩, 33), (⟨"AnyOrderModel", "timesOf", "(I)I"⟩, 33)]
theorem lw_r3 : ∀ q ∈ lw_privs_3, lw_okq q := List.forall_mem_cons.mpr ⟨lw_p32, List.forall_mem_cons.mpr ⟨lw_p33, List.forall_mem_cons.mpr ⟨lw_p34, List.forall_mem_cons.mpr ⟨lw_p35, List.forall_mem_cons.mpr ⟨lw_p36, List.forall_mem_cons.mpr ⟨lw_p37, List.forall_mem_cons.mpr ⟨lw_p38, List.forall_mem_cons.mpr ⟨lw_p39, List.forall_mem_cons.mpr ⟨lw_p40, List.forall_mem_cons.mpr ⟨lw_p41, List.forall_mem_cons.mpr ⟨lw_p42, List.forall_mem_cons.mpr ⟨lw_p43, List.forall_mem_cons.mpr ⟨lw_p44, List.forall_mem_cons.mpr ⟨lw_p45, List.forall_mem_cons.mpr ⟨lw_p46, List.forall_mem_cons.mpr ⟨lw_p47, fun _ h => absurd h List.not_mem_nil⟩⟩⟩⟩⟩⟩⟩⟩⟩⟩⟩⟩⟩⟩⟩⟩
theorem lw_p48 : lw_okq (⟨"AnyOrderModel", "isFirstTurn", "(I)Z"⟩, 33) := ⟨⟨by decide +kernel, by decide +kernel⟩, List.mem_of_getElem? (i := 874) (by decide +kernel), List.mem_of_getElem? (i := 1090) (by decide +kernel), List.mem_of_getElem? (i := 1091) (by decide +kernel)⟩
theorem lw_p49 : lw_okq (⟨"AnyOrderModel", "trackAt", "(I)J"⟩, 33) := ⟨⟨by decide +kernel, by decide +kernel⟩, List.mem_of_getElem? (i := 874) (by decide +kernel), List.mem_of_getElem? (i := 1094) (by decide +kernel), List.mem_of_getElem? (i := 1095) (by decide +kernel)⟩
theorem lw_p50 : lw_okq (⟨"AnyOrderModel", "comes", "(II)Z"⟩, 33) := ⟨⟨by decide +kernel, by decide +kernel⟩, List.mem_of_getElem? (i := 874) (by decide +kernel), List.mem_of_getElem? (i := 1118) (by decide +kernel), List.mem_of_getElem? (i := 1119) (by decide +kernel)⟩
theorem lw_p51 : lw_okq (⟨"AnyOrderModel", "findAt", "(I)I"⟩, 33) := ⟨⟨by decide +kernel, by decide +kernel⟩, List.mem_of_getElem? (i := 874) (by decide +kernel), List.mem_of_getElem? (i := 1124) (by decide +kernel), List.mem_of_getElem? (i := 1125) (by decide +kernel)⟩
theorem lw_p52 : lw_okq (⟨"AnyOrderModel", "chainOf", "(I)I"⟩, 33) := ⟨⟨by decide +kernel, by decide +kernel⟩, List.mem_of_getElem? (i := 874) (by decide +kernel), List.mem_of_getElem? (i := 1128) (by decide +kernel), List.mem_of_getElem? (i := 1129) (by decide +kernel)⟩
theorem lw_p53 : lw_okq (⟨"AnyOrderModel", "layProduct", "(II)V"⟩, 33) := ⟨⟨by decide +kernel, by decide +kernel⟩, List.mem_of_getElem? (i := 874) (by decide +kernel), List.mem_of_getElem? (i := 1134) (by decide +kernel), List.mem_of_getElem? (i := 1135) (by decide +kernel)⟩
theorem lw_p54 : lw_okq (⟨"AnyOrderModel", "isNought", "(I)Z"⟩, 33) := ⟨⟨by decide +kernel, by decide +kernel⟩, List.mem_of_getElem? (i := 874) (by decide +kernel), List.mem_of_getElem? (i := 1143) (by decide +kernel), List.mem_of_getElem? (i := 1144) (by decide +kernel)⟩
theorem lw_p55 : lw_okq (⟨"AnyOrderModel", "isOne", "(I)Z"⟩, 33) := ⟨⟨by decide +kernel, by decide +kernel⟩, List.mem_of_getElem? (i := 874) (by decide +kernel), List.mem_of_getElem? (i := 1147) (by decide +kernel), List.mem_of_getElem? (i := 1148) (by decide +kernel)⟩
theorem lw_p56 : lw_okq (⟨"AnyOrderModel", "multiply", "(II)V"⟩, 33) := ⟨⟨by decide +kernel, by decide +kernel⟩, List.mem_of_getElem? (i := 874) (by decide +kernel), List.mem_of_getElem? (i := 1151) (by decide +kernel), List.mem_of_getElem? (i := 1152) (by decide +kernel)⟩
theorem lw_p57 : lw_okq (⟨"AnyOrderModel", "isProduct", "(I)Z"⟩, 33) := ⟨⟨by decide +kernel, by decide +kernel⟩, List.mem_of_getElem? (i := 874) (by decide +kernel), List.mem_of_getElem? (i := 1159) (by decide +kernel), List.mem_of_getElem? (i := 1160) (by decide +kernel)⟩
theorem lw_p58 : lw_okq (⟨"AnyOrderModel", "isWord", "(I)Z"⟩, 33) := ⟨⟨by decide +kernel, by decide +kernel⟩, List.mem_of_getElem? (i := 874) (by decide +kernel), List.mem_of_getElem? (i := 1176) (by decide +kernel), List.mem_of_getElem? (i := 1177) (by decide +kernel)⟩
theorem lw_p59 : lw_okq (⟨"AnyOrderModel", "multiplyOut", "(I)V"⟩, 33) := ⟨⟨by decide +kernel, by decide +kernel⟩, List.mem_of_getElem? (i := 874) (by decide +kernel), List.mem_of_getElem? (i := 1192) (by decide +kernel), List.mem_of_getElem? (i := 1193) (by decide +kernel)⟩
theorem lw_p60 : lw_okq (⟨"AnyOrderModel", "lost", "(I)J"⟩, 33) := ⟨⟨by decide +kernel, by decide +kernel⟩, List.mem_of_getElem? (i := 874) (by decide +kernel), List.mem_of_getElem? (i := 1216) (by decide +kernel), List.mem_of_getElem? (i := 1217) (by decide +kernel)⟩
theorem lw_p61 : lw_okq (⟨"AnyOrderModel", "kindOf", "(I)I"⟩, 33) := ⟨⟨by decide +kernel, by decide +kernel⟩, List.mem_of_getElem? (i := 874) (by decide +kernel), List.mem_of_getElem? (i := 1224) (by decide +kernel), List.mem_of_getElem? (i := 1225) (by decide +kernel)⟩
theorem lw_p62 : lw_okq (⟨"AnyOrderModel", "begins", "(I)V"⟩, 33) := ⟨⟨by decide +kernel, by decide +kernel⟩, List.mem_of_getElem? (i := 874) (by decide +kernel), List.mem_of_getElem? (i := 1228) (by decide +kernel), List.mem_of_getElem? (i := 1229) (by decide +kernel)⟩
theorem lw_p63 : lw_okq (⟨"AnyOrderModel", "trackOf", "(I)I"⟩, 33) := ⟨⟨by decide +kernel, by decide +kernel⟩, List.mem_of_getElem? (i := 874) (by decide +kernel), List.mem_of_getElem? (i := 1232) (by decide +kernel), List.mem_of_getElem? (i := 1233) (by decide +kernel)⟩
def lw_privs_4 : List (MethodName × Nat) := [(⟨"AnyOrderModel", "isFirstTurn", "(I)Z"⟩, 33), (⟨"AnyOrderModel", "trackAt", "(I)J"⟩, 33), (⟨"AnyOrderModel", "comes", "(II)Z"⟩, 33), (⟨"AnyOrderModel", "findAt", "(I)I"⟩, 33), (⟨"AnyOrderModel", "chainOf", "(I)I"⟩, 33), (⟨"AnyOrderModel", "layProduct", "(II)V"⟩, 33), (⟨"AnyOrderModel", "isNought", "(I)Z"⟩, 33), (⟨"AnyOrderModel", "isOne", "(I)Z"⟩, 33), (⟨"AnyOrderModel", "multiply", "(II)V"⟩, 33), (⟨"AnyOrderModel", "isProduct", "(I)Z"⟩, 33), (⟨"AnyOrderModel", "isWord", "(I)Z"⟩, 33), (⟨"AnyOrderModel", "multiplyOut", "(I)V"⟩, 33), (⟨"AnyOrderModel", "lost", "(I)J"⟩, 33), (⟨"AnyOrderModel", "kindOf", "(I)I"⟩, 33), (⟨"AnyOrderModel", "begins", "(I)V"⟩, 33), (⟨"AnyOrderModel", "trackOf", "(I)I"⟩, 33)]
theorem lw_r4 : ∀ q ∈ lw_privs_4, lw_okq q := List.forall_mem_cons.mpr ⟨lw_p48, List.forall_mem_cons.mpr ⟨lw_p49, List.forall_mem_cons.mpr ⟨lw_p50, List.forall_mem_cons.mpr ⟨lw_p51, List.forall_mem_cons.mpr ⟨lw_p52, List.forall_mem_cons.mpr ⟨lw_p53, List.forall_mem_cons.mpr ⟨lw_p54, List.forall_mem_cons.mpr ⟨lw_p55, List.forall_mem_cons.mpr ⟨lw_p56, List.forall_mem_cons.mpr ⟨lw_p57, List.forall_mem_cons.mpr ⟨lw_p58, List.forall_mem_cons.mpr ⟨lw_p59, List.forall_mem_cons.mpr ⟨lw_p60, List.forall_mem_cons.mpr ⟨lw_p61, List.forall_mem_cons.mpr ⟨lw_p62, List.forall_mem_cons.mpr ⟨lw_p63, fun _ h => absurd h List.not_mem_nil⟩⟩⟩⟩⟩⟩⟩⟩⟩⟩⟩⟩⟩⟩⟩⟩
theorem lw_p64 : lw_okq (⟨"AnyOrderModel", "greatestOf", "(I)I"⟩, 33) := ⟨⟨by decide +kernel, by decide +kernel⟩, List.mem_of_getElem? (i := 874) (by decide +kernel), List.mem_of_getElem? (i := 1236) (by decide +kernel), List.mem_of_getElem? (i := 1237) (by decide +kernel)⟩
def lw_privs_5 : List (MethodName × Nat) := [(⟨"AnyOrderModel", "greatestOf", "(I)I"⟩, 33)]
theorem lw_r5 : ∀ q ∈ lw_privs_5, lw_okq q := List.forall_mem_cons.mpr ⟨lw_p64, fun _ h => absurd h List.not_mem_nil⟩
def lw_privs : List (MethodName × Nat) := lw_privs_1 ++ (lw_privs_2 ++ (lw_privs_3 ++ (lw_privs_4 ++ (lw_privs_5))))
def lw_tbl : List Cond := k2_sels lw_privs ++ tables_1
theorem lw_privs_ok : ∀ q ∈ lw_privs, lw_okq q := by
  show ∀ q ∈ lw_privs_1 ++ (lw_privs_2 ++ (lw_privs_3 ++ (lw_privs_4 ++ (lw_privs_5)))), lw_okq q
  exact List.forall_mem_append.mpr ⟨lw_r1, List.forall_mem_append.mpr ⟨lw_r2, List.forall_mem_append.mpr ⟨lw_r3, List.forall_mem_append.mpr ⟨lw_r4, lw_r5⟩⟩⟩⟩
end
section
def RX0 : String := "AnyOrder$Closure"
def TX0 : u_T := fun k => match k with
  | 0 => ("AnyOrder$Closure", "tables", "LAnyOrder$Tables;", true)
  | 1 => ("AnyOrder$Closure", "left", "[J", true)
  | 2 => ("AnyOrder$Closure", "right", "[J", true)
  | 3 => ("AnyOrder$Closure", "candidate", "[J", true)
  | 4 => ("AnyOrder$Closure", "entries", "[J", false)
  | 5 => ("AnyOrder$Closure", "wordLengths", "[I", false)
  | 6 => ("AnyOrder$Closure", "slots", "[I", false)
  | 7 => ("AnyOrder$Closure", "state", "I", false)
  | 8 => ("AnyOrder$Closure", "cellCount", "I", false)
  | 9 => ("AnyOrder$Closure", "count", "I", false)
  | 10 => ("AnyOrder$Closure", "unit", "I", false)
  | 11 => ("AnyOrder$Closure", "ownSquares", "I", false)
  | _ => ("AnyOrder$Closure", "hasNought", "Z", false)
def tyX0 : Nat → FieldType := fun k => match k with
  | 0 => .object "AnyOrder$Tables"
  | 1 => .array .long
  | 2 => .array .long
  | 3 => .array .long
  | 4 => .array .long
  | 5 => .array .int
  | 6 => .array .int
  | 7 => .int
  | 8 => .int
  | 9 => .int
  | 10 => .int
  | 11 => .int
  | _ => .boolean
abbrev wsX00 : List Cond := u_ws RX0 TX0 13
theorem nmX0 : ∀ a, a < 13 → ∀ b, b < 13 → a ≠ b → (TX0 a).2.1 ≠ (TX0 b).2.1 := by decide +kernel
theorem tyX0_ok : ∀ k, k < 13 → parseFieldDescriptor (TX0 k).2.2.1 = some (tyX0 k) := by decide +kernel
abbrev cX0_init : ByteArray := prog_2_method_1_code
def yX0_init : MethodName := ⟨RX0, "<init>", "(LAnyOrder$Tables;)V"⟩
abbrev cX0_forget : ByteArray := prog_2_method_2_code
def yX0_forget : MethodName := ⟨RX0, "forget", "()V"⟩
abbrev cX0_isFound : ByteArray := prog_2_method_3_code
def yX0_isFound : MethodName := ⟨RX0, "isFound", "()Z"⟩
abbrev cX0_has : ByteArray := prog_2_method_4_code
def yX0_has : MethodName := ⟨RX0, "has", "(I)Z"⟩
abbrev cX0_search : ByteArray := prog_2_method_5_code
def yX0_search : MethodName := ⟨RX0, "search", "()I"⟩
abbrev cX0_entryAt : ByteArray := prog_2_method_6_code
def yX0_entryAt : MethodName := ⟨RX0, "entryAt", "(II)J"⟩
abbrev cX0_lastWordLength : ByteArray := prog_2_method_7_code
def yX0_lastWordLength : MethodName := ⟨RX0, "lastWordLength", "()I"⟩
abbrev cX0_numberOfProduct : ByteArray := prog_2_method_8_code
def yX0_numberOfProduct : MethodName := ⟨RX0, "numberOfProduct", "(II)I"⟩
abbrev cX0_findAll : ByteArray := prog_2_method_9_code
def yX0_findAll : MethodName := ⟨RX0, "findAll", "()Z"⟩
abbrev cX0_prepareRows : ByteArray := prog_2_method_10_code
def yX0_prepareRows : MethodName := ⟨RX0, "prepareRows", "()V"⟩
abbrev cX0_extendByLetters : ByteArray := prog_2_method_11_code
def yX0_extendByLetters : MethodName := ⟨RX0, "extendByLetters", "(I)Z"⟩
abbrev cX0_take : ByteArray := prog_2_method_12_code
def yX0_take : MethodName := ⟨RX0, "take", "([JI)Z"⟩
abbrev cX0_isBeyond : ByteArray := prog_2_method_13_code
def yX0_isBeyond : MethodName := ⟨RX0, "isBeyond", "([J)Z"⟩
abbrev cX0_slotOf : ByteArray := prog_2_method_14_code
def yX0_slotOf : MethodName := ⟨RX0, "slotOf", "([J)I"⟩
abbrev cX0_firstSlotOf : ByteArray := prog_2_method_15_code
def yX0_firstSlotOf : MethodName := ⟨RX0, "firstSlotOf", "([J)I"⟩
abbrev cX0_isSame : ByteArray := prog_2_method_16_code
def yX0_isSame : MethodName := ⟨RX0, "isSame", "(I[J)Z"⟩
abbrev cX0_load : ByteArray := prog_2_method_17_code
def yX0_load : MethodName := ⟨RX0, "load", "(I[J)V"⟩
abbrev cX0_multiplyNumbered : ByteArray := prog_2_method_18_code
def yX0_multiplyNumbered : MethodName := ⟨RX0, "multiplyNumbered", "(II)V"⟩
abbrev cX0_sumUp : ByteArray := prog_2_method_19_code
def yX0_sumUp : MethodName := ⟨RX0, "sumUp", "()V"⟩
def RX1 : String := "AnyOrder$EvenTable"
def TX1 : u_T := fun k => match k with
  | 0 => ("AnyOrder$Table", "number", "I", true)
  | 1 => ("AnyOrder$Table", "d", "I", true)
  | _ => ("AnyOrder$Table", "entries", "[I", true)
def tyX1 : Nat → FieldType := fun k => match k with
  | 0 => .int
  | 1 => .int
  | _ => .array .int
abbrev wsX10 : List Cond := u_ws RX1 TX1 3
theorem nmX1 : ∀ a, a < 3 → ∀ b, b < 3 → a ≠ b → (TX1 a).2.1 ≠ (TX1 b).2.1 := by decide +kernel
theorem tyX1_ok : ∀ k, k < 3 → parseFieldDescriptor (TX1 k).2.2.1 = some (tyX1 k) := by decide +kernel
abbrev cX1_init : ByteArray := prog_3_method_1_code
def yX1_init : MethodName := ⟨RX1, "<init>", "(II[I)V"⟩
abbrev cX1_telling : ByteArray := prog_3_method_2_code
def yX1_telling : MethodName := ⟨RX1, "telling", "(LAnyOrder$Trail;)I"⟩
abbrev cX1_greatestEntry : ByteArray := prog_3_method_3_code
def yX1_greatestEntry : MethodName := ⟨RX1, "greatestEntry", "()I"⟩
abbrev cX1_isOfKind : ByteArray := prog_3_method_4_code
def yX1_isOfKind : MethodName := ⟨RX1, "isOfKind", "(I)Z"⟩
def RX2 : String := "AnyOrder$Lengths"
def TX2 : u_T := fun k => match k with
  | 0 => ("AnyOrder$Lengths", "tables", "LAnyOrder$Tables;", true)
  | 1 => ("AnyOrder$Lengths", "surveys", "[LAnyOrder$Survey;", true)
  | 2 => ("AnyOrder$Lengths", "ways", "[[I", true)
  | 3 => ("AnyOrder$Lengths", "prefixes", "[[J", true)
  | 4 => ("AnyOrder$Lengths", "letters", "[I", true)
  | _ => ("AnyOrder$Lengths", "hasWays", "Z", false)
def tyX2 : Nat → FieldType := fun k => match k with
  | 0 => .object "AnyOrder$Tables"
  | 1 => .array (.object "AnyOrder$Survey")
  | 2 => .array (.array .int)
  | 3 => .array (.array .long)
  | 4 => .array .int
  | _ => .boolean
abbrev wsX20 : List Cond := u_ws RX2 TX2 6
theorem nmX2 : ∀ a, a < 6 → ∀ b, b < 6 → a ≠ b → (TX2 a).2.1 ≠ (TX2 b).2.1 := by decide +kernel
theorem tyX2_ok : ∀ k, k < 6 → parseFieldDescriptor (TX2 k).2.2.1 = some (tyX2 k) := by decide +kernel
abbrev cX2_init : ByteArray := prog_4_method_1_code
def yX2_init : MethodName := ⟨RX2, "<init>", "(LAnyOrder$Tables;)V"⟩
abbrev cX2_forget : ByteArray := prog_4_method_2_code
def yX2_forget : MethodName := ⟨RX2, "forget", "()V"⟩
abbrev cX2_isSpent : ByteArray := prog_4_method_3_code
def yX2_isSpent : MethodName := ⟨RX2, "isSpent", "(I)Z"⟩
abbrev cX2_countOf : ByteArray := prog_4_method_4_code
def yX2_countOf : MethodName := ⟨RX2, "countOf", "(I)I"⟩
abbrev cX2_findWays : ByteArray := prog_4_method_5_code
def yX2_findWays : MethodName := ⟨RX2, "findWays", "()V"⟩
abbrev cX2_countWays : ByteArray := prog_4_method_6_code
def yX2_countWays : MethodName := ⟨RX2, "countWays", "(II)I"⟩
abbrev cX2_surveyOf : ByteArray := prog_4_method_7_code
def yX2_surveyOf : MethodName := ⟨RX2, "surveyOf", "(I)LAnyOrder$Survey;"⟩
abbrev cX2_walk : ByteArray := prog_4_method_8_code
def yX2_walk : MethodName := ⟨RX2, "walk", "(LAnyOrder$Lengths;LAnyOrder$Survey;II)V"⟩
abbrev cX2_leadsOn : ByteArray := prog_4_method_9_code
def yX2_leadsOn : MethodName := ⟨RX2, "leadsOn", "(III)Z"⟩
abbrev cX2_extendPrefix : ByteArray := prog_4_method_10_code
def yX2_extendPrefix : MethodName := ⟨RX2, "extendPrefix", "(II)V"⟩
abbrev cX2_noteWord : ByteArray := prog_4_method_11_code
def yX2_noteWord : MethodName := ⟨RX2, "noteWord", "(LAnyOrder$Survey;I)V"⟩
abbrev cX2_compareGrowth : ByteArray := prog_4_method_12_code
def yX2_compareGrowth : MethodName := ⟨RX2, "compareGrowth", "(III)I"⟩
def RX3 : String := "AnyOrder$Sheet"
def TX3 : u_T := fun k => match k with
  | 0 => ("AnyOrder$Sheet", "cells", "[I", true)
  | 1 => ("AnyOrder$Sheet", "cellCount", "I", false)
  | 2 => ("AnyOrder$Sheet", "lane", "I", false)
  | _ => ("AnyOrder$Sheet", "hasRow", "Z", false)
def tyX3 : Nat → FieldType := fun k => match k with
  | 0 => .array .int
  | 1 => .int
  | 2 => .int
  | _ => .boolean
abbrev wsX30 : List Cond := u_ws RX3 TX3 4
theorem nmX3 : ∀ a, a < 4 → ∀ b, b < 4 → a ≠ b → (TX3 a).2.1 ≠ (TX3 b).2.1 := by decide +kernel
theorem tyX3_ok : ∀ k, k < 4 → parseFieldDescriptor (TX3 k).2.2.1 = some (tyX3 k) := by decide +kernel
abbrev cX3_init : ByteArray := prog_5_method_1_code
def yX3_init : MethodName := ⟨RX3, "<init>", "()V"⟩
abbrev cX3_renew : ByteArray := prog_5_method_2_code
def yX3_renew : MethodName := ⟨RX3, "renew", "(II)V"⟩
abbrev cX3_drop : ByteArray := prog_5_method_3_code
def yX3_drop : MethodName := ⟨RX3, "drop", "()Z"⟩
abbrev cX3_hasCells : ByteArray := prog_5_method_4_code
def yX3_hasCells : MethodName := ⟨RX3, "hasCells", "(II)Z"⟩
abbrev cX3_write : ByteArray := prog_5_method_5_code
def yX3_write : MethodName := ⟨RX3, "write", "(II)V"⟩
def RX4 : String := "AnyOrder$ShuffleTable"
def TX4 : u_T := fun k => match k with
  | 0 => ("AnyOrder$Table", "number", "I", true)
  | 1 => ("AnyOrder$Table", "d", "I", true)
  | _ => ("AnyOrder$Table", "entries", "[I", true)
def tyX4 : Nat → FieldType := fun k => match k with
  | 0 => .int
  | 1 => .int
  | _ => .array .int
abbrev wsX40 : List Cond := u_ws RX4 TX4 3
theorem nmX4 : ∀ a, a < 3 → ∀ b, b < 3 → a ≠ b → (TX4 a).2.1 ≠ (TX4 b).2.1 := by decide +kernel
theorem tyX4_ok : ∀ k, k < 3 → parseFieldDescriptor (TX4 k).2.2.1 = some (tyX4 k) := by decide +kernel
abbrev cX4_init : ByteArray := prog_6_method_1_code
def yX4_init : MethodName := ⟨RX4, "<init>", "(II[I)V"⟩
abbrev cX4_telling : ByteArray := prog_6_method_2_code
def yX4_telling : MethodName := ⟨RX4, "telling", "(LAnyOrder$Trail;)I"⟩
abbrev cX4_weight : ByteArray := prog_6_method_3_code
def yX4_weight : MethodName := ⟨RX4, "weight", "(LAnyOrder$Trail;)I"⟩
abbrev cX4_isOfKind : ByteArray := prog_6_method_4_code
def yX4_isOfKind : MethodName := ⟨RX4, "isOfKind", "(I)Z"⟩
def RX5 : String := "AnyOrder$Spelling"
def TX5 : u_T := fun k => match k with
  | _ => ("", "", "", false)
def tyX5 : Nat → FieldType := fun k => match k with
  | _ => .int
abbrev wsX50 : List Cond := u_ws RX5 TX5 0
theorem nmX5 : ∀ a, a < 0 → ∀ b, b < 0 → a ≠ b → (TX5 a).2.1 ≠ (TX5 b).2.1 := by decide +kernel
theorem tyX5_ok : ∀ k, k < 0 → parseFieldDescriptor (TX5 k).2.2.1 = some (tyX5 k) := by decide +kernel
abbrev cX5_repeats : ByteArray := prog_7_method_2_code
def yX5_repeats : MethodName := ⟨RX5, "repeats", "([II)I"⟩
abbrev cX5_hasPeriod : ByteArray := prog_7_method_3_code
def yX5_hasPeriod : MethodName := ⟨RX5, "hasPeriod", "([III)Z"⟩
abbrev cX5_isAheadOfItsTurns : ByteArray := prog_7_method_4_code
def yX5_isAheadOfItsTurns : MethodName := ⟨RX5, "isAheadOfItsTurns", "([II)Z"⟩
abbrev cX5_isAheadOfTurn : ByteArray := prog_7_method_5_code
def yX5_isAheadOfTurn : MethodName := ⟨RX5, "isAheadOfTurn", "([III)Z"⟩
def RX6 : String := "AnyOrder$Survey"
def TX6 : u_T := fun k => match k with
  | 0 => ("AnyOrder$Survey", "greatestWord", "[I", true)
  | 1 => ("AnyOrder$Survey", "leastWord", "[I", true)
  | 2 => ("AnyOrder$Survey", "ringWord", "[I", true)
  | 3 => ("AnyOrder$Survey", "isDone", "Z", false)
  | 4 => ("AnyOrder$Survey", "noughts", "I", false)
  | 5 => ("AnyOrder$Survey", "ringCount", "I", false)
  | 6 => ("AnyOrder$Survey", "greatest", "J", false)
  | 7 => ("AnyOrder$Survey", "least", "J", false)
  | 8 => ("AnyOrder$Survey", "greatestRingTrack", "J", false)
  | _ => ("AnyOrder$Survey", "greatestTurnableTrack", "J", false)
def tyX6 : Nat → FieldType := fun k => match k with
  | 0 => .array .int
  | 1 => .array .int
  | 2 => .array .int
  | 3 => .boolean
  | 4 => .int
  | 5 => .int
  | 6 => .long
  | 7 => .long
  | 8 => .long
  | _ => .long
abbrev wsX60 : List Cond := u_ws RX6 TX6 10
theorem nmX6 : ∀ a, a < 10 → ∀ b, b < 10 → a ≠ b → (TX6 a).2.1 ≠ (TX6 b).2.1 := by decide +kernel
theorem tyX6_ok : ∀ k, k < 10 → parseFieldDescriptor (TX6 k).2.2.1 = some (tyX6 k) := by decide +kernel
abbrev cX6_init : ByteArray := prog_8_method_1_code
def yX6_init : MethodName := ⟨RX6, "<init>", "()V"⟩
abbrev cX6_restart : ByteArray := prog_8_method_2_code
def yX6_restart : MethodName := ⟨RX6, "restart", "()V"⟩
abbrev cX6_noteNorm : ByteArray := prog_8_method_3_code
def yX6_noteNorm : MethodName := ⟨RX6, "noteNorm", "([IIJ)V"⟩
abbrev cX6_noteTurnable : ByteArray := prog_8_method_4_code
def yX6_noteTurnable : MethodName := ⟨RX6, "noteTurnable", "(J)V"⟩
abbrev cX6_noteRing : ByteArray := prog_8_method_5_code
def yX6_noteRing : MethodName := ⟨RX6, "noteRing", "([IIJ)V"⟩
def RX7 : String := "AnyOrder$Table"
def TX7 : u_T := fun k => match k with
  | 0 => ("AnyOrder$Table", "number", "I", true)
  | 1 => ("AnyOrder$Table", "d", "I", true)
  | _ => ("AnyOrder$Table", "entries", "[I", true)
def tyX7 : Nat → FieldType := fun k => match k with
  | 0 => .int
  | 1 => .int
  | _ => .array .int
abbrev wsX70 : List Cond := u_ws RX7 TX7 3
theorem nmX7 : ∀ a, a < 3 → ∀ b, b < 3 → a ≠ b → (TX7 a).2.1 ≠ (TX7 b).2.1 := by decide +kernel
theorem tyX7_ok : ∀ k, k < 3 → parseFieldDescriptor (TX7 k).2.2.1 = some (tyX7 k) := by decide +kernel
abbrev cX7_init : ByteArray := prog_9_method_1_code
def yX7_init : MethodName := ⟨RX7, "<init>", "(II[I)V"⟩
abbrev cX7_telling : ByteArray := prog_9_method_2_code
def yX7_telling : MethodName := ⟨RX7, "telling", "(LAnyOrder$Trail;)I"⟩
abbrev cX7_plainTelling : ByteArray := prog_9_method_3_code
def yX7_plainTelling : MethodName := ⟨RX7, "plainTelling", "(LAnyOrder$Trail;)I"⟩
abbrev cX7_weight : ByteArray := prog_9_method_4_code
def yX7_weight : MethodName := ⟨RX7, "weight", "(LAnyOrder$Trail;)I"⟩
abbrev cX7_isOfKind : ByteArray := prog_9_method_5_code
def yX7_isOfKind : MethodName := ⟨RX7, "isOfKind", "(I)Z"⟩
def RX8 : String := "AnyOrder$Tables"
def TX8 : u_T := fun k => match k with
  | 0 => ("AnyOrder$Tables", "all", "[LAnyOrder$Table;", true)
  | 1 => ("AnyOrder$Tables", "rows", "[[J", true)
  | 2 => ("AnyOrder$Tables", "allowed", "[Z", true)
  | 3 => ("AnyOrder$Tables", "scratch", "[J", true)
  | 4 => ("AnyOrder$Tables", "tableCount", "I", false)
  | 5 => ("AnyOrder$Tables", "d", "I", false)
  | _ => ("AnyOrder$Tables", "m", "I", false)
def tyX8 : Nat → FieldType := fun k => match k with
  | 0 => .array (.object "AnyOrder$Table")
  | 1 => .array (.array .long)
  | 2 => .array .boolean
  | 3 => .array .long
  | 4 => .int
  | 5 => .int
  | _ => .int
abbrev wsX80 : List Cond := u_ws RX8 TX8 7
theorem nmX8 : ∀ a, a < 7 → ∀ b, b < 7 → a ≠ b → (TX8 a).2.1 ≠ (TX8 b).2.1 := by decide +kernel
theorem tyX8_ok : ∀ k, k < 7 → parseFieldDescriptor (TX8 k).2.2.1 = some (tyX8 k) := by decide +kernel
abbrev cX8_init : ByteArray := prog_10_method_1_code
def yX8_init : MethodName := ⟨RX8, "<init>", "()V"⟩
abbrev cX8_restart : ByteArray := prog_10_method_2_code
def yX8_restart : MethodName := ⟨RX8, "restart", "(II)V"⟩
abbrev cX8_allowAll : ByteArray := prog_10_method_3_code
def yX8_allowAll : MethodName := ⟨RX8, "allowAll", "()V"⟩
abbrev cX8_count : ByteArray := prog_10_method_4_code
def yX8_count : MethodName := ⟨RX8, "count", "()I"⟩
abbrev cX8_dimension : ByteArray := prog_10_method_5_code
def yX8_dimension : MethodName := ⟨RX8, "dimension", "()I"⟩
abbrev cX8_modulus : ByteArray := prog_10_method_6_code
def yX8_modulus : MethodName := ⟨RX8, "modulus", "()I"⟩
abbrev cX8_cellCount : ByteArray := prog_10_method_7_code
def yX8_cellCount : MethodName := ⟨RX8, "cellCount", "()I"⟩
abbrev cX8_has : ByteArray := prog_10_method_8_code
def yX8_has : MethodName := ⟨RX8, "has", "(I)Z"⟩
abbrev cX8_tableOf : ByteArray := prog_10_method_9_code
def yX8_tableOf : MethodName := ⟨RX8, "tableOf", "(I)LAnyOrder$Table;"⟩
abbrev cX8_rowOf : ByteArray := prog_10_method_10_code
def yX8_rowOf : MethodName := ⟨RX8, "rowOf", "(I)[J"⟩
abbrev cX8_isPlace : ByteArray := prog_10_method_11_code
def yX8_isPlace : MethodName := ⟨RX8, "isPlace", "(II)Z"⟩
abbrev cX8_cellOf : ByteArray := prog_10_method_12_code
def yX8_cellOf : MethodName := ⟨RX8, "cellOf", "(II)I"⟩
abbrev cX8_add : ByteArray := prog_10_method_13_code
def yX8_add : MethodName := ⟨RX8, "add", "([II)I"⟩
abbrev cX8_makeTable : ByteArray := prog_10_method_14_code
def yX8_makeTable : MethodName := ⟨RX8, "makeTable", "(I[I)LAnyOrder$Table;"⟩
abbrev cX8_isEven : ByteArray := prog_10_method_15_code
def yX8_isEven : MethodName := ⟨RX8, "isEven", "([I)Z"⟩
abbrev cX8_isShuffle : ByteArray := prog_10_method_16_code
def yX8_isShuffle : MethodName := ⟨RX8, "isShuffle", "([I)Z"⟩
abbrev cX8_mayFollow : ByteArray := prog_10_method_17_code
def yX8_mayFollow : MethodName := ⟨RX8, "mayFollow", "(II)Z"⟩
abbrev cX8_allow : ByteArray := prog_10_method_18_code
def yX8_allow : MethodName := ⟨RX8, "allow", "(IIZ)V"⟩
abbrev cX8_countAllowedPairs : ByteArray := prog_10_method_19_code
def yX8_countAllowedPairs : MethodName := ⟨RX8, "countAllowedPairs", "()I"⟩
abbrev cX8_isAllowed : ByteArray := prog_10_method_20_code
def yX8_isAllowed : MethodName := ⟨RX8, "isAllowed", "([II)Z"⟩
abbrev cX8_isTurnable : ByteArray := prog_10_method_21_code
def yX8_isTurnable : MethodName := ⟨RX8, "isTurnable", "([II)Z"⟩
abbrev cX8_restOf : ByteArray := prog_10_method_22_code
def yX8_restOf : MethodName := ⟨RX8, "restOf", "(J)J"⟩
abbrev cX8_multiply : ByteArray := prog_10_method_23_code
def yX8_multiply : MethodName := ⟨RX8, "multiply", "([J[J[J)V"⟩
abbrev cX8_multiplyAll : ByteArray := prog_10_method_24_code
def yX8_multiplyAll : MethodName := ⟨RX8, "multiplyAll", "([II[J)V"⟩
abbrev cX8_norm : ByteArray := prog_10_method_25_code
def yX8_norm : MethodName := ⟨RX8, "norm", "([J)J"⟩
abbrev cX8_track : ByteArray := prog_10_method_26_code
def yX8_track : MethodName := ⟨RX8, "track", "([J)J"⟩
abbrev cX8_isUnit : ByteArray := prog_10_method_27_code
def yX8_isUnit : MethodName := ⟨RX8, "isUnit", "([J)Z"⟩
def RX9 : String := "AnyOrder$Trail"
def TX9 : u_T := fun k => match k with
  | _ => ("AnyOrder$Trail", "value", "I", false)
def tyX9 : Nat → FieldType := fun k => match k with
  | _ => .int
abbrev wsX90 : List Cond := u_ws RX9 TX9 1
theorem nmX9 : ∀ a, a < 1 → ∀ b, b < 1 → a ≠ b → (TX9 a).2.1 ≠ (TX9 b).2.1 := by decide +kernel
theorem tyX9_ok : ∀ k, k < 1 → parseFieldDescriptor (TX9 k).2.2.1 = some (tyX9 k) := by decide +kernel
abbrev cX9_init : ByteArray := prog_11_method_1_code
def yX9_init : MethodName := ⟨RX9, "<init>", "()V"⟩
abbrev cX9_leave : ByteArray := prog_11_method_2_code
def yX9_leave : MethodName := ⟨RX9, "leave", "(I)V"⟩
def RX10 : String := "AnyOrder$Word"
def TX10 : u_T := fun k => match k with
  | 0 => ("AnyOrder$Word", "letters", "[I", true)
  | 1 => ("AnyOrder$Word", "row", "[J", true)
  | _ => ("AnyOrder$Word", "letterCount", "I", false)
def tyX10 : Nat → FieldType := fun k => match k with
  | 0 => .array .int
  | 1 => .array .long
  | _ => .int
abbrev wsX100 : List Cond := u_ws RX10 TX10 3
theorem nmX10 : ∀ a, a < 3 → ∀ b, b < 3 → a ≠ b → (TX10 a).2.1 ≠ (TX10 b).2.1 := by decide +kernel
theorem tyX10_ok : ∀ k, k < 3 → parseFieldDescriptor (TX10 k).2.2.1 = some (tyX10 k) := by decide +kernel
abbrev cX10_init : ByteArray := prog_12_method_1_code
def yX10_init : MethodName := ⟨RX10, "<init>", "()V"⟩
abbrev cX10_clear : ByteArray := prog_12_method_2_code
def yX10_clear : MethodName := ⟨RX10, "clear", "()V"⟩
abbrev cX10_append : ByteArray := prog_12_method_3_code
def yX10_append : MethodName := ⟨RX10, "append", "(I)V"⟩
abbrev cX10_appendAll : ByteArray := prog_12_method_4_code
def yX10_appendAll : MethodName := ⟨RX10, "appendAll", "(LAnyOrder$Word;)V"⟩
def RX11 : String := "AnyOrder"
def TX11 : u_T := fun k => match k with
  | 0 => ("AnyOrder", "tables", "LAnyOrder$Tables;", true)
  | 1 => ("AnyOrder", "lengths", "LAnyOrder$Lengths;", true)
  | 2 => ("AnyOrder", "closure", "LAnyOrder$Closure;", true)
  | 3 => ("AnyOrder", "words", "[LAnyOrder$Word;", true)
  | 4 => ("AnyOrder", "sheets", "[LAnyOrder$Sheet;", true)
  | 5 => ("AnyOrder", "trail", "LAnyOrder$Trail;", true)
  | 6 => ("AnyOrder", "wordCount", "I", false)
  | _ => ("AnyOrder", "latestFault", "I", false)
def tyX11 : Nat → FieldType := fun k => match k with
  | 0 => .object "AnyOrder$Tables"
  | 1 => .object "AnyOrder$Lengths"
  | 2 => .object "AnyOrder$Closure"
  | 3 => .array (.object "AnyOrder$Word")
  | 4 => .array (.object "AnyOrder$Sheet")
  | 5 => .object "AnyOrder$Trail"
  | 6 => .int
  | _ => .int
abbrev wsX110 : List Cond := u_ws RX11 TX11 8
theorem nmX11 : ∀ a, a < 8 → ∀ b, b < 8 → a ≠ b → (TX11 a).2.1 ≠ (TX11 b).2.1 := by decide +kernel
theorem tyX11_ok : ∀ k, k < 8 → parseFieldDescriptor (TX11 k).2.2.1 = some (tyX11 k) := by decide +kernel
abbrev cX11_init : ByteArray := prog_1_method_1_code
def yX11_init : MethodName := ⟨RX11, "<init>", "()V"⟩
abbrev cX11_begin : ByteArray := prog_1_method_2_code
def yX11_begin : MethodName := ⟨RX11, "begin", "(II)I"⟩
abbrev cX11_table : ByteArray := prog_1_method_3_code
def yX11_table : MethodName := ⟨RX11, "table", "(III)I"⟩
abbrev cX11_entry : ByteArray := prog_1_method_4_code
def yX11_entry : MethodName := ⟨RX11, "entry", "(III)J"⟩
abbrev cX11_may : ByteArray := prog_1_method_5_code
def yX11_may : MethodName := ⟨RX11, "may", "(IIZ)I"⟩
abbrev cX11_length : ByteArray := prog_1_method_6_code
def yX11_length : MethodName := ⟨RX11, "length", "(II)J"⟩
abbrev cX11_extreme : ByteArray := prog_1_method_7_code
def yX11_extreme : MethodName := ⟨RX11, "extreme", "(III)I"⟩
abbrev cX11_rings : ByteArray := prog_1_method_8_code
def yX11_rings : MethodName := ⟨RX11, "rings", "(I)I"⟩
abbrev cX11_ringTrack : ByteArray := prog_1_method_9_code
def yX11_ringTrack : MethodName := ⟨RX11, "ringTrack", "(I)J"⟩
abbrev cX11_ring : ByteArray := prog_1_method_10_code
def yX11_ring : MethodName := ⟨RX11, "ring", "(II)I"⟩
abbrev cX11_growth : ByteArray := prog_1_method_11_code
def yX11_growth : MethodName := ⟨RX11, "growth", "(III)I"⟩
abbrev cX11_close : ByteArray := prog_1_method_12_code
def yX11_close : MethodName := ⟨RX11, "close", "()I"⟩
abbrev cX11_closed : ByteArray := prog_1_method_13_code
def yX11_closed : MethodName := ⟨RX11, "closed", "(I)I"⟩
abbrev cX11_product : ByteArray := prog_1_method_14_code
def yX11_product : MethodName := ⟨RX11, "product", "(III)J"⟩
abbrev cX11_times : ByteArray := prog_1_method_15_code
def yX11_times : MethodName := ⟨RX11, "times", "(II)I"⟩
abbrev cX11_word : ByteArray := prog_1_method_16_code
def yX11_word : MethodName := ⟨RX11, "word", "(IIII)I"⟩
abbrev cX11_join : ByteArray := prog_1_method_17_code
def yX11_join : MethodName := ⟨RX11, "join", "(II)I"⟩
abbrev cX11_letter : ByteArray := prog_1_method_18_code
def yX11_letter : MethodName := ⟨RX11, "letter", "(II)I"⟩
abbrev cX11_about : ByteArray := prog_1_method_19_code
def yX11_about : MethodName := ⟨RX11, "about", "(II)I"⟩
abbrev cX11_entryOf : ByteArray := prog_1_method_20_code
def yX11_entryOf : MethodName := ⟨RX11, "entryOf", "(III)J"⟩
abbrev cX11_size : ByteArray := prog_1_method_21_code
def yX11_size : MethodName := ⟨RX11, "size", "(II)J"⟩
abbrev cX11_sheet : ByteArray := prog_1_method_22_code
def yX11_sheet : MethodName := ⟨RX11, "sheet", "(III)I"⟩
abbrev cX11_lose : ByteArray := prog_1_method_23_code
def yX11_lose : MethodName := ⟨RX11, "lose", "(I)I"⟩
abbrev cX11_put : ByteArray := prog_1_method_24_code
def yX11_put : MethodName := ⟨RX11, "put", "(III)I"⟩
abbrev cX11_at : ByteArray := prog_1_method_25_code
def yX11_at : MethodName := ⟨RX11, "at", "(III)J"⟩
abbrev cX11_tell : ByteArray := prog_1_method_26_code
def yX11_tell : MethodName := ⟨RX11, "tell", "(I)I"⟩
abbrev cX11_weigh : ByteArray := prog_1_method_27_code
def yX11_weigh : MethodName := ⟨RX11, "weigh", "(I)I"⟩
abbrev cX11_as : ByteArray := prog_1_method_28_code
def yX11_as : MethodName := ⟨RX11, "as", "(II)I"⟩
abbrev cX11_history : ByteArray := prog_1_method_29_code
def yX11_history : MethodName := ⟨RX11, "history", "()I"⟩
abbrev cX11_fault : ByteArray := prog_1_method_30_code
def yX11_fault : MethodName := ⟨RX11, "fault", "()I"⟩
abbrev cX11_told : ByteArray := prog_1_method_31_code
def yX11_told : MethodName := ⟨RX11, "told", "(I)I"⟩
abbrev cX11_isWithin : ByteArray := prog_1_method_32_code
def yX11_isWithin : MethodName := ⟨RX11, "isWithin", "(III)Z"⟩
abbrev cX11_isSheet : ByteArray := prog_1_method_33_code
def yX11_isSheet : MethodName := ⟨RX11, "isSheet", "(I)Z"⟩
abbrev cX11_isLane : ByteArray := prog_1_method_34_code
def yX11_isLane : MethodName := ⟨RX11, "isLane", "(I)Z"⟩
abbrev cX11_faultAnswer : ByteArray := prog_1_method_35_code
def yX11_faultAnswer : MethodName := ⟨RX11, "faultAnswer", "(I)I"⟩
abbrev cX11_settle : ByteArray := prog_1_method_36_code
def yX11_settle : MethodName := ⟨RX11, "settle", "(I)I"⟩
abbrev cX11_lookAtCells : ByteArray := prog_1_method_37_code
def yX11_lookAtCells : MethodName := ⟨RX11, "lookAtCells", "(IIII)I"⟩
abbrev cX11_addTable : ByteArray := prog_1_method_38_code
def yX11_addTable : MethodName := ⟨RX11, "addTable", "(III)I"⟩
abbrev cX11_keepWord : ByteArray := prog_1_method_39_code
def yX11_keepWord : MethodName := ⟨RX11, "keepWord", "(IIII)I"⟩
abbrev cX11_finishWord : ByteArray := prog_1_method_40_code
def yX11_finishWord : MethodName := ⟨RX11, "finishWord", "()I"⟩
abbrev cX11_hasWord : ByteArray := prog_1_method_41_code
def yX11_hasWord : MethodName := ⟨RX11, "hasWord", "(I)Z"⟩
abbrev cX11_isRing : ByteArray := prog_1_method_42_code
def yX11_isRing : MethodName := ⟨RX11, "isRing", "(LAnyOrder$Word;)Z"⟩
abbrev cX11_renewSheet : ByteArray := prog_1_method_43_code
def yX11_renewSheet : MethodName := ⟨RX11, "renewSheet", "(III)I"⟩
abbrev cX11_putCell : ByteArray := prog_1_method_44_code
def yX11_putCell : MethodName := ⟨RX11, "putCell", "(III)I"⟩
abbrev cX11_takeAs : ByteArray := prog_1_method_45_code
def yX11_takeAs : MethodName := ⟨RX11, "takeAs", "(II)I"⟩
def RX12 : String := "AnyOrderModel"
def TX12 : u_T := fun k => match k with
  | 0 => ("AnyOrderModel", "fault", "I", false)
  | 1 => ("AnyOrderModel", "history", "I", false)
  | 2 => ("AnyOrderModel", "wide", "I", false)
  | 3 => ("AnyOrderModel", "modulus", "I", false)
  | 4 => ("AnyOrderModel", "tables", "I", false)
  | 5 => ("AnyOrderModel", "entries", "[I", true)
  | 6 => ("AnyOrderModel", "mayNot", "[Z", true)
  | 7 => ("AnyOrderModel", "lanes", "[I", true)
  | 8 => ("AnyOrderModel", "sheetLong", "[I", true)
  | 9 => ("AnyOrderModel", "cells", "[I", true)
  | 10 => ("AnyOrderModel", "level", "[J", true)
  | 11 => ("AnyOrderModel", "now", "[I", true)
  | 12 => ("AnyOrderModel", "ways", "[J", true)
  | 13 => ("AnyOrderModel", "moreWays", "[J", true)
  | 14 => ("AnyOrderModel", "depth", "I", false)
  | 15 => ("AnyOrderModel", "many", "J", false)
  | 16 => ("AnyOrderModel", "greatest", "J", false)
  | 17 => ("AnyOrderModel", "least", "J", false)
  | 18 => ("AnyOrderModel", "noughts", "J", false)
  | 19 => ("AnyOrderModel", "great", "[I", true)
  | 20 => ("AnyOrderModel", "small", "[I", true)
  | 21 => ("AnyOrderModel", "asked", "[I", true)
  | 22 => ("AnyOrderModel", "ringMany", "I", false)
  | 23 => ("AnyOrderModel", "ringBest", "J", false)
  | 24 => ("AnyOrderModel", "ringWord", "[I", true)
  | 25 => ("AnyOrderModel", "products", "I", false)
  | 26 => ("AnyOrderModel", "product", "[J", true)
  | 27 => ("AnyOrderModel", "lengths", "[I", true)
  | 28 => ("AnyOrderModel", "heads", "[I", true)
  | 29 => ("AnyOrderModel", "chain", "[I", true)
  | 30 => ("AnyOrderModel", "words", "I", false)
  | 31 => ("AnyOrderModel", "letters", "[I", true)
  | _ => ("AnyOrderModel", "wordLong", "[I", true)
def tyX12 : Nat → FieldType := fun k => match k with
  | 0 => .int
  | 1 => .int
  | 2 => .int
  | 3 => .int
  | 4 => .int
  | 5 => .array .int
  | 6 => .array .boolean
  | 7 => .array .int
  | 8 => .array .int
  | 9 => .array .int
  | 10 => .array .long
  | 11 => .array .int
  | 12 => .array .long
  | 13 => .array .long
  | 14 => .int
  | 15 => .long
  | 16 => .long
  | 17 => .long
  | 18 => .long
  | 19 => .array .int
  | 20 => .array .int
  | 21 => .array .int
  | 22 => .int
  | 23 => .long
  | 24 => .array .int
  | 25 => .int
  | 26 => .array .long
  | 27 => .array .int
  | 28 => .array .int
  | 29 => .array .int
  | 30 => .int
  | 31 => .array .int
  | _ => .array .int
abbrev wsX120 : List Cond := u_ws RX12 TX12 33
theorem nmX12 : ∀ a, a < 33 → ∀ b, b < 33 → a ≠ b → (TX12 a).2.1 ≠ (TX12 b).2.1 := by decide +kernel
theorem tyX12_ok : ∀ k, k < 33 → parseFieldDescriptor (TX12 k).2.2.1 = some (tyX12 k) := by decide +kernel
abbrev cX12_init : ByteArray := prog_14_method_1_code
def yX12_init : MethodName := ⟨RX12, "<init>", "()V"⟩
abbrev cX12_fails : ByteArray := prog_14_method_3_code
def yX12_fails : MethodName := ⟨RX12, "fails", "(I)I"⟩
abbrev cX12_lost : ByteArray := prog_14_method_4_code
def yX12_lost : MethodName := ⟨RX12, "lost", "(I)J"⟩
abbrev cX12_within : ByteArray := prog_14_method_5_code
def yX12_within : MethodName := ⟨RX12, "within", "(JJJ)Z"⟩
abbrev cX12_sizeOf : ByteArray := prog_14_method_6_code
def yX12_sizeOf : MethodName := ⟨RX12, "sizeOf", "(J)J"⟩
abbrev cX12_isTable : ByteArray := prog_14_method_7_code
def yX12_isTable : MethodName := ⟨RX12, "isTable", "(I)Z"⟩
abbrev cX12_isPlace : ByteArray := prog_14_method_8_code
def yX12_isPlace : MethodName := ⟨RX12, "isPlace", "(II)Z"⟩
abbrev cX12_begin : ByteArray := prog_14_method_9_code
def yX12_begin : MethodName := ⟨RX12, "begin", "(II)I"⟩
abbrev cX12_against : ByteArray := prog_14_method_10_code
def yX12_against : MethodName := ⟨RX12, "against", "(II)I"⟩
abbrev cX12_table : ByteArray := prog_14_method_11_code
def yX12_table : MethodName := ⟨RX12, "table", "(III)I"⟩
abbrev cX12_entry : ByteArray := prog_14_method_12_code
def yX12_entry : MethodName := ⟨RX12, "entry", "(III)J"⟩
abbrev cX12_may : ByteArray := prog_14_method_13_code
def yX12_may : MethodName := ⟨RX12, "may", "(IIZ)I"⟩
abbrev cX12_mayFollow : ByteArray := prog_14_method_14_code
def yX12_mayFollow : MethodName := ⟨RX12, "mayFollow", "(II)Z"⟩
abbrev cX12_rest : ByteArray := prog_14_method_15_code
def yX12_rest : MethodName := ⟨RX12, "rest", "(J)J"⟩
abbrev cX12_beginLevels : ByteArray := prog_14_method_16_code
def yX12_beginLevels : MethodName := ⟨RX12, "beginLevels", "()V"⟩
abbrev cX12_goOn : ByteArray := prog_14_method_17_code
def yX12_goOn : MethodName := ⟨RX12, "goOn", "(II)V"⟩
abbrev cX12_normAt : ByteArray := prog_14_method_18_code
def yX12_normAt : MethodName := ⟨RX12, "normAt", "(I)J"⟩
abbrev cX12_trackAt : ByteArray := prog_14_method_19_code
def yX12_trackAt : MethodName := ⟨RX12, "trackAt", "(I)J"⟩
abbrev cX12_isSpent : ByteArray := prog_14_method_20_code
def yX12_isSpent : MethodName := ⟨RX12, "isSpent", "(I)Z"⟩
abbrev cX12_beginWords : ByteArray := prog_14_method_21_code
def yX12_beginWords : MethodName := ⟨RX12, "beginWords", "()V"⟩
abbrev cX12_next : ByteArray := prog_14_method_22_code
def yX12_next : MethodName := ⟨RX12, "next", "(I)Z"⟩
abbrev cX12_goThrough : ByteArray := prog_14_method_23_code
def yX12_goThrough : MethodName := ⟨RX12, "goThrough", "(I)V"⟩
abbrev cX12_length : ByteArray := prog_14_method_24_code
def yX12_length : MethodName := ⟨RX12, "length", "(II)J"⟩
abbrev cX12_extreme : ByteArray := prog_14_method_25_code
def yX12_extreme : MethodName := ⟨RX12, "extreme", "(III)I"⟩
abbrev cX12_timesOf : ByteArray := prog_14_method_26_code
def yX12_timesOf : MethodName := ⟨RX12, "timesOf", "(I)I"⟩
abbrev cX12_isAllowed : ByteArray := prog_14_method_27_code
def yX12_isAllowed : MethodName := ⟨RX12, "isAllowed", "(I)Z"⟩
abbrev cX12_isFirstTurn : ByteArray := prog_14_method_28_code
def yX12_isFirstTurn : MethodName := ⟨RX12, "isFirstTurn", "(I)Z"⟩
abbrev cX12_isRing : ByteArray := prog_14_method_29_code
def yX12_isRing : MethodName := ⟨RX12, "isRing", "(I)Z"⟩
abbrev cX12_findRings : ByteArray := prog_14_method_30_code
def yX12_findRings : MethodName := ⟨RX12, "findRings", "(I)V"⟩
abbrev cX12_rings : ByteArray := prog_14_method_31_code
def yX12_rings : MethodName := ⟨RX12, "rings", "(I)I"⟩
abbrev cX12_ringTrack : ByteArray := prog_14_method_32_code
def yX12_ringTrack : MethodName := ⟨RX12, "ringTrack", "(I)J"⟩
abbrev cX12_ring : ByteArray := prog_14_method_33_code
def yX12_ring : MethodName := ⟨RX12, "ring", "(II)I"⟩
abbrev cX12_power : ByteArray := prog_14_method_34_code
def yX12_power : MethodName := ⟨RX12, "power", "(JI)J"⟩
abbrev cX12_growth : ByteArray := prog_14_method_35_code
def yX12_growth : MethodName := ⟨RX12, "growth", "(III)I"⟩
abbrev cX12_chainOf : ByteArray := prog_14_method_36_code
def yX12_chainOf : MethodName := ⟨RX12, "chainOf", "(I)I"⟩
abbrev cX12_findAt : ByteArray := prog_14_method_37_code
def yX12_findAt : MethodName := ⟨RX12, "findAt", "(I)I"⟩
abbrev cX12_comes : ByteArray := prog_14_method_38_code
def yX12_comes : MethodName := ⟨RX12, "comes", "(II)Z"⟩
abbrev cX12_layProduct : ByteArray := prog_14_method_39_code
def yX12_layProduct : MethodName := ⟨RX12, "layProduct", "(II)V"⟩
abbrev cX12_close : ByteArray := prog_14_method_40_code
def yX12_close : MethodName := ⟨RX12, "close", "()I"⟩
abbrev cX12_multiply : ByteArray := prog_14_method_41_code
def yX12_multiply : MethodName := ⟨RX12, "multiply", "(II)V"⟩
abbrev cX12_isNought : ByteArray := prog_14_method_42_code
def yX12_isNought : MethodName := ⟨RX12, "isNought", "(I)Z"⟩
abbrev cX12_isOne : ByteArray := prog_14_method_43_code
def yX12_isOne : MethodName := ⟨RX12, "isOne", "(I)Z"⟩
abbrev cX12_closed : ByteArray := prog_14_method_44_code
def yX12_closed : MethodName := ⟨RX12, "closed", "(I)I"⟩
abbrev cX12_isProduct : ByteArray := prog_14_method_45_code
def yX12_isProduct : MethodName := ⟨RX12, "isProduct", "(I)Z"⟩
abbrev cX12_product : ByteArray := prog_14_method_46_code
def yX12_product : MethodName := ⟨RX12, "product", "(III)J"⟩
abbrev cX12_times : ByteArray := prog_14_method_47_code
def yX12_times : MethodName := ⟨RX12, "times", "(II)I"⟩
abbrev cX12_isWord : ByteArray := prog_14_method_48_code
def yX12_isWord : MethodName := ⟨RX12, "isWord", "(I)Z"⟩
abbrev cX12_word : ByteArray := prog_14_method_49_code
def yX12_word : MethodName := ⟨RX12, "word", "(IIII)I"⟩
abbrev cX12_join : ByteArray := prog_14_method_50_code
def yX12_join : MethodName := ⟨RX12, "join", "(II)I"⟩
abbrev cX12_letter : ByteArray := prog_14_method_51_code
def yX12_letter : MethodName := ⟨RX12, "letter", "(II)I"⟩
abbrev cX12_about : ByteArray := prog_14_method_52_code
def yX12_about : MethodName := ⟨RX12, "about", "(II)I"⟩
abbrev cX12_multiplyOut : ByteArray := prog_14_method_53_code
def yX12_multiplyOut : MethodName := ⟨RX12, "multiplyOut", "(I)V"⟩
abbrev cX12_entryOf : ByteArray := prog_14_method_54_code
def yX12_entryOf : MethodName := ⟨RX12, "entryOf", "(III)J"⟩
abbrev cX12_size : ByteArray := prog_14_method_55_code
def yX12_size : MethodName := ⟨RX12, "size", "(II)J"⟩
abbrev cX12_sheet : ByteArray := prog_14_method_56_code
def yX12_sheet : MethodName := ⟨RX12, "sheet", "(III)I"⟩
abbrev cX12_lose : ByteArray := prog_14_method_57_code
def yX12_lose : MethodName := ⟨RX12, "lose", "(I)I"⟩
abbrev cX12_put : ByteArray := prog_14_method_58_code
def yX12_put : MethodName := ⟨RX12, "put", "(III)I"⟩
abbrev cX12_at : ByteArray := prog_14_method_59_code
def yX12_at : MethodName := ⟨RX12, "at", "(III)J"⟩
abbrev cX12_begins : ByteArray := prog_14_method_60_code
def yX12_begins : MethodName := ⟨RX12, "begins", "(I)V"⟩
abbrev cX12_greatestOf : ByteArray := prog_14_method_61_code
def yX12_greatestOf : MethodName := ⟨RX12, "greatestOf", "(I)I"⟩
abbrev cX12_trackOf : ByteArray := prog_14_method_62_code
def yX12_trackOf : MethodName := ⟨RX12, "trackOf", "(I)I"⟩
abbrev cX12_kindOf : ByteArray := prog_14_method_63_code
def yX12_kindOf : MethodName := ⟨RX12, "kindOf", "(I)I"⟩
abbrev cX12_tell : ByteArray := prog_14_method_64_code
def yX12_tell : MethodName := ⟨RX12, "tell", "(I)I"⟩
abbrev cX12_weigh : ByteArray := prog_14_method_65_code
def yX12_weigh : MethodName := ⟨RX12, "weigh", "(I)I"⟩
abbrev cX12_as : ByteArray := prog_14_method_66_code
def yX12_as : MethodName := ⟨RX12, "as", "(II)I"⟩
abbrev cX12_history : ByteArray := prog_14_method_67_code
def yX12_history : MethodName := ⟨RX12, "history", "()I"⟩
abbrev cX12_fault : ByteArray := prog_14_method_68_code
def yX12_fault : MethodName := ⟨RX12, "fault", "()I"⟩
abbrev cX12_told : ByteArray := prog_14_method_69_code
def yX12_told : MethodName := ⟨RX12, "told", "(I)I"⟩
def RJ9 : String := "java/lang/Math"
def TJ9 : u_T := fun k => match k with
  | _ => ("", "", "", false)
def tyJ9 : Nat → FieldType := fun k => match k with
  | _ => .int
abbrev cJ9_abs_067f4 : ByteArray := prog_16_method_61_code
def yJ9_abs_067f4 : MethodName := ⟨RJ9, "abs", "(J)J"⟩
abbrev cJ9_max_7cf53 : ByteArray := prog_16_method_65_code
def yJ9_max_7cf53 : MethodName := ⟨RJ9, "max", "(II)I"⟩
abbrev cJ9_max_f86c9 : ByteArray := prog_16_method_66_code
def yJ9_max_f86c9 : MethodName := ⟨RJ9, "max", "(JJ)J"⟩
abbrev cJ9_min_7cf53 : ByteArray := prog_16_method_69_code
def yJ9_min_7cf53 : MethodName := ⟨RJ9, "min", "(II)I"⟩
def RJ10 : String := "java/lang/System"
def TJ10 : u_T := fun k => match k with
  | _ => ("", "", "", false)
def tyJ10 : Nat → FieldType := fun k => match k with
  | _ => .int
def RJ7 : String := "java/util/Arrays"
def TJ7 : u_T := fun k => match k with
  | _ => ("", "", "", false)
def tyJ7 : Nat → FieldType := fun k => match k with
  | _ => .int
abbrev cJ7_fill_53178 : ByteArray := prog_18_method_103_code
def yJ7_fill_53178 : MethodName := ⟨RJ7, "fill", "([II)V"⟩
abbrev cJ7_checkLength_df160 : ByteArray := prog_18_method_131_code
def yJ7_checkLength_df160 : MethodName := ⟨RJ7, "checkLength", "(II)V"⟩
abbrev cJ7_copyOfRange_feecc : ByteArray := prog_18_method_136_code
def yJ7_copyOfRange_feecc : MethodName := ⟨RJ7, "copyOfRange", "([III)[I"⟩
abbrev cJ7_copyOfRangeInt_feecc : ByteArray := prog_18_method_137_code
def yJ7_copyOfRangeInt_feecc : MethodName := ⟨RJ7, "copyOfRangeInt", "([III)[I"⟩
def RL : String := "AnyOrderLaw"
abbrev cL_law : ByteArray := code
def yL_law : MethodName := ⟨RL, "law", "([I)Z"⟩
abbrev vwCl : List vw_C := [(RX0, TX0, 13), (RX1, TX1, 3), (RX2, TX2, 6), (RX3, TX3, 4), (RX4, TX4, 3), (RX6, TX6, 10), (RX7, TX7, 3), (RX8, TX8, 7), (RX9, TX9, 1), (RX10, TX10, 3), (RX11, TX11, 8), (RX12, TX12, 33)]
end
section
def TB : List Cond := lw_tbl.filter goodWord
theorem TB_of {w : Cond} (h : w ∈ lw_tbl) (hg : goodWord w = true) : w ∈ TB := List.mem_filter.mpr ⟨h, hg⟩
theorem TB_t {w : Cond} (i : Nat) (h : tables_1[i]? = some w) (hg : goodWord w = true) : w ∈ TB := TB_of (List.mem_append_right _ (List.mem_of_getElem? h)) hg
theorem TB_lw {w : Cond} (h : w ∈ TB) : w ∈ lw_tbl := (List.mem_filter.mp h).1
theorem TB_good : GoodIn TB TB := fun w h => ⟨h, good_of_word (List.mem_filter.mp h).2⟩
theorem TB_V {own C : String} {idx : Nat} {y : MethodName} {cw : Cond} (h1 : Cond.methodLink own idx y ∈ TB) (h2 : Cond.instanceMethod y ∈ TB) (h3 : Cond.selects C y y ∈ TB) (h4 : Cond.initialized C ∈ TB) (h5 : cw ∈ TB) : GoodIn TB (wsV own idx C y (cw :: TB)) := by
  intro w h
  refine TB_good w ?_
  simp only [wsV, List.mem_append, List.mem_cons, List.not_mem_nil, or_false] at h
  rcases h with (h | h | h | h) | h | h
  · rw [h]; exact h1
  · rw [h]; exact h2
  · rw [h]; exact h3
  · rw [h]; exact h4
  · rw [h]; exact h5
  · exact h
theorem TB_S {own : String} {idx : Nat} {y : MethodName} {cw : Cond} (h1 : Cond.methodLink own idx y ∈ TB) (h2 : Cond.static y ∈ TB) (h4 : Cond.initialized own ∈ TB) (h5 : cw ∈ TB) : GoodIn TB (wsS own idx y (cw :: TB)) := by
  intro w h
  refine TB_good w ?_
  simp only [wsS, List.mem_append, List.mem_cons, List.not_mem_nil, or_false] at h
  rcases h with (h | h | h) | h | h
  · rw [h]; exact h1
  · rw [h]; exact h2
  · rw [h]; exact h4
  · rw [h]; exact h5
  · exact h
theorem TB_W {cw : Cond} (h5 : cw ∈ TB) : GoodIn TB (cw :: TB) := by
  intro w h
  refine TB_good w ?_
  rcases List.mem_cons.mp h with h | h
  · rw [h]; exact h5
  · exact h
theorem tw_0 : (Cond.initialized "AnyOrderLaw" : Cond) ∈ TB := TB_t 0 (by decide +kernel) (by decide +kernel)
theorem tw_1 : (Cond.initialized "AnyOrder" : Cond) ∈ TB := TB_t 1 (by decide +kernel) (by decide +kernel)
theorem tw_2 : (Cond.initialized "AnyOrder$Tables" : Cond) ∈ TB := TB_t 2 (by decide +kernel) (by decide +kernel)
theorem tw_3 : (Cond.initialized "AnyOrder$Lengths" : Cond) ∈ TB := TB_t 3 (by decide +kernel) (by decide +kernel)
theorem tw_4 : (Cond.initialized "AnyOrder$Survey" : Cond) ∈ TB := TB_t 4 (by decide +kernel) (by decide +kernel)
theorem tw_5 : (Cond.initialized "AnyOrder$Closure" : Cond) ∈ TB := TB_t 5 (by decide +kernel) (by decide +kernel)
theorem tw_6 : (Cond.initialized "AnyOrder$Trail" : Cond) ∈ TB := TB_t 6 (by decide +kernel) (by decide +kernel)
theorem tw_7 : (Cond.initialized "AnyOrder$Word" : Cond) ∈ TB := TB_t 7 (by decide +kernel) (by decide +kernel)
theorem tw_8 : (Cond.initialized "AnyOrder$Sheet" : Cond) ∈ TB := TB_t 8 (by decide +kernel) (by decide +kernel)
theorem tw_9 : (Cond.initialized "AnyOrderModel" : Cond) ∈ TB := TB_t 9 (by decide +kernel) (by decide +kernel)
theorem tw_10 : (Cond.initialized "java/util/Arrays" : Cond) ∈ TB := TB_t 10 (by decide +kernel) (by decide +kernel)
theorem tw_11 : (Cond.initialized "java/lang/Math" : Cond) ∈ TB := TB_t 11 (by decide +kernel) (by decide +kernel)
theorem tw_12 : (Cond.initialized "java/lang/System" : Cond) ∈ TB := TB_t 12 (by decide +kernel) (by decide +kernel)
theorem tw_13 : (Cond.initialized "AnyOrder$Table" : Cond) ∈ TB := TB_t 13 (by decide +kernel) (by decide +kernel)
theorem tw_14 : (Cond.initialized "AnyOrder$EvenTable" : Cond) ∈ TB := TB_t 14 (by decide +kernel) (by decide +kernel)
theorem tw_15 : (Cond.initialized "AnyOrder$ShuffleTable" : Cond) ∈ TB := TB_t 15 (by decide +kernel) (by decide +kernel)
theorem tw_16 : (Cond.initialized "AnyOrder$Spelling" : Cond) ∈ TB := TB_t 16 (by decide +kernel) (by decide +kernel)
theorem tw_17 : (Cond.classLink "AnyOrderLaw" (7 : Nat) "AnyOrder" : Cond) ∈ TB := TB_t 17 (by decide +kernel) (by decide +kernel)
theorem tw_18 : (Cond.instantiable "AnyOrder" (8 : Nat) : Cond) ∈ TB := TB_t 18 (by decide +kernel) (by decide +kernel)
theorem tw_19 : (Cond.methodLink "AnyOrderLaw" (9 : Nat) ({ cls := "AnyOrder", name := "<init>", desc := "()V" } : Jvm.MethodName) : Cond) ∈ TB := TB_t 19 (by decide +kernel) (by decide +kernel)
theorem tw_20 : (Cond.instanceMethod ({ cls := "AnyOrder", name := "<init>", desc := "()V" } : Jvm.MethodName) : Cond) ∈ TB := TB_t 20 (by decide +kernel) (by decide +kernel)
theorem tw_21 : (Cond.code ({ cls := "AnyOrder", name := "<init>", desc := "()V" } : Jvm.MethodName) prog_1_method_1_code (2 : Nat) (Option.none : Option Jvm.ClassFile.FieldType) : Cond) ∈ TB := TB_t 21 (by decide +kernel) (by decide +kernel)
theorem tw_22 : (Cond.methodLink "AnyOrder" (5 : Nat) ({ cls := "java/lang/Object", name := "<init>", desc := "()V" } : Jvm.MethodName) : Cond) ∈ TB := TB_t 22 (by decide +kernel) (by decide +kernel)
theorem tw_23 : (Cond.instanceMethod ({ cls := "java/lang/Object", name := "<init>", desc := "()V" } : Jvm.MethodName) : Cond) ∈ TB := TB_t 23 (by decide +kernel) (by decide +kernel)
theorem tw_24 : (Cond.code ({ cls := "java/lang/Object", name := "<init>", desc := "()V" } : Jvm.MethodName) object_method_1_code (1 : Nat) (Option.none : Option Jvm.ClassFile.FieldType) : Cond) ∈ TB := TB_t 24 (by decide +kernel) (by decide +kernel)
theorem tw_25 : (Cond.classLink "AnyOrder" (11 : Nat) "AnyOrder$Tables" : Cond) ∈ TB := TB_t 25 (by decide +kernel) (by decide +kernel)
theorem tw_26 : (Cond.instantiable "AnyOrder$Tables" (7 : Nat) : Cond) ∈ TB := TB_t 26 (by decide +kernel) (by decide +kernel)
theorem tw_27 : (Cond.methodLink "AnyOrder" (13 : Nat) ({ cls := "AnyOrder$Tables", name := "<init>", desc := "()V" } : Jvm.MethodName) : Cond) ∈ TB := TB_t 27 (by decide +kernel) (by decide +kernel)
theorem tw_28 : (Cond.instanceMethod ({ cls := "AnyOrder$Tables", name := "<init>", desc := "()V" } : Jvm.MethodName) : Cond) ∈ TB := TB_t 28 (by decide +kernel) (by decide +kernel)
theorem tw_29 : (Cond.code ({ cls := "AnyOrder$Tables", name := "<init>", desc := "()V" } : Jvm.MethodName) prog_10_method_1_code (1 : Nat) (Option.none : Option Jvm.ClassFile.FieldType) : Cond) ∈ TB := TB_t 29 (by decide +kernel) (by decide +kernel)
theorem tw_30 : (Cond.methodLink "AnyOrder$Tables" (3 : Nat) ({ cls := "java/lang/Object", name := "<init>", desc := "()V" } : Jvm.MethodName) : Cond) ∈ TB := TB_t 30 (by decide +kernel) (by decide +kernel)
theorem tw_31 : (Cond.classLink "AnyOrder$Tables" (9 : Nat) "AnyOrder$Table" : Cond) ∈ TB := TB_t 31 (by decide +kernel) (by decide +kernel)
theorem tw_33 : (Cond.classLink "AnyOrder$Tables" (17 : Nat) "[[J" : Cond) ∈ TB := TB_t 33 (by decide +kernel) (by decide +kernel)
theorem tw_35 : (Cond.methodLink "AnyOrder$Tables" (34 : Nat) ({ cls := "AnyOrder$Tables", name := "allowAll", desc := "()V" } : Jvm.MethodName) : Cond) ∈ TB := TB_t 35 (by decide +kernel) (by decide +kernel)
theorem tw_37 : (Cond.instanceMethod ({ cls := "AnyOrder$Tables", name := "allowAll", desc := "()V" } : Jvm.MethodName) : Cond) ∈ TB := TB_t 37 (by decide +kernel) (by decide +kernel)
theorem tw_38 : (Cond.code ({ cls := "AnyOrder$Tables", name := "allowAll", desc := "()V" } : Jvm.MethodName) prog_10_method_3_code (2 : Nat) (Option.none : Option Jvm.ClassFile.FieldType) : Cond) ∈ TB := TB_t 38 (by decide +kernel) (by decide +kernel)
theorem tw_39 : (Cond.fieldLink "AnyOrder$Tables" (11 : Nat) "AnyOrder$Tables" "all" "[LAnyOrder$Table;" : Cond) ∈ TB := TB_t 39 (by decide +kernel) (by decide +kernel)
theorem tw_40 : (Cond.fieldLink "AnyOrder$Tables" (19 : Nat) "AnyOrder$Tables" "rows" "[[J" : Cond) ∈ TB := TB_t 40 (by decide +kernel) (by decide +kernel)
theorem tw_41 : (Cond.fieldLink "AnyOrder$Tables" (22 : Nat) "AnyOrder$Tables" "allowed" "[Z" : Cond) ∈ TB := TB_t 41 (by decide +kernel) (by decide +kernel)
theorem tw_42 : (Cond.fieldLink "AnyOrder$Tables" (26 : Nat) "AnyOrder$Tables" "scratch" "[J" : Cond) ∈ TB := TB_t 42 (by decide +kernel) (by decide +kernel)
theorem tw_43 : (Cond.fieldLink "AnyOrder$Tables" (40 : Nat) "AnyOrder$Tables" "tableCount" "I" : Cond) ∈ TB := TB_t 43 (by decide +kernel) (by decide +kernel)
theorem tw_44 : (Cond.fieldLink "AnyOrder$Tables" (30 : Nat) "AnyOrder$Tables" "d" "I" : Cond) ∈ TB := TB_t 44 (by decide +kernel) (by decide +kernel)
theorem tw_45 : (Cond.fieldLink "AnyOrder$Tables" (37 : Nat) "AnyOrder$Tables" "m" "I" : Cond) ∈ TB := TB_t 45 (by decide +kernel) (by decide +kernel)
theorem tw_61 : (Cond.arrayClass Jvm.ClassFile.FieldType.long : Cond) ∈ TB := TB_t 61 (by decide +kernel) (by decide +kernel)
theorem tw_62 : (Cond.arrayClass Jvm.ClassFile.FieldType.boolean : Cond) ∈ TB := TB_t 62 (by decide +kernel) (by decide +kernel)
theorem tw_63 : (Cond.classLink "AnyOrder" (18 : Nat) "AnyOrder$Lengths" : Cond) ∈ TB := TB_t 63 (by decide +kernel) (by decide +kernel)
theorem tw_64 : (Cond.instantiable "AnyOrder$Lengths" (6 : Nat) : Cond) ∈ TB := TB_t 64 (by decide +kernel) (by decide +kernel)
theorem tw_65 : (Cond.methodLink "AnyOrder" (20 : Nat) ({ cls := "AnyOrder$Lengths", name := "<init>", desc := "(LAnyOrder$Tables;)V" } : Jvm.MethodName) : Cond) ∈ TB := TB_t 65 (by decide +kernel) (by decide +kernel)
theorem tw_66 : (Cond.instanceMethod ({ cls := "AnyOrder$Lengths", name := "<init>", desc := "(LAnyOrder$Tables;)V" } : Jvm.MethodName) : Cond) ∈ TB := TB_t 66 (by decide +kernel) (by decide +kernel)
theorem tw_67 : (Cond.code ({ cls := "AnyOrder$Lengths", name := "<init>", desc := "(LAnyOrder$Tables;)V" } : Jvm.MethodName) prog_4_method_1_code (3 : Nat) (Option.none : Option Jvm.ClassFile.FieldType) : Cond) ∈ TB := TB_t 67 (by decide +kernel) (by decide +kernel)
theorem tw_68 : (Cond.methodLink "AnyOrder$Lengths" (3 : Nat) ({ cls := "java/lang/Object", name := "<init>", desc := "()V" } : Jvm.MethodName) : Cond) ∈ TB := TB_t 68 (by decide +kernel) (by decide +kernel)
theorem tw_69 : (Cond.classLink "AnyOrder$Lengths" (9 : Nat) "AnyOrder$Survey" : Cond) ∈ TB := TB_t 69 (by decide +kernel) (by decide +kernel)
theorem tw_71 : (Cond.classLink "AnyOrder$Lengths" (17 : Nat) "[[I" : Cond) ∈ TB := TB_t 71 (by decide +kernel) (by decide +kernel)
theorem tw_73 : (Cond.classLink "AnyOrder$Lengths" (22 : Nat) "[[J" : Cond) ∈ TB := TB_t 73 (by decide +kernel) (by decide +kernel)
theorem tw_74 : (Cond.instantiable "AnyOrder$Survey" (10 : Nat) : Cond) ∈ TB := TB_t 74 (by decide +kernel) (by decide +kernel)
theorem tw_76 : (Cond.instanceMethod ({ cls := "AnyOrder$Survey", name := "<init>", desc := "()V" } : Jvm.MethodName) : Cond) ∈ TB := TB_t 76 (by decide +kernel) (by decide +kernel)
theorem tw_77 : (Cond.code ({ cls := "AnyOrder$Survey", name := "<init>", desc := "()V" } : Jvm.MethodName) prog_8_method_1_code (1 : Nat) (Option.none : Option Jvm.ClassFile.FieldType) : Cond) ∈ TB := TB_t 77 (by decide +kernel) (by decide +kernel)
theorem tw_78 : (Cond.methodLink "AnyOrder$Survey" (3 : Nat) ({ cls := "java/lang/Object", name := "<init>", desc := "()V" } : Jvm.MethodName) : Cond) ∈ TB := TB_t 78 (by decide +kernel) (by decide +kernel)
theorem tw_79 : (Cond.fieldLink "AnyOrder$Survey" (9 : Nat) "AnyOrder$Survey" "greatestWord" "[I" : Cond) ∈ TB := TB_t 79 (by decide +kernel) (by decide +kernel)
theorem tw_80 : (Cond.fieldLink "AnyOrder" (132 : Nat) "AnyOrder$Survey" "greatestWord" "[I" : Cond) ∈ TB := TB_t 80 (by decide +kernel) (by decide +kernel)
theorem tw_81 : (Cond.fieldLink "AnyOrder$Survey" (15 : Nat) "AnyOrder$Survey" "leastWord" "[I" : Cond) ∈ TB := TB_t 81 (by decide +kernel) (by decide +kernel)
theorem tw_82 : (Cond.fieldLink "AnyOrder" (135 : Nat) "AnyOrder$Survey" "leastWord" "[I" : Cond) ∈ TB := TB_t 82 (by decide +kernel) (by decide +kernel)
theorem tw_83 : (Cond.fieldLink "AnyOrder$Survey" (18 : Nat) "AnyOrder$Survey" "ringWord" "[I" : Cond) ∈ TB := TB_t 83 (by decide +kernel) (by decide +kernel)
theorem tw_84 : (Cond.fieldLink "AnyOrder" (144 : Nat) "AnyOrder$Survey" "ringWord" "[I" : Cond) ∈ TB := TB_t 84 (by decide +kernel) (by decide +kernel)
theorem tw_85 : (Cond.fieldLink "AnyOrder$Survey" (21 : Nat) "AnyOrder$Survey" "isDone" "Z" : Cond) ∈ TB := TB_t 85 (by decide +kernel) (by decide +kernel)
theorem tw_86 : (Cond.fieldLink "AnyOrder$Lengths" (40 : Nat) "AnyOrder$Survey" "isDone" "Z" : Cond) ∈ TB := TB_t 86 (by decide +kernel) (by decide +kernel)
theorem tw_87 : (Cond.fieldLink "AnyOrder$Survey" (25 : Nat) "AnyOrder$Survey" "noughts" "I" : Cond) ∈ TB := TB_t 87 (by decide +kernel) (by decide +kernel)
theorem tw_88 : (Cond.fieldLink "AnyOrder" (129 : Nat) "AnyOrder$Survey" "noughts" "I" : Cond) ∈ TB := TB_t 88 (by decide +kernel) (by decide +kernel)
theorem tw_89 : (Cond.fieldLink "AnyOrder$Survey" (29 : Nat) "AnyOrder$Survey" "ringCount" "I" : Cond) ∈ TB := TB_t 89 (by decide +kernel) (by decide +kernel)
theorem tw_90 : (Cond.fieldLink "AnyOrder" (138 : Nat) "AnyOrder$Survey" "ringCount" "I" : Cond) ∈ TB := TB_t 90 (by decide +kernel) (by decide +kernel)
theorem tw_91 : (Cond.fieldLink "AnyOrder$Survey" (34 : Nat) "AnyOrder$Survey" "greatest" "J" : Cond) ∈ TB := TB_t 91 (by decide +kernel) (by decide +kernel)
theorem tw_92 : (Cond.fieldLink "AnyOrder" (120 : Nat) "AnyOrder$Survey" "greatest" "J" : Cond) ∈ TB := TB_t 92 (by decide +kernel) (by decide +kernel)
theorem tw_93 : (Cond.fieldLink "AnyOrder$Lengths" (141 : Nat) "AnyOrder$Survey" "greatest" "J" : Cond) ∈ TB := TB_t 93 (by decide +kernel) (by decide +kernel)
theorem tw_94 : (Cond.fieldLink "AnyOrder$Survey" (42 : Nat) "AnyOrder$Survey" "least" "J" : Cond) ∈ TB := TB_t 94 (by decide +kernel) (by decide +kernel)
theorem tw_95 : (Cond.fieldLink "AnyOrder" (126 : Nat) "AnyOrder$Survey" "least" "J" : Cond) ∈ TB := TB_t 95 (by decide +kernel) (by decide +kernel)
theorem tw_96 : (Cond.fieldLink "AnyOrder$Survey" (45 : Nat) "AnyOrder$Survey" "greatestRingTrack" "J" : Cond) ∈ TB := TB_t 96 (by decide +kernel) (by decide +kernel)
theorem tw_97 : (Cond.fieldLink "AnyOrder" (141 : Nat) "AnyOrder$Survey" "greatestRingTrack" "J" : Cond) ∈ TB := TB_t 97 (by decide +kernel) (by decide +kernel)
theorem tw_98 : (Cond.fieldLink "AnyOrder$Survey" (48 : Nat) "AnyOrder$Survey" "greatestTurnableTrack" "J" : Cond) ∈ TB := TB_t 98 (by decide +kernel) (by decide +kernel)
theorem tw_99 : (Cond.fieldLink "AnyOrder$Lengths" (134 : Nat) "AnyOrder$Survey" "greatestTurnableTrack" "J" : Cond) ∈ TB := TB_t 99 (by decide +kernel) (by decide +kernel)
theorem tw_121 : (Cond.arrayClass Jvm.ClassFile.FieldType.int : Cond) ∈ TB := TB_t 121 (by decide +kernel) (by decide +kernel)
theorem tw_122 : (Cond.fieldLink "AnyOrder$Lengths" (31 : Nat) "AnyOrder$Lengths" "tables" "LAnyOrder$Tables;" : Cond) ∈ TB := TB_t 122 (by decide +kernel) (by decide +kernel)
theorem tw_123 : (Cond.fieldLink "AnyOrder$Lengths" (11 : Nat) "AnyOrder$Lengths" "surveys" "[LAnyOrder$Survey;" : Cond) ∈ TB := TB_t 123 (by decide +kernel) (by decide +kernel)
theorem tw_124 : (Cond.fieldLink "AnyOrder$Lengths" (19 : Nat) "AnyOrder$Lengths" "ways" "[[I" : Cond) ∈ TB := TB_t 124 (by decide +kernel) (by decide +kernel)
theorem tw_125 : (Cond.fieldLink "AnyOrder$Lengths" (24 : Nat) "AnyOrder$Lengths" "prefixes" "[[J" : Cond) ∈ TB := TB_t 125 (by decide +kernel) (by decide +kernel)
theorem tw_126 : (Cond.fieldLink "AnyOrder$Lengths" (27 : Nat) "AnyOrder$Lengths" "letters" "[I" : Cond) ∈ TB := TB_t 126 (by decide +kernel) (by decide +kernel)
theorem tw_127 : (Cond.fieldLink "AnyOrder$Lengths" (36 : Nat) "AnyOrder$Lengths" "hasWays" "Z" : Cond) ∈ TB := TB_t 127 (by decide +kernel) (by decide +kernel)
theorem tw_141 : (Cond.classLink "AnyOrder" (27 : Nat) "AnyOrder$Closure" : Cond) ∈ TB := TB_t 141 (by decide +kernel) (by decide +kernel)
theorem tw_142 : (Cond.instantiable "AnyOrder$Closure" (13 : Nat) : Cond) ∈ TB := TB_t 142 (by decide +kernel) (by decide +kernel)
theorem tw_143 : (Cond.methodLink "AnyOrder" (29 : Nat) ({ cls := "AnyOrder$Closure", name := "<init>", desc := "(LAnyOrder$Tables;)V" } : Jvm.MethodName) : Cond) ∈ TB := TB_t 143 (by decide +kernel) (by decide +kernel)
theorem tw_144 : (Cond.instanceMethod ({ cls := "AnyOrder$Closure", name := "<init>", desc := "(LAnyOrder$Tables;)V" } : Jvm.MethodName) : Cond) ∈ TB := TB_t 144 (by decide +kernel) (by decide +kernel)
theorem tw_145 : (Cond.code ({ cls := "AnyOrder$Closure", name := "<init>", desc := "(LAnyOrder$Tables;)V" } : Jvm.MethodName) prog_2_method_1_code (2 : Nat) (Option.none : Option Jvm.ClassFile.FieldType) : Cond) ∈ TB := TB_t 145 (by decide +kernel) (by decide +kernel)
theorem tw_146 : (Cond.methodLink "AnyOrder$Closure" (3 : Nat) ({ cls := "java/lang/Object", name := "<init>", desc := "()V" } : Jvm.MethodName) : Cond) ∈ TB := TB_t 146 (by decide +kernel) (by decide +kernel)
theorem tw_147 : (Cond.fieldLink "AnyOrder$Closure" (25 : Nat) "AnyOrder$Closure" "tables" "LAnyOrder$Tables;" : Cond) ∈ TB := TB_t 147 (by decide +kernel) (by decide +kernel)
theorem tw_148 : (Cond.fieldLink "AnyOrder$Closure" (9 : Nat) "AnyOrder$Closure" "left" "[J" : Cond) ∈ TB := TB_t 148 (by decide +kernel) (by decide +kernel)
theorem tw_149 : (Cond.fieldLink "AnyOrder$Closure" (15 : Nat) "AnyOrder$Closure" "right" "[J" : Cond) ∈ TB := TB_t 149 (by decide +kernel) (by decide +kernel)
theorem tw_150 : (Cond.fieldLink "AnyOrder$Closure" (18 : Nat) "AnyOrder$Closure" "candidate" "[J" : Cond) ∈ TB := TB_t 150 (by decide +kernel) (by decide +kernel)
theorem tw_151 : (Cond.fieldLink "AnyOrder$Closure" (39 : Nat) "AnyOrder$Closure" "entries" "[J" : Cond) ∈ TB := TB_t 151 (by decide +kernel) (by decide +kernel)
theorem tw_152 : (Cond.fieldLink "AnyOrder$Closure" (42 : Nat) "AnyOrder$Closure" "wordLengths" "[I" : Cond) ∈ TB := TB_t 152 (by decide +kernel) (by decide +kernel)
theorem tw_153 : (Cond.fieldLink "AnyOrder$Closure" (54 : Nat) "AnyOrder$Closure" "slots" "[I" : Cond) ∈ TB := TB_t 153 (by decide +kernel) (by decide +kernel)
theorem tw_154 : (Cond.fieldLink "AnyOrder$Closure" (21 : Nat) "AnyOrder$Closure" "state" "I" : Cond) ∈ TB := TB_t 154 (by decide +kernel) (by decide +kernel)
theorem tw_155 : (Cond.fieldLink "AnyOrder$Closure" (89 : Nat) "AnyOrder$Closure" "cellCount" "I" : Cond) ∈ TB := TB_t 155 (by decide +kernel) (by decide +kernel)
theorem tw_156 : (Cond.fieldLink "AnyOrder$Closure" (33 : Nat) "AnyOrder$Closure" "count" "I" : Cond) ∈ TB := TB_t 156 (by decide +kernel) (by decide +kernel)
theorem tw_157 : (Cond.fieldLink "AnyOrder" (164 : Nat) "AnyOrder$Closure" "count" "I" : Cond) ∈ TB := TB_t 157 (by decide +kernel) (by decide +kernel)
theorem tw_158 : (Cond.fieldLink "AnyOrder" (170 : Nat) "AnyOrder$Closure" "unit" "I" : Cond) ∈ TB := TB_t 158 (by decide +kernel) (by decide +kernel)
theorem tw_159 : (Cond.fieldLink "AnyOrder$Closure" (129 : Nat) "AnyOrder$Closure" "unit" "I" : Cond) ∈ TB := TB_t 159 (by decide +kernel) (by decide +kernel)
theorem tw_160 : (Cond.fieldLink "AnyOrder" (173 : Nat) "AnyOrder$Closure" "ownSquares" "I" : Cond) ∈ TB := TB_t 160 (by decide +kernel) (by decide +kernel)
theorem tw_161 : (Cond.fieldLink "AnyOrder$Closure" (132 : Nat) "AnyOrder$Closure" "ownSquares" "I" : Cond) ∈ TB := TB_t 161 (by decide +kernel) (by decide +kernel)
theorem tw_162 : (Cond.fieldLink "AnyOrder" (166 : Nat) "AnyOrder$Closure" "hasNought" "Z" : Cond) ∈ TB := TB_t 162 (by decide +kernel) (by decide +kernel)
theorem tw_163 : (Cond.fieldLink "AnyOrder$Closure" (125 : Nat) "AnyOrder$Closure" "hasNought" "Z" : Cond) ∈ TB := TB_t 163 (by decide +kernel) (by decide +kernel)
theorem tw_191 : (Cond.classLink "AnyOrder" (34 : Nat) "AnyOrder$Word" : Cond) ∈ TB := TB_t 191 (by decide +kernel) (by decide +kernel)
theorem tw_193 : (Cond.classLink "AnyOrder" (40 : Nat) "AnyOrder$Sheet" : Cond) ∈ TB := TB_t 193 (by decide +kernel) (by decide +kernel)
theorem tw_195 : (Cond.classLink "AnyOrder" (46 : Nat) "AnyOrder$Trail" : Cond) ∈ TB := TB_t 195 (by decide +kernel) (by decide +kernel)
theorem tw_196 : (Cond.instantiable "AnyOrder$Trail" (1 : Nat) : Cond) ∈ TB := TB_t 196 (by decide +kernel) (by decide +kernel)
theorem tw_198 : (Cond.instanceMethod ({ cls := "AnyOrder$Trail", name := "<init>", desc := "()V" } : Jvm.MethodName) : Cond) ∈ TB := TB_t 198 (by decide +kernel) (by decide +kernel)
theorem tw_199 : (Cond.code ({ cls := "AnyOrder$Trail", name := "<init>", desc := "()V" } : Jvm.MethodName) prog_11_method_1_code (1 : Nat) (Option.none : Option Jvm.ClassFile.FieldType) : Cond) ∈ TB := TB_t 199 (by decide +kernel) (by decide +kernel)
theorem tw_200 : (Cond.methodLink "AnyOrder$Trail" (1 : Nat) ({ cls := "java/lang/Object", name := "<init>", desc := "()V" } : Jvm.MethodName) : Cond) ∈ TB := TB_t 200 (by decide +kernel) (by decide +kernel)
theorem tw_201 : (Cond.fieldLink "AnyOrder$Trail" (7 : Nat) "AnyOrder$Trail" "value" "I" : Cond) ∈ TB := TB_t 201 (by decide +kernel) (by decide +kernel)
theorem tw_202 : (Cond.fieldLink "AnyOrder" (263 : Nat) "AnyOrder$Trail" "value" "I" : Cond) ∈ TB := TB_t 202 (by decide +kernel) (by decide +kernel)
theorem tw_206 : (Cond.instantiable "AnyOrder$Word" (3 : Nat) : Cond) ∈ TB := TB_t 206 (by decide +kernel) (by decide +kernel)
theorem tw_208 : (Cond.instanceMethod ({ cls := "AnyOrder$Word", name := "<init>", desc := "()V" } : Jvm.MethodName) : Cond) ∈ TB := TB_t 208 (by decide +kernel) (by decide +kernel)
theorem tw_209 : (Cond.code ({ cls := "AnyOrder$Word", name := "<init>", desc := "()V" } : Jvm.MethodName) prog_12_method_1_code (1 : Nat) (Option.none : Option Jvm.ClassFile.FieldType) : Cond) ∈ TB := TB_t 209 (by decide +kernel) (by decide +kernel)
theorem tw_210 : (Cond.methodLink "AnyOrder$Word" (3 : Nat) ({ cls := "java/lang/Object", name := "<init>", desc := "()V" } : Jvm.MethodName) : Cond) ∈ TB := TB_t 210 (by decide +kernel) (by decide +kernel)
theorem tw_211 : (Cond.fieldLink "AnyOrder$Word" (9 : Nat) "AnyOrder$Word" "letters" "[I" : Cond) ∈ TB := TB_t 211 (by decide +kernel) (by decide +kernel)
theorem tw_212 : (Cond.fieldLink "AnyOrder" (207 : Nat) "AnyOrder$Word" "letters" "[I" : Cond) ∈ TB := TB_t 212 (by decide +kernel) (by decide +kernel)
theorem tw_213 : (Cond.fieldLink "AnyOrder$Word" (15 : Nat) "AnyOrder$Word" "row" "[J" : Cond) ∈ TB := TB_t 213 (by decide +kernel) (by decide +kernel)
theorem tw_214 : (Cond.fieldLink "AnyOrder" (224 : Nat) "AnyOrder$Word" "row" "[J" : Cond) ∈ TB := TB_t 214 (by decide +kernel) (by decide +kernel)
theorem tw_215 : (Cond.fieldLink "AnyOrder$Word" (19 : Nat) "AnyOrder$Word" "letterCount" "I" : Cond) ∈ TB := TB_t 215 (by decide +kernel) (by decide +kernel)
theorem tw_216 : (Cond.fieldLink "AnyOrder" (194 : Nat) "AnyOrder$Word" "letterCount" "I" : Cond) ∈ TB := TB_t 216 (by decide +kernel) (by decide +kernel)
theorem tw_224 : (Cond.instantiable "AnyOrder$Sheet" (4 : Nat) : Cond) ∈ TB := TB_t 224 (by decide +kernel) (by decide +kernel)
theorem tw_226 : (Cond.instanceMethod ({ cls := "AnyOrder$Sheet", name := "<init>", desc := "()V" } : Jvm.MethodName) : Cond) ∈ TB := TB_t 226 (by decide +kernel) (by decide +kernel)
theorem tw_227 : (Cond.code ({ cls := "AnyOrder$Sheet", name := "<init>", desc := "()V" } : Jvm.MethodName) prog_5_method_1_code (1 : Nat) (Option.none : Option Jvm.ClassFile.FieldType) : Cond) ∈ TB := TB_t 227 (by decide +kernel) (by decide +kernel)
theorem tw_228 : (Cond.methodLink "AnyOrder$Sheet" (3 : Nat) ({ cls := "java/lang/Object", name := "<init>", desc := "()V" } : Jvm.MethodName) : Cond) ∈ TB := TB_t 228 (by decide +kernel) (by decide +kernel)
theorem tw_229 : (Cond.fieldLink "AnyOrder$Sheet" (9 : Nat) "AnyOrder$Sheet" "cells" "[I" : Cond) ∈ TB := TB_t 229 (by decide +kernel) (by decide +kernel)
theorem tw_230 : (Cond.fieldLink "AnyOrder" (250 : Nat) "AnyOrder$Sheet" "cells" "[I" : Cond) ∈ TB := TB_t 230 (by decide +kernel) (by decide +kernel)
theorem tw_231 : (Cond.fieldLink "AnyOrder$Sheet" (25 : Nat) "AnyOrder$Sheet" "cellCount" "I" : Cond) ∈ TB := TB_t 231 (by decide +kernel) (by decide +kernel)
theorem tw_232 : (Cond.fieldLink "AnyOrder$Sheet" (21 : Nat) "AnyOrder$Sheet" "lane" "I" : Cond) ∈ TB := TB_t 232 (by decide +kernel) (by decide +kernel)
theorem tw_233 : (Cond.fieldLink "AnyOrder" (281 : Nat) "AnyOrder$Sheet" "lane" "I" : Cond) ∈ TB := TB_t 233 (by decide +kernel) (by decide +kernel)
theorem tw_234 : (Cond.fieldLink "AnyOrder$Sheet" (28 : Nat) "AnyOrder$Sheet" "hasRow" "Z" : Cond) ∈ TB := TB_t 234 (by decide +kernel) (by decide +kernel)
theorem tw_235 : (Cond.fieldLink "AnyOrder" (278 : Nat) "AnyOrder$Sheet" "hasRow" "Z" : Cond) ∈ TB := TB_t 235 (by decide +kernel) (by decide +kernel)
theorem tw_245 : (Cond.fieldLink "AnyOrder" (14 : Nat) "AnyOrder" "tables" "LAnyOrder$Tables;" : Cond) ∈ TB := TB_t 245 (by decide +kernel) (by decide +kernel)
theorem tw_246 : (Cond.fieldLink "AnyOrder" (23 : Nat) "AnyOrder" "lengths" "LAnyOrder$Lengths;" : Cond) ∈ TB := TB_t 246 (by decide +kernel) (by decide +kernel)
theorem tw_247 : (Cond.fieldLink "AnyOrder" (30 : Nat) "AnyOrder" "closure" "LAnyOrder$Closure;" : Cond) ∈ TB := TB_t 247 (by decide +kernel) (by decide +kernel)
theorem tw_248 : (Cond.fieldLink "AnyOrder" (36 : Nat) "AnyOrder" "words" "[LAnyOrder$Word;" : Cond) ∈ TB := TB_t 248 (by decide +kernel) (by decide +kernel)
theorem tw_249 : (Cond.fieldLink "AnyOrder" (42 : Nat) "AnyOrder" "sheets" "[LAnyOrder$Sheet;" : Cond) ∈ TB := TB_t 249 (by decide +kernel) (by decide +kernel)
theorem tw_250 : (Cond.fieldLink "AnyOrder" (49 : Nat) "AnyOrder" "trail" "LAnyOrder$Trail;" : Cond) ∈ TB := TB_t 250 (by decide +kernel) (by decide +kernel)
theorem tw_251 : (Cond.fieldLink "AnyOrder" (67 : Nat) "AnyOrder" "wordCount" "I" : Cond) ∈ TB := TB_t 251 (by decide +kernel) (by decide +kernel)
theorem tw_252 : (Cond.fieldLink "AnyOrder" (266 : Nat) "AnyOrder" "latestFault" "I" : Cond) ∈ TB := TB_t 252 (by decide +kernel) (by decide +kernel)
theorem tw_270 : (Cond.methodLink "AnyOrderLaw" (13 : Nat) ({ cls := "AnyOrder", name := "begin", desc := "(II)I" } : Jvm.MethodName) : Cond) ∈ TB := TB_t 270 (by decide +kernel) (by decide +kernel)
theorem tw_271 : (Cond.instanceMethod ({ cls := "AnyOrder", name := "begin", desc := "(II)I" } : Jvm.MethodName) : Cond) ∈ TB := TB_t 271 (by decide +kernel) (by decide +kernel)
theorem tw_272 : (Cond.selects "AnyOrder" ({ cls := "AnyOrder", name := "begin", desc := "(II)I" } : Jvm.MethodName) ({ cls := "AnyOrder", name := "begin", desc := "(II)I" } : Jvm.MethodName) : Cond) ∈ TB := TB_t 272 (by decide +kernel) (by decide +kernel)
theorem tw_273 : (Cond.code ({ cls := "AnyOrder", name := "begin", desc := "(II)I" } : Jvm.MethodName) prog_1_method_2_code (3 : Nat) (Option.some Jvm.ClassFile.FieldType.int) : Cond) ∈ TB := TB_t 273 (by decide +kernel) (by decide +kernel)
theorem tw_274 : (Cond.methodLink "AnyOrder" (55 : Nat) ({ cls := "AnyOrder", name := "isWithin", desc := "(III)Z" } : Jvm.MethodName) : Cond) ∈ TB := TB_t 274 (by decide +kernel) (by decide +kernel)
theorem tw_275 : (Cond.static ({ cls := "AnyOrder", name := "isWithin", desc := "(III)Z" } : Jvm.MethodName) : Cond) ∈ TB := TB_t 275 (by decide +kernel) (by decide +kernel)
theorem tw_276 : (Cond.code ({ cls := "AnyOrder", name := "isWithin", desc := "(III)Z" } : Jvm.MethodName) prog_1_method_32_code (3 : Nat) (Option.some Jvm.ClassFile.FieldType.boolean) : Cond) ∈ TB := TB_t 276 (by decide +kernel) (by decide +kernel)
theorem tw_277 : (Cond.methodLink "AnyOrder" (59 : Nat) ({ cls := "AnyOrder$Tables", name := "restart", desc := "(II)V" } : Jvm.MethodName) : Cond) ∈ TB := TB_t 277 (by decide +kernel) (by decide +kernel)
theorem tw_278 : (Cond.instanceMethod ({ cls := "AnyOrder$Tables", name := "restart", desc := "(II)V" } : Jvm.MethodName) : Cond) ∈ TB := TB_t 278 (by decide +kernel) (by decide +kernel)
theorem tw_279 : (Cond.selects "AnyOrder$Tables" ({ cls := "AnyOrder$Tables", name := "restart", desc := "(II)V" } : Jvm.MethodName) ({ cls := "AnyOrder$Tables", name := "restart", desc := "(II)V" } : Jvm.MethodName) : Cond) ∈ TB := TB_t 279 (by decide +kernel) (by decide +kernel)
theorem tw_280 : (Cond.code ({ cls := "AnyOrder$Tables", name := "restart", desc := "(II)V" } : Jvm.MethodName) prog_10_method_2_code (3 : Nat) (Option.none : Option Jvm.ClassFile.FieldType) : Cond) ∈ TB := TB_t 280 (by decide +kernel) (by decide +kernel)
theorem tw_281 : (Cond.methodLink "AnyOrder" (63 : Nat) ({ cls := "AnyOrder$Lengths", name := "forget", desc := "()V" } : Jvm.MethodName) : Cond) ∈ TB := TB_t 281 (by decide +kernel) (by decide +kernel)
theorem tw_282 : (Cond.instanceMethod ({ cls := "AnyOrder$Lengths", name := "forget", desc := "()V" } : Jvm.MethodName) : Cond) ∈ TB := TB_t 282 (by decide +kernel) (by decide +kernel)
theorem tw_283 : (Cond.selects "AnyOrder$Lengths" ({ cls := "AnyOrder$Lengths", name := "forget", desc := "()V" } : Jvm.MethodName) ({ cls := "AnyOrder$Lengths", name := "forget", desc := "()V" } : Jvm.MethodName) : Cond) ∈ TB := TB_t 283 (by decide +kernel) (by decide +kernel)
theorem tw_284 : (Cond.code ({ cls := "AnyOrder$Lengths", name := "forget", desc := "()V" } : Jvm.MethodName) prog_4_method_2_code (2 : Nat) (Option.none : Option Jvm.ClassFile.FieldType) : Cond) ∈ TB := TB_t 284 (by decide +kernel) (by decide +kernel)
theorem tw_285 : (Cond.methodLink "AnyOrder" (66 : Nat) ({ cls := "AnyOrder$Closure", name := "forget", desc := "()V" } : Jvm.MethodName) : Cond) ∈ TB := TB_t 285 (by decide +kernel) (by decide +kernel)
theorem tw_286 : (Cond.instanceMethod ({ cls := "AnyOrder$Closure", name := "forget", desc := "()V" } : Jvm.MethodName) : Cond) ∈ TB := TB_t 286 (by decide +kernel) (by decide +kernel)
theorem tw_287 : (Cond.selects "AnyOrder$Closure" ({ cls := "AnyOrder$Closure", name := "forget", desc := "()V" } : Jvm.MethodName) ({ cls := "AnyOrder$Closure", name := "forget", desc := "()V" } : Jvm.MethodName) : Cond) ∈ TB := TB_t 287 (by decide +kernel) (by decide +kernel)
theorem tw_288 : (Cond.code ({ cls := "AnyOrder$Closure", name := "forget", desc := "()V" } : Jvm.MethodName) prog_2_method_2_code (1 : Nat) (Option.none : Option Jvm.ClassFile.FieldType) : Cond) ∈ TB := TB_t 288 (by decide +kernel) (by decide +kernel)
theorem tw_289 : (Cond.methodLink "AnyOrderLaw" (18 : Nat) ({ cls := "AnyOrder", name := "table", desc := "(III)I" } : Jvm.MethodName) : Cond) ∈ TB := TB_t 289 (by decide +kernel) (by decide +kernel)
theorem tw_290 : (Cond.instanceMethod ({ cls := "AnyOrder", name := "table", desc := "(III)I" } : Jvm.MethodName) : Cond) ∈ TB := TB_t 290 (by decide +kernel) (by decide +kernel)
theorem tw_291 : (Cond.selects "AnyOrder" ({ cls := "AnyOrder", name := "table", desc := "(III)I" } : Jvm.MethodName) ({ cls := "AnyOrder", name := "table", desc := "(III)I" } : Jvm.MethodName) : Cond) ∈ TB := TB_t 291 (by decide +kernel) (by decide +kernel)
theorem tw_292 : (Cond.code ({ cls := "AnyOrder", name := "table", desc := "(III)I" } : Jvm.MethodName) prog_1_method_3_code (4 : Nat) (Option.some Jvm.ClassFile.FieldType.int) : Cond) ∈ TB := TB_t 292 (by decide +kernel) (by decide +kernel)
theorem tw_293 : (Cond.methodLink "AnyOrder" (71 : Nat) ({ cls := "AnyOrder", name := "addTable", desc := "(III)I" } : Jvm.MethodName) : Cond) ∈ TB := TB_t 293 (by decide +kernel) (by decide +kernel)
theorem tw_295 : (Cond.instanceMethod ({ cls := "AnyOrder", name := "addTable", desc := "(III)I" } : Jvm.MethodName) : Cond) ∈ TB := TB_t 295 (by decide +kernel) (by decide +kernel)
theorem tw_296 : (Cond.code ({ cls := "AnyOrder", name := "addTable", desc := "(III)I" } : Jvm.MethodName) prog_1_method_38_code (8 : Nat) (Option.some Jvm.ClassFile.FieldType.int) : Cond) ∈ TB := TB_t 296 (by decide +kernel) (by decide +kernel)
theorem tw_297 : (Cond.methodLink "AnyOrder" (290 : Nat) ({ cls := "AnyOrder$Tables", name := "cellCount", desc := "()I" } : Jvm.MethodName) : Cond) ∈ TB := TB_t 297 (by decide +kernel) (by decide +kernel)
theorem tw_298 : (Cond.instanceMethod ({ cls := "AnyOrder$Tables", name := "cellCount", desc := "()I" } : Jvm.MethodName) : Cond) ∈ TB := TB_t 298 (by decide +kernel) (by decide +kernel)
theorem tw_299 : (Cond.selects "AnyOrder$Tables" ({ cls := "AnyOrder$Tables", name := "cellCount", desc := "()I" } : Jvm.MethodName) ({ cls := "AnyOrder$Tables", name := "cellCount", desc := "()I" } : Jvm.MethodName) : Cond) ∈ TB := TB_t 299 (by decide +kernel) (by decide +kernel)
theorem tw_300 : (Cond.code ({ cls := "AnyOrder$Tables", name := "cellCount", desc := "()I" } : Jvm.MethodName) prog_10_method_7_code (1 : Nat) (Option.some Jvm.ClassFile.FieldType.int) : Cond) ∈ TB := TB_t 300 (by decide +kernel) (by decide +kernel)
theorem tw_301 : (Cond.methodLink "AnyOrder" (247 : Nat) ({ cls := "AnyOrder", name := "lookAtCells", desc := "(IIII)I" } : Jvm.MethodName) : Cond) ∈ TB := TB_t 301 (by decide +kernel) (by decide +kernel)
theorem tw_303 : (Cond.instanceMethod ({ cls := "AnyOrder", name := "lookAtCells", desc := "(IIII)I" } : Jvm.MethodName) : Cond) ∈ TB := TB_t 303 (by decide +kernel) (by decide +kernel)
theorem tw_304 : (Cond.code ({ cls := "AnyOrder", name := "lookAtCells", desc := "(IIII)I" } : Jvm.MethodName) prog_1_method_37_code (6 : Nat) (Option.some Jvm.ClassFile.FieldType.int) : Cond) ∈ TB := TB_t 304 (by decide +kernel) (by decide +kernel)
theorem tw_305 : (Cond.methodLink "AnyOrder" (238 : Nat) ({ cls := "AnyOrder", name := "isSheet", desc := "(I)Z" } : Jvm.MethodName) : Cond) ∈ TB := TB_t 305 (by decide +kernel) (by decide +kernel)
theorem tw_306 : (Cond.static ({ cls := "AnyOrder", name := "isSheet", desc := "(I)Z" } : Jvm.MethodName) : Cond) ∈ TB := TB_t 306 (by decide +kernel) (by decide +kernel)
theorem tw_307 : (Cond.code ({ cls := "AnyOrder", name := "isSheet", desc := "(I)Z" } : Jvm.MethodName) prog_1_method_33_code (1 : Nat) (Option.some Jvm.ClassFile.FieldType.boolean) : Cond) ∈ TB := TB_t 307 (by decide +kernel) (by decide +kernel)
theorem tw_308 : (Cond.methodLink "AnyOrder" (275 : Nat) ({ cls := "AnyOrder", name := "isLane", desc := "(I)Z" } : Jvm.MethodName) : Cond) ∈ TB := TB_t 308 (by decide +kernel) (by decide +kernel)
theorem tw_309 : (Cond.static ({ cls := "AnyOrder", name := "isLane", desc := "(I)Z" } : Jvm.MethodName) : Cond) ∈ TB := TB_t 309 (by decide +kernel) (by decide +kernel)
theorem tw_310 : (Cond.code ({ cls := "AnyOrder", name := "isLane", desc := "(I)Z" } : Jvm.MethodName) prog_1_method_34_code (1 : Nat) (Option.some Jvm.ClassFile.FieldType.boolean) : Cond) ∈ TB := TB_t 310 (by decide +kernel) (by decide +kernel)
theorem tw_311 : (Cond.methodLink "AnyOrder" (284 : Nat) ({ cls := "AnyOrder", name := "faultAnswer", desc := "(I)I" } : Jvm.MethodName) : Cond) ∈ TB := TB_t 311 (by decide +kernel) (by decide +kernel)
theorem tw_312 : (Cond.static ({ cls := "AnyOrder", name := "faultAnswer", desc := "(I)I" } : Jvm.MethodName) : Cond) ∈ TB := TB_t 312 (by decide +kernel) (by decide +kernel)
theorem tw_313 : (Cond.code ({ cls := "AnyOrder", name := "faultAnswer", desc := "(I)I" } : Jvm.MethodName) prog_1_method_35_code (1 : Nat) (Option.some Jvm.ClassFile.FieldType.int) : Cond) ∈ TB := TB_t 313 (by decide +kernel) (by decide +kernel)
theorem tw_314 : (Cond.methodLink "AnyOrder" (287 : Nat) ({ cls := "AnyOrder$Sheet", name := "hasCells", desc := "(II)Z" } : Jvm.MethodName) : Cond) ∈ TB := TB_t 314 (by decide +kernel) (by decide +kernel)
theorem tw_315 : (Cond.instanceMethod ({ cls := "AnyOrder$Sheet", name := "hasCells", desc := "(II)Z" } : Jvm.MethodName) : Cond) ∈ TB := TB_t 315 (by decide +kernel) (by decide +kernel)
theorem tw_316 : (Cond.selects "AnyOrder$Sheet" ({ cls := "AnyOrder$Sheet", name := "hasCells", desc := "(II)Z" } : Jvm.MethodName) ({ cls := "AnyOrder$Sheet", name := "hasCells", desc := "(II)Z" } : Jvm.MethodName) : Cond) ∈ TB := TB_t 316 (by decide +kernel) (by decide +kernel)
theorem tw_317 : (Cond.code ({ cls := "AnyOrder$Sheet", name := "hasCells", desc := "(II)Z" } : Jvm.MethodName) prog_5_method_4_code (3 : Nat) (Option.some Jvm.ClassFile.FieldType.boolean) : Cond) ∈ TB := TB_t 317 (by decide +kernel) (by decide +kernel)
theorem tw_318 : (Cond.methodLink "AnyOrder" (151 : Nat) ({ cls := "AnyOrder$Tables", name := "count", desc := "()I" } : Jvm.MethodName) : Cond) ∈ TB := TB_t 318 (by decide +kernel) (by decide +kernel)
theorem tw_319 : (Cond.instanceMethod ({ cls := "AnyOrder$Tables", name := "count", desc := "()I" } : Jvm.MethodName) : Cond) ∈ TB := TB_t 319 (by decide +kernel) (by decide +kernel)
theorem tw_320 : (Cond.selects "AnyOrder$Tables" ({ cls := "AnyOrder$Tables", name := "count", desc := "()I" } : Jvm.MethodName) ({ cls := "AnyOrder$Tables", name := "count", desc := "()I" } : Jvm.MethodName) : Cond) ∈ TB := TB_t 320 (by decide +kernel) (by decide +kernel)
theorem tw_321 : (Cond.code ({ cls := "AnyOrder$Tables", name := "count", desc := "()I" } : Jvm.MethodName) prog_10_method_4_code (1 : Nat) (Option.some Jvm.ClassFile.FieldType.int) : Cond) ∈ TB := TB_t 321 (by decide +kernel) (by decide +kernel)
theorem tw_322 : (Cond.methodLink "AnyOrder" (293 : Nat) ({ cls := "AnyOrder$Tables", name := "add", desc := "([II)I" } : Jvm.MethodName) : Cond) ∈ TB := TB_t 322 (by decide +kernel) (by decide +kernel)
theorem tw_323 : (Cond.instanceMethod ({ cls := "AnyOrder$Tables", name := "add", desc := "([II)I" } : Jvm.MethodName) : Cond) ∈ TB := TB_t 323 (by decide +kernel) (by decide +kernel)
theorem tw_324 : (Cond.selects "AnyOrder$Tables" ({ cls := "AnyOrder$Tables", name := "add", desc := "([II)I" } : Jvm.MethodName) ({ cls := "AnyOrder$Tables", name := "add", desc := "([II)I" } : Jvm.MethodName) : Cond) ∈ TB := TB_t 324 (by decide +kernel) (by decide +kernel)
theorem tw_325 : (Cond.code ({ cls := "AnyOrder$Tables", name := "add", desc := "([II)I" } : Jvm.MethodName) prog_10_method_13_code (6 : Nat) (Option.some Jvm.ClassFile.FieldType.int) : Cond) ∈ TB := TB_t 325 (by decide +kernel) (by decide +kernel)
theorem tw_326 : (Cond.methodLink "AnyOrder$Tables" (43 : Nat) ({ cls := "java/util/Arrays", name := "copyOfRange", desc := "([III)[I" } : Jvm.MethodName) : Cond) ∈ TB := TB_t 326 (by decide +kernel) (by decide +kernel)
theorem tw_327 : (Cond.static ({ cls := "java/util/Arrays", name := "copyOfRange", desc := "([III)[I" } : Jvm.MethodName) : Cond) ∈ TB := TB_t 327 (by decide +kernel) (by decide +kernel)
theorem tw_328 : (Cond.code ({ cls := "java/util/Arrays", name := "copyOfRange", desc := "([III)[I" } : Jvm.MethodName) prog_18_method_136_code (3 : Nat) (Option.some (Jvm.ClassFile.FieldType.array Jvm.ClassFile.FieldType.int)) : Cond) ∈ TB := TB_t 328 (by decide +kernel) (by decide +kernel)
theorem tw_329 : (Cond.methodLink "java/util/Arrays" (351 : Nat) ({ cls := "java/util/Arrays", name := "copyOfRangeInt", desc := "([III)[I" } : Jvm.MethodName) : Cond) ∈ TB := TB_t 329 (by decide +kernel) (by decide +kernel)
theorem tw_330 : (Cond.static ({ cls := "java/util/Arrays", name := "copyOfRangeInt", desc := "([III)[I" } : Jvm.MethodName) : Cond) ∈ TB := TB_t 330 (by decide +kernel) (by decide +kernel)
theorem tw_331 : (Cond.code ({ cls := "java/util/Arrays", name := "copyOfRangeInt", desc := "([III)[I" } : Jvm.MethodName) prog_18_method_137_code (5 : Nat) (Option.some (Jvm.ClassFile.FieldType.array Jvm.ClassFile.FieldType.int)) : Cond) ∈ TB := TB_t 331 (by decide +kernel) (by decide +kernel)
theorem tw_332 : (Cond.methodLink "java/util/Arrays" (343 : Nat) ({ cls := "java/util/Arrays", name := "checkLength", desc := "(II)V" } : Jvm.MethodName) : Cond) ∈ TB := TB_t 332 (by decide +kernel) (by decide +kernel)
theorem tw_333 : (Cond.static ({ cls := "java/util/Arrays", name := "checkLength", desc := "(II)V" } : Jvm.MethodName) : Cond) ∈ TB := TB_t 333 (by decide +kernel) (by decide +kernel)
theorem tw_334 : (Cond.code ({ cls := "java/util/Arrays", name := "checkLength", desc := "(II)V" } : Jvm.MethodName) prog_18_method_131_code (2 : Nat) (Option.none : Option Jvm.ClassFile.FieldType) : Cond) ∈ TB := TB_t 334 (by decide +kernel) (by decide +kernel)
theorem tw_335 : (Cond.methodLink "java/util/Arrays" (304 : Nat) ({ cls := "java/lang/Math", name := "min", desc := "(II)I" } : Jvm.MethodName) : Cond) ∈ TB := TB_t 335 (by decide +kernel) (by decide +kernel)
theorem tw_336 : (Cond.static ({ cls := "java/lang/Math", name := "min", desc := "(II)I" } : Jvm.MethodName) : Cond) ∈ TB := TB_t 336 (by decide +kernel) (by decide +kernel)
theorem tw_337 : (Cond.code ({ cls := "java/lang/Math", name := "min", desc := "(II)I" } : Jvm.MethodName) prog_16_method_69_code (2 : Nat) (Option.some Jvm.ClassFile.FieldType.int) : Cond) ∈ TB := TB_t 337 (by decide +kernel) (by decide +kernel)
theorem tw_338 : (Cond.methodLink "java/util/Arrays" (150 : Nat) ({ cls := "java/lang/System", name := "arraycopy", desc := "(Ljava/lang/Object;ILjava/lang/Object;II)V" } : Jvm.MethodName) : Cond) ∈ TB := TB_t 338 (by decide +kernel) (by decide +kernel)
theorem tw_339 : (Cond.static ({ cls := "java/lang/System", name := "arraycopy", desc := "(Ljava/lang/Object;ILjava/lang/Object;II)V" } : Jvm.MethodName) : Cond) ∈ TB := TB_t 339 (by decide +kernel) (by decide +kernel)
theorem tw_340 : (Cond.native ({ cls := "java/lang/System", name := "arraycopy", desc := "(Ljava/lang/Object;ILjava/lang/Object;II)V" } : Jvm.MethodName) : Cond) ∈ TB := TB_t 340 (by decide +kernel) (by decide +kernel)
theorem tw_341 : (Cond.methodLink "java/util/Arrays" (316 : Nat) ({ cls := "[I", name := "clone", desc := "()Ljava/lang/Object;" } : Jvm.MethodName) : Cond) ∈ TB := TB_t 341 (by decide +kernel) (by decide +kernel)
theorem tw_342 : (Cond.sameMethod "[I" "java/lang/Object" "clone" "()Ljava/lang/Object;" : Cond) ∈ TB := TB_t 342 (by decide +kernel) (by decide +kernel)
theorem tw_343 : (Cond.native ({ cls := "java/lang/Object", name := "clone", desc := "()Ljava/lang/Object;" } : Jvm.MethodName) : Cond) ∈ TB := TB_t 343 (by decide +kernel) (by decide +kernel)
theorem tw_344 : (Cond.instanceMethod ({ cls := "java/lang/Object", name := "clone", desc := "()Ljava/lang/Object;" } : Jvm.MethodName) : Cond) ∈ TB := TB_t 344 (by decide +kernel) (by decide +kernel)
theorem tw_345 : (Cond.selects "[I" ({ cls := "[I", name := "clone", desc := "()Ljava/lang/Object;" } : Jvm.MethodName) ({ cls := "java/lang/Object", name := "clone", desc := "()Ljava/lang/Object;" } : Jvm.MethodName) : Cond) ∈ TB := TB_t 345 (by decide +kernel) (by decide +kernel)
theorem tw_347 : (Cond.classLink "java/util/Arrays" (317 : Nat) "[I" : Cond) ∈ TB := TB_t 347 (by decide +kernel) (by decide +kernel)
theorem tw_348 : (Cond.methodLink "AnyOrder$Tables" (49 : Nat) ({ cls := "AnyOrder$Tables", name := "restOf", desc := "(J)J" } : Jvm.MethodName) : Cond) ∈ TB := TB_t 348 (by decide +kernel) (by decide +kernel)
theorem tw_350 : (Cond.instanceMethod ({ cls := "AnyOrder$Tables", name := "restOf", desc := "(J)J" } : Jvm.MethodName) : Cond) ∈ TB := TB_t 350 (by decide +kernel) (by decide +kernel)
theorem tw_351 : (Cond.code ({ cls := "AnyOrder$Tables", name := "restOf", desc := "(J)J" } : Jvm.MethodName) prog_10_method_22_code (5 : Nat) (Option.some Jvm.ClassFile.FieldType.long) : Cond) ∈ TB := TB_t 351 (by decide +kernel) (by decide +kernel)
theorem tw_352 : (Cond.methodLink "AnyOrder$Tables" (53 : Nat) ({ cls := "AnyOrder$Tables", name := "makeTable", desc := "(I[I)LAnyOrder$Table;" } : Jvm.MethodName) : Cond) ∈ TB := TB_t 352 (by decide +kernel) (by decide +kernel)
theorem tw_354 : (Cond.instanceMethod ({ cls := "AnyOrder$Tables", name := "makeTable", desc := "(I[I)LAnyOrder$Table;" } : Jvm.MethodName) : Cond) ∈ TB := TB_t 354 (by decide +kernel) (by decide +kernel)
theorem tw_355 : (Cond.code ({ cls := "AnyOrder$Tables", name := "makeTable", desc := "(I[I)LAnyOrder$Table;" } : Jvm.MethodName) prog_10_method_14_code (3 : Nat) (Option.some (Jvm.ClassFile.FieldType.object "AnyOrder$Table")) : Cond) ∈ TB := TB_t 355 (by decide +kernel) (by decide +kernel)
theorem tw_356 : (Cond.methodLink "AnyOrder$Tables" (57 : Nat) ({ cls := "AnyOrder$Tables", name := "isShuffle", desc := "([I)Z" } : Jvm.MethodName) : Cond) ∈ TB := TB_t 356 (by decide +kernel) (by decide +kernel)
theorem tw_358 : (Cond.instanceMethod ({ cls := "AnyOrder$Tables", name := "isShuffle", desc := "([I)Z" } : Jvm.MethodName) : Cond) ∈ TB := TB_t 358 (by decide +kernel) (by decide +kernel)
theorem tw_359 : (Cond.code ({ cls := "AnyOrder$Tables", name := "isShuffle", desc := "([I)Z" } : Jvm.MethodName) prog_10_method_16_code (6 : Nat) (Option.some Jvm.ClassFile.FieldType.boolean) : Cond) ∈ TB := TB_t 359 (by decide +kernel) (by decide +kernel)
theorem tw_360 : (Cond.methodLink "AnyOrder$Tables" (66 : Nat) ({ cls := "AnyOrder$Tables", name := "isEven", desc := "([I)Z" } : Jvm.MethodName) : Cond) ∈ TB := TB_t 360 (by decide +kernel) (by decide +kernel)
theorem tw_362 : (Cond.instanceMethod ({ cls := "AnyOrder$Tables", name := "isEven", desc := "([I)Z" } : Jvm.MethodName) : Cond) ∈ TB := TB_t 362 (by decide +kernel) (by decide +kernel)
theorem tw_363 : (Cond.code ({ cls := "AnyOrder$Tables", name := "isEven", desc := "([I)Z" } : Jvm.MethodName) prog_10_method_15_code (3 : Nat) (Option.some Jvm.ClassFile.FieldType.boolean) : Cond) ∈ TB := TB_t 363 (by decide +kernel) (by decide +kernel)
theorem tw_364 : (Cond.classLink "AnyOrder$Tables" (61 : Nat) "AnyOrder$ShuffleTable" : Cond) ∈ TB := TB_t 364 (by decide +kernel) (by decide +kernel)
theorem tw_365 : (Cond.instantiable "AnyOrder$ShuffleTable" (3 : Nat) : Cond) ∈ TB := TB_t 365 (by decide +kernel) (by decide +kernel)
theorem tw_366 : (Cond.methodLink "AnyOrder$Tables" (63 : Nat) ({ cls := "AnyOrder$ShuffleTable", name := "<init>", desc := "(II[I)V" } : Jvm.MethodName) : Cond) ∈ TB := TB_t 366 (by decide +kernel) (by decide +kernel)
theorem tw_367 : (Cond.instanceMethod ({ cls := "AnyOrder$ShuffleTable", name := "<init>", desc := "(II[I)V" } : Jvm.MethodName) : Cond) ∈ TB := TB_t 367 (by decide +kernel) (by decide +kernel)
theorem tw_368 : (Cond.code ({ cls := "AnyOrder$ShuffleTable", name := "<init>", desc := "(II[I)V" } : Jvm.MethodName) prog_6_method_1_code (4 : Nat) (Option.none : Option Jvm.ClassFile.FieldType) : Cond) ∈ TB := TB_t 368 (by decide +kernel) (by decide +kernel)
theorem tw_369 : (Cond.methodLink "AnyOrder$ShuffleTable" (1 : Nat) ({ cls := "AnyOrder$EvenTable", name := "<init>", desc := "(II[I)V" } : Jvm.MethodName) : Cond) ∈ TB := TB_t 369 (by decide +kernel) (by decide +kernel)
theorem tw_370 : (Cond.instanceMethod ({ cls := "AnyOrder$EvenTable", name := "<init>", desc := "(II[I)V" } : Jvm.MethodName) : Cond) ∈ TB := TB_t 370 (by decide +kernel) (by decide +kernel)
theorem tw_371 : (Cond.code ({ cls := "AnyOrder$EvenTable", name := "<init>", desc := "(II[I)V" } : Jvm.MethodName) prog_3_method_1_code (4 : Nat) (Option.none : Option Jvm.ClassFile.FieldType) : Cond) ∈ TB := TB_t 371 (by decide +kernel) (by decide +kernel)
theorem tw_372 : (Cond.methodLink "AnyOrder$EvenTable" (1 : Nat) ({ cls := "AnyOrder$Table", name := "<init>", desc := "(II[I)V" } : Jvm.MethodName) : Cond) ∈ TB := TB_t 372 (by decide +kernel) (by decide +kernel)
theorem tw_373 : (Cond.instanceMethod ({ cls := "AnyOrder$Table", name := "<init>", desc := "(II[I)V" } : Jvm.MethodName) : Cond) ∈ TB := TB_t 373 (by decide +kernel) (by decide +kernel)
theorem tw_374 : (Cond.code ({ cls := "AnyOrder$Table", name := "<init>", desc := "(II[I)V" } : Jvm.MethodName) prog_9_method_1_code (4 : Nat) (Option.none : Option Jvm.ClassFile.FieldType) : Cond) ∈ TB := TB_t 374 (by decide +kernel) (by decide +kernel)
theorem tw_375 : (Cond.methodLink "AnyOrder$Table" (1 : Nat) ({ cls := "java/lang/Object", name := "<init>", desc := "()V" } : Jvm.MethodName) : Cond) ∈ TB := TB_t 375 (by decide +kernel) (by decide +kernel)
theorem tw_376 : (Cond.fieldLink "AnyOrder$Table" (7 : Nat) "AnyOrder$Table" "number" "I" : Cond) ∈ TB := TB_t 376 (by decide +kernel) (by decide +kernel)
theorem tw_377 : (Cond.fieldLink "AnyOrder$Table" (13 : Nat) "AnyOrder$Table" "d" "I" : Cond) ∈ TB := TB_t 377 (by decide +kernel) (by decide +kernel)
theorem tw_378 : (Cond.fieldLink "AnyOrder$EvenTable" (23 : Nat) "AnyOrder$EvenTable" "d" "I" : Cond) ∈ TB := TB_t 378 (by decide +kernel) (by decide +kernel)
theorem tw_379 : (Cond.sameField "AnyOrder$EvenTable" "AnyOrder$Table" "d" "I" : Cond) ∈ TB := TB_t 379 (by decide +kernel) (by decide +kernel)
theorem tw_380 : (Cond.fieldLink "AnyOrder$Table" (16 : Nat) "AnyOrder$Table" "entries" "[I" : Cond) ∈ TB := TB_t 380 (by decide +kernel) (by decide +kernel)
theorem tw_381 : (Cond.fieldLink "AnyOrder$EvenTable" (27 : Nat) "AnyOrder$EvenTable" "entries" "[I" : Cond) ∈ TB := TB_t 381 (by decide +kernel) (by decide +kernel)
theorem tw_382 : (Cond.sameField "AnyOrder$EvenTable" "AnyOrder$Table" "entries" "[I" : Cond) ∈ TB := TB_t 382 (by decide +kernel) (by decide +kernel)
theorem tw_383 : (Cond.fieldLink "AnyOrder" (93 : Nat) "AnyOrder$Table" "entries" "[I" : Cond) ∈ TB := TB_t 383 (by decide +kernel) (by decide +kernel)
theorem tw_391 : (Cond.classLink "AnyOrder$Tables" (69 : Nat) "AnyOrder$EvenTable" : Cond) ∈ TB := TB_t 391 (by decide +kernel) (by decide +kernel)
theorem tw_392 : (Cond.instantiable "AnyOrder$EvenTable" (3 : Nat) : Cond) ∈ TB := TB_t 392 (by decide +kernel) (by decide +kernel)
theorem tw_393 : (Cond.methodLink "AnyOrder$Tables" (71 : Nat) ({ cls := "AnyOrder$EvenTable", name := "<init>", desc := "(II[I)V" } : Jvm.MethodName) : Cond) ∈ TB := TB_t 393 (by decide +kernel) (by decide +kernel)
theorem tw_398 : (Cond.instantiable "AnyOrder$Table" (3 : Nat) : Cond) ∈ TB := TB_t 398 (by decide +kernel) (by decide +kernel)
theorem tw_399 : (Cond.methodLink "AnyOrder$Tables" (72 : Nat) ({ cls := "AnyOrder$Table", name := "<init>", desc := "(II[I)V" } : Jvm.MethodName) : Cond) ∈ TB := TB_t 399 (by decide +kernel) (by decide +kernel)
theorem tw_404 : (Cond.methodLink "AnyOrder" (75 : Nat) ({ cls := "AnyOrder", name := "settle", desc := "(I)I" } : Jvm.MethodName) : Cond) ∈ TB := TB_t 404 (by decide +kernel) (by decide +kernel)
theorem tw_406 : (Cond.instanceMethod ({ cls := "AnyOrder", name := "settle", desc := "(I)I" } : Jvm.MethodName) : Cond) ∈ TB := TB_t 406 (by decide +kernel) (by decide +kernel)
theorem tw_407 : (Cond.code ({ cls := "AnyOrder", name := "settle", desc := "(I)I" } : Jvm.MethodName) prog_1_method_36_code (2 : Nat) (Option.some Jvm.ClassFile.FieldType.int) : Cond) ∈ TB := TB_t 407 (by decide +kernel) (by decide +kernel)
theorem tw_408 : (Cond.methodLink "AnyOrderLaw" (23 : Nat) ({ cls := "AnyOrder", name := "entry", desc := "(III)J" } : Jvm.MethodName) : Cond) ∈ TB := TB_t 408 (by decide +kernel) (by decide +kernel)
theorem tw_409 : (Cond.instanceMethod ({ cls := "AnyOrder", name := "entry", desc := "(III)J" } : Jvm.MethodName) : Cond) ∈ TB := TB_t 409 (by decide +kernel) (by decide +kernel)
theorem tw_410 : (Cond.selects "AnyOrder" ({ cls := "AnyOrder", name := "entry", desc := "(III)J" } : Jvm.MethodName) ({ cls := "AnyOrder", name := "entry", desc := "(III)J" } : Jvm.MethodName) : Cond) ∈ TB := TB_t 410 (by decide +kernel) (by decide +kernel)
theorem tw_411 : (Cond.code ({ cls := "AnyOrder", name := "entry", desc := "(III)J" } : Jvm.MethodName) prog_1_method_4_code (4 : Nat) (Option.some Jvm.ClassFile.FieldType.long) : Cond) ∈ TB := TB_t 411 (by decide +kernel) (by decide +kernel)
theorem tw_412 : (Cond.methodLink "AnyOrder" (79 : Nat) ({ cls := "AnyOrder$Tables", name := "has", desc := "(I)Z" } : Jvm.MethodName) : Cond) ∈ TB := TB_t 412 (by decide +kernel) (by decide +kernel)
theorem tw_413 : (Cond.instanceMethod ({ cls := "AnyOrder$Tables", name := "has", desc := "(I)Z" } : Jvm.MethodName) : Cond) ∈ TB := TB_t 413 (by decide +kernel) (by decide +kernel)
theorem tw_414 : (Cond.selects "AnyOrder$Tables" ({ cls := "AnyOrder$Tables", name := "has", desc := "(I)Z" } : Jvm.MethodName) ({ cls := "AnyOrder$Tables", name := "has", desc := "(I)Z" } : Jvm.MethodName) : Cond) ∈ TB := TB_t 414 (by decide +kernel) (by decide +kernel)
theorem tw_415 : (Cond.code ({ cls := "AnyOrder$Tables", name := "has", desc := "(I)Z" } : Jvm.MethodName) prog_10_method_8_code (2 : Nat) (Option.some Jvm.ClassFile.FieldType.boolean) : Cond) ∈ TB := TB_t 415 (by decide +kernel) (by decide +kernel)
theorem tw_416 : (Cond.methodLink "AnyOrder" (83 : Nat) ({ cls := "AnyOrder$Tables", name := "isPlace", desc := "(II)Z" } : Jvm.MethodName) : Cond) ∈ TB := TB_t 416 (by decide +kernel) (by decide +kernel)
theorem tw_417 : (Cond.instanceMethod ({ cls := "AnyOrder$Tables", name := "isPlace", desc := "(II)Z" } : Jvm.MethodName) : Cond) ∈ TB := TB_t 417 (by decide +kernel) (by decide +kernel)
theorem tw_418 : (Cond.selects "AnyOrder$Tables" ({ cls := "AnyOrder$Tables", name := "isPlace", desc := "(II)Z" } : Jvm.MethodName) ({ cls := "AnyOrder$Tables", name := "isPlace", desc := "(II)Z" } : Jvm.MethodName) : Cond) ∈ TB := TB_t 418 (by decide +kernel) (by decide +kernel)
theorem tw_419 : (Cond.code ({ cls := "AnyOrder$Tables", name := "isPlace", desc := "(II)Z" } : Jvm.MethodName) prog_10_method_11_code (3 : Nat) (Option.some Jvm.ClassFile.FieldType.boolean) : Cond) ∈ TB := TB_t 419 (by decide +kernel) (by decide +kernel)
theorem tw_420 : (Cond.constantLong "AnyOrder" (87 : Nat) (-9223372036854775808 : Int64) : Cond) ∈ TB := TB_t 420 (by decide +kernel) (by decide +kernel)
theorem tw_421 : (Cond.methodLink "AnyOrder" (89 : Nat) ({ cls := "AnyOrder$Tables", name := "tableOf", desc := "(I)LAnyOrder$Table;" } : Jvm.MethodName) : Cond) ∈ TB := TB_t 421 (by decide +kernel) (by decide +kernel)
theorem tw_422 : (Cond.instanceMethod ({ cls := "AnyOrder$Tables", name := "tableOf", desc := "(I)LAnyOrder$Table;" } : Jvm.MethodName) : Cond) ∈ TB := TB_t 422 (by decide +kernel) (by decide +kernel)
theorem tw_423 : (Cond.selects "AnyOrder$Tables" ({ cls := "AnyOrder$Tables", name := "tableOf", desc := "(I)LAnyOrder$Table;" } : Jvm.MethodName) ({ cls := "AnyOrder$Tables", name := "tableOf", desc := "(I)LAnyOrder$Table;" } : Jvm.MethodName) : Cond) ∈ TB := TB_t 423 (by decide +kernel) (by decide +kernel)
theorem tw_424 : (Cond.code ({ cls := "AnyOrder$Tables", name := "tableOf", desc := "(I)LAnyOrder$Table;" } : Jvm.MethodName) prog_10_method_9_code (2 : Nat) (Option.some (Jvm.ClassFile.FieldType.object "AnyOrder$Table")) : Cond) ∈ TB := TB_t 424 (by decide +kernel) (by decide +kernel)
theorem tw_425 : (Cond.methodLink "AnyOrder" (99 : Nat) ({ cls := "AnyOrder$Tables", name := "cellOf", desc := "(II)I" } : Jvm.MethodName) : Cond) ∈ TB := TB_t 425 (by decide +kernel) (by decide +kernel)
theorem tw_426 : (Cond.instanceMethod ({ cls := "AnyOrder$Tables", name := "cellOf", desc := "(II)I" } : Jvm.MethodName) : Cond) ∈ TB := TB_t 426 (by decide +kernel) (by decide +kernel)
theorem tw_427 : (Cond.selects "AnyOrder$Tables" ({ cls := "AnyOrder$Tables", name := "cellOf", desc := "(II)I" } : Jvm.MethodName) ({ cls := "AnyOrder$Tables", name := "cellOf", desc := "(II)I" } : Jvm.MethodName) : Cond) ∈ TB := TB_t 427 (by decide +kernel) (by decide +kernel)
theorem tw_428 : (Cond.code ({ cls := "AnyOrder$Tables", name := "cellOf", desc := "(II)I" } : Jvm.MethodName) prog_10_method_12_code (3 : Nat) (Option.some Jvm.ClassFile.FieldType.int) : Cond) ∈ TB := TB_t 428 (by decide +kernel) (by decide +kernel)
theorem tw_429 : (Cond.methodLink "AnyOrderLaw" (28 : Nat) ({ cls := "AnyOrder", name := "may", desc := "(IIZ)I" } : Jvm.MethodName) : Cond) ∈ TB := TB_t 429 (by decide +kernel) (by decide +kernel)
theorem tw_430 : (Cond.instanceMethod ({ cls := "AnyOrder", name := "may", desc := "(IIZ)I" } : Jvm.MethodName) : Cond) ∈ TB := TB_t 430 (by decide +kernel) (by decide +kernel)
theorem tw_431 : (Cond.selects "AnyOrder" ({ cls := "AnyOrder", name := "may", desc := "(IIZ)I" } : Jvm.MethodName) ({ cls := "AnyOrder", name := "may", desc := "(IIZ)I" } : Jvm.MethodName) : Cond) ∈ TB := TB_t 431 (by decide +kernel) (by decide +kernel)
theorem tw_432 : (Cond.code ({ cls := "AnyOrder", name := "may", desc := "(IIZ)I" } : Jvm.MethodName) prog_1_method_5_code (4 : Nat) (Option.some Jvm.ClassFile.FieldType.int) : Cond) ∈ TB := TB_t 432 (by decide +kernel) (by decide +kernel)
theorem tw_433 : (Cond.methodLink "AnyOrder" (103 : Nat) ({ cls := "AnyOrder$Tables", name := "mayFollow", desc := "(II)Z" } : Jvm.MethodName) : Cond) ∈ TB := TB_t 433 (by decide +kernel) (by decide +kernel)
theorem tw_434 : (Cond.instanceMethod ({ cls := "AnyOrder$Tables", name := "mayFollow", desc := "(II)Z" } : Jvm.MethodName) : Cond) ∈ TB := TB_t 434 (by decide +kernel) (by decide +kernel)
theorem tw_435 : (Cond.selects "AnyOrder$Tables" ({ cls := "AnyOrder$Tables", name := "mayFollow", desc := "(II)Z" } : Jvm.MethodName) ({ cls := "AnyOrder$Tables", name := "mayFollow", desc := "(II)Z" } : Jvm.MethodName) : Cond) ∈ TB := TB_t 435 (by decide +kernel) (by decide +kernel)
theorem tw_436 : (Cond.code ({ cls := "AnyOrder$Tables", name := "mayFollow", desc := "(II)Z" } : Jvm.MethodName) prog_10_method_17_code (3 : Nat) (Option.some Jvm.ClassFile.FieldType.boolean) : Cond) ∈ TB := TB_t 436 (by decide +kernel) (by decide +kernel)
theorem tw_437 : (Cond.methodLink "AnyOrder" (106 : Nat) ({ cls := "AnyOrder$Tables", name := "allow", desc := "(IIZ)V" } : Jvm.MethodName) : Cond) ∈ TB := TB_t 437 (by decide +kernel) (by decide +kernel)
theorem tw_438 : (Cond.instanceMethod ({ cls := "AnyOrder$Tables", name := "allow", desc := "(IIZ)V" } : Jvm.MethodName) : Cond) ∈ TB := TB_t 438 (by decide +kernel) (by decide +kernel)
theorem tw_439 : (Cond.selects "AnyOrder$Tables" ({ cls := "AnyOrder$Tables", name := "allow", desc := "(IIZ)V" } : Jvm.MethodName) ({ cls := "AnyOrder$Tables", name := "allow", desc := "(IIZ)V" } : Jvm.MethodName) : Cond) ∈ TB := TB_t 439 (by decide +kernel) (by decide +kernel)
theorem tw_440 : (Cond.code ({ cls := "AnyOrder$Tables", name := "allow", desc := "(IIZ)V" } : Jvm.MethodName) prog_10_method_18_code (4 : Nat) (Option.none : Option Jvm.ClassFile.FieldType) : Cond) ∈ TB := TB_t 440 (by decide +kernel) (by decide +kernel)
theorem tw_441 : (Cond.methodLink "AnyOrderLaw" (33 : Nat) ({ cls := "AnyOrder", name := "length", desc := "(II)J" } : Jvm.MethodName) : Cond) ∈ TB := TB_t 441 (by decide +kernel) (by decide +kernel)
theorem tw_442 : (Cond.instanceMethod ({ cls := "AnyOrder", name := "length", desc := "(II)J" } : Jvm.MethodName) : Cond) ∈ TB := TB_t 442 (by decide +kernel) (by decide +kernel)
theorem tw_443 : (Cond.selects "AnyOrder" ({ cls := "AnyOrder", name := "length", desc := "(II)J" } : Jvm.MethodName) ({ cls := "AnyOrder", name := "length", desc := "(II)J" } : Jvm.MethodName) : Cond) ∈ TB := TB_t 443 (by decide +kernel) (by decide +kernel)
theorem tw_444 : (Cond.code ({ cls := "AnyOrder", name := "length", desc := "(II)J" } : Jvm.MethodName) prog_1_method_6_code (4 : Nat) (Option.some Jvm.ClassFile.FieldType.long) : Cond) ∈ TB := TB_t 444 (by decide +kernel) (by decide +kernel)
theorem tw_445 : (Cond.methodLink "AnyOrder" (110 : Nat) ({ cls := "AnyOrder$Lengths", name := "isSpent", desc := "(I)Z" } : Jvm.MethodName) : Cond) ∈ TB := TB_t 445 (by decide +kernel) (by decide +kernel)
theorem tw_446 : (Cond.instanceMethod ({ cls := "AnyOrder$Lengths", name := "isSpent", desc := "(I)Z" } : Jvm.MethodName) : Cond) ∈ TB := TB_t 446 (by decide +kernel) (by decide +kernel)
theorem tw_447 : (Cond.selects "AnyOrder$Lengths" ({ cls := "AnyOrder$Lengths", name := "isSpent", desc := "(I)Z" } : Jvm.MethodName) ({ cls := "AnyOrder$Lengths", name := "isSpent", desc := "(I)Z" } : Jvm.MethodName) : Cond) ∈ TB := TB_t 447 (by decide +kernel) (by decide +kernel)
theorem tw_448 : (Cond.code ({ cls := "AnyOrder$Lengths", name := "isSpent", desc := "(I)Z" } : Jvm.MethodName) prog_4_method_3_code (2 : Nat) (Option.some Jvm.ClassFile.FieldType.boolean) : Cond) ∈ TB := TB_t 448 (by decide +kernel) (by decide +kernel)
theorem tw_449 : (Cond.methodLink "AnyOrder$Lengths" (43 : Nat) ({ cls := "AnyOrder$Lengths", name := "countOf", desc := "(I)I" } : Jvm.MethodName) : Cond) ∈ TB := TB_t 449 (by decide +kernel) (by decide +kernel)
theorem tw_450 : (Cond.instanceMethod ({ cls := "AnyOrder$Lengths", name := "countOf", desc := "(I)I" } : Jvm.MethodName) : Cond) ∈ TB := TB_t 450 (by decide +kernel) (by decide +kernel)
theorem tw_451 : (Cond.selects "AnyOrder$Lengths" ({ cls := "AnyOrder$Lengths", name := "countOf", desc := "(I)I" } : Jvm.MethodName) ({ cls := "AnyOrder$Lengths", name := "countOf", desc := "(I)I" } : Jvm.MethodName) : Cond) ∈ TB := TB_t 451 (by decide +kernel) (by decide +kernel)
theorem tw_452 : (Cond.code ({ cls := "AnyOrder$Lengths", name := "countOf", desc := "(I)I" } : Jvm.MethodName) prog_4_method_4_code (4 : Nat) (Option.some Jvm.ClassFile.FieldType.int) : Cond) ∈ TB := TB_t 452 (by decide +kernel) (by decide +kernel)
theorem tw_453 : (Cond.methodLink "AnyOrder$Lengths" (47 : Nat) ({ cls := "AnyOrder$Lengths", name := "findWays", desc := "()V" } : Jvm.MethodName) : Cond) ∈ TB := TB_t 453 (by decide +kernel) (by decide +kernel)
theorem tw_455 : (Cond.instanceMethod ({ cls := "AnyOrder$Lengths", name := "findWays", desc := "()V" } : Jvm.MethodName) : Cond) ∈ TB := TB_t 455 (by decide +kernel) (by decide +kernel)
theorem tw_456 : (Cond.code ({ cls := "AnyOrder$Lengths", name := "findWays", desc := "()V" } : Jvm.MethodName) prog_4_method_5_code (3 : Nat) (Option.none : Option Jvm.ClassFile.FieldType) : Cond) ∈ TB := TB_t 456 (by decide +kernel) (by decide +kernel)
theorem tw_457 : (Cond.methodLink "AnyOrder$Lengths" (56 : Nat) ({ cls := "java/util/Arrays", name := "fill", desc := "([II)V" } : Jvm.MethodName) : Cond) ∈ TB := TB_t 457 (by decide +kernel) (by decide +kernel)
theorem tw_458 : (Cond.static ({ cls := "java/util/Arrays", name := "fill", desc := "([II)V" } : Jvm.MethodName) : Cond) ∈ TB := TB_t 458 (by decide +kernel) (by decide +kernel)
theorem tw_459 : (Cond.code ({ cls := "java/util/Arrays", name := "fill", desc := "([II)V" } : Jvm.MethodName) prog_18_method_103_code (4 : Nat) (Option.none : Option Jvm.ClassFile.FieldType) : Cond) ∈ TB := TB_t 459 (by decide +kernel) (by decide +kernel)
theorem tw_460 : (Cond.methodLink "AnyOrder$Lengths" (50 : Nat) ({ cls := "AnyOrder$Tables", name := "count", desc := "()I" } : Jvm.MethodName) : Cond) ∈ TB := TB_t 460 (by decide +kernel) (by decide +kernel)
theorem tw_461 : (Cond.methodLink "AnyOrder$Lengths" (62 : Nat) ({ cls := "AnyOrder$Lengths", name := "countWays", desc := "(II)I" } : Jvm.MethodName) : Cond) ∈ TB := TB_t 461 (by decide +kernel) (by decide +kernel)
theorem tw_463 : (Cond.instanceMethod ({ cls := "AnyOrder$Lengths", name := "countWays", desc := "(II)I" } : Jvm.MethodName) : Cond) ∈ TB := TB_t 463 (by decide +kernel) (by decide +kernel)
theorem tw_464 : (Cond.code ({ cls := "AnyOrder$Lengths", name := "countWays", desc := "(II)I" } : Jvm.MethodName) prog_4_method_6_code (5 : Nat) (Option.some Jvm.ClassFile.FieldType.int) : Cond) ∈ TB := TB_t 464 (by decide +kernel) (by decide +kernel)
theorem tw_465 : (Cond.methodLink "AnyOrder$Lengths" (66 : Nat) ({ cls := "AnyOrder$Tables", name := "mayFollow", desc := "(II)Z" } : Jvm.MethodName) : Cond) ∈ TB := TB_t 465 (by decide +kernel) (by decide +kernel)
theorem tw_466 : (Cond.methodLink "AnyOrder" (113 : Nat) ({ cls := "AnyOrder$Lengths", name := "countOf", desc := "(I)I" } : Jvm.MethodName) : Cond) ∈ TB := TB_t 466 (by decide +kernel) (by decide +kernel)
theorem tw_467 : (Cond.methodLink "AnyOrder" (116 : Nat) ({ cls := "AnyOrder$Lengths", name := "surveyOf", desc := "(I)LAnyOrder$Survey;" } : Jvm.MethodName) : Cond) ∈ TB := TB_t 467 (by decide +kernel) (by decide +kernel)
theorem tw_468 : (Cond.instanceMethod ({ cls := "AnyOrder$Lengths", name := "surveyOf", desc := "(I)LAnyOrder$Survey;" } : Jvm.MethodName) : Cond) ∈ TB := TB_t 468 (by decide +kernel) (by decide +kernel)
theorem tw_469 : (Cond.selects "AnyOrder$Lengths" ({ cls := "AnyOrder$Lengths", name := "surveyOf", desc := "(I)LAnyOrder$Survey;" } : Jvm.MethodName) ({ cls := "AnyOrder$Lengths", name := "surveyOf", desc := "(I)LAnyOrder$Survey;" } : Jvm.MethodName) : Cond) ∈ TB := TB_t 469 (by decide +kernel) (by decide +kernel)
theorem tw_470 : (Cond.code ({ cls := "AnyOrder$Lengths", name := "surveyOf", desc := "(I)LAnyOrder$Survey;" } : Jvm.MethodName) prog_4_method_7_code (3 : Nat) (Option.some (Jvm.ClassFile.FieldType.object "AnyOrder$Survey")) : Cond) ∈ TB := TB_t 470 (by decide +kernel) (by decide +kernel)
theorem tw_471 : (Cond.methodLink "AnyOrder$Lengths" (70 : Nat) ({ cls := "AnyOrder$Survey", name := "restart", desc := "()V" } : Jvm.MethodName) : Cond) ∈ TB := TB_t 471 (by decide +kernel) (by decide +kernel)
theorem tw_472 : (Cond.instanceMethod ({ cls := "AnyOrder$Survey", name := "restart", desc := "()V" } : Jvm.MethodName) : Cond) ∈ TB := TB_t 472 (by decide +kernel) (by decide +kernel)
theorem tw_473 : (Cond.selects "AnyOrder$Survey" ({ cls := "AnyOrder$Survey", name := "restart", desc := "()V" } : Jvm.MethodName) ({ cls := "AnyOrder$Survey", name := "restart", desc := "()V" } : Jvm.MethodName) : Cond) ∈ TB := TB_t 473 (by decide +kernel) (by decide +kernel)
theorem tw_474 : (Cond.code ({ cls := "AnyOrder$Survey", name := "restart", desc := "()V" } : Jvm.MethodName) prog_8_method_2_code (1 : Nat) (Option.none : Option Jvm.ClassFile.FieldType) : Cond) ∈ TB := TB_t 474 (by decide +kernel) (by decide +kernel)
theorem tw_475 : (Cond.constantLong "AnyOrder$Survey" (32 : Nat) (-1 : Int64) : Cond) ∈ TB := TB_t 475 (by decide +kernel) (by decide +kernel)
theorem tw_476 : (Cond.constantLong "AnyOrder$Survey" (40 : Nat) (9223372036854775807 : Int64) : Cond) ∈ TB := TB_t 476 (by decide +kernel) (by decide +kernel)
theorem tw_477 : (Cond.methodLink "AnyOrder$Lengths" (73 : Nat) ({ cls := "AnyOrder$Lengths", name := "walk", desc := "(LAnyOrder$Lengths;LAnyOrder$Survey;II)V" } : Jvm.MethodName) : Cond) ∈ TB := TB_t 477 (by decide +kernel) (by decide +kernel)
theorem tw_478 : (Cond.static ({ cls := "AnyOrder$Lengths", name := "walk", desc := "(LAnyOrder$Lengths;LAnyOrder$Survey;II)V" } : Jvm.MethodName) : Cond) ∈ TB := TB_t 478 (by decide +kernel) (by decide +kernel)
theorem tw_479 : (Cond.code ({ cls := "AnyOrder$Lengths", name := "walk", desc := "(LAnyOrder$Lengths;LAnyOrder$Survey;II)V" } : Jvm.MethodName) prog_4_method_8_code (5 : Nat) (Option.none : Option Jvm.ClassFile.FieldType) : Cond) ∈ TB := TB_t 479 (by decide +kernel) (by decide +kernel)
theorem tw_480 : (Cond.methodLink "AnyOrder$Lengths" (77 : Nat) ({ cls := "AnyOrder$Lengths", name := "noteWord", desc := "(LAnyOrder$Survey;I)V" } : Jvm.MethodName) : Cond) ∈ TB := TB_t 480 (by decide +kernel) (by decide +kernel)
theorem tw_482 : (Cond.instanceMethod ({ cls := "AnyOrder$Lengths", name := "noteWord", desc := "(LAnyOrder$Survey;I)V" } : Jvm.MethodName) : Cond) ∈ TB := TB_t 482 (by decide +kernel) (by decide +kernel)
theorem tw_483 : (Cond.code ({ cls := "AnyOrder$Lengths", name := "noteWord", desc := "(LAnyOrder$Survey;I)V" } : Jvm.MethodName) prog_4_method_11_code (6 : Nat) (Option.none : Option Jvm.ClassFile.FieldType) : Cond) ∈ TB := TB_t 483 (by decide +kernel) (by decide +kernel)
theorem tw_484 : (Cond.methodLink "AnyOrder$Lengths" (103 : Nat) ({ cls := "AnyOrder$Tables", name := "norm", desc := "([J)J" } : Jvm.MethodName) : Cond) ∈ TB := TB_t 484 (by decide +kernel) (by decide +kernel)
theorem tw_485 : (Cond.instanceMethod ({ cls := "AnyOrder$Tables", name := "norm", desc := "([J)J" } : Jvm.MethodName) : Cond) ∈ TB := TB_t 485 (by decide +kernel) (by decide +kernel)
theorem tw_486 : (Cond.selects "AnyOrder$Tables" ({ cls := "AnyOrder$Tables", name := "norm", desc := "([J)J" } : Jvm.MethodName) ({ cls := "AnyOrder$Tables", name := "norm", desc := "([J)J" } : Jvm.MethodName) : Cond) ∈ TB := TB_t 486 (by decide +kernel) (by decide +kernel)
theorem tw_487 : (Cond.code ({ cls := "AnyOrder$Tables", name := "norm", desc := "([J)J" } : Jvm.MethodName) prog_10_method_25_code (8 : Nat) (Option.some Jvm.ClassFile.FieldType.long) : Cond) ∈ TB := TB_t 487 (by decide +kernel) (by decide +kernel)
theorem tw_488 : (Cond.methodLink "AnyOrder$Tables" (87 : Nat) ({ cls := "java/lang/Math", name := "abs", desc := "(J)J" } : Jvm.MethodName) : Cond) ∈ TB := TB_t 488 (by decide +kernel) (by decide +kernel)
theorem tw_489 : (Cond.static ({ cls := "java/lang/Math", name := "abs", desc := "(J)J" } : Jvm.MethodName) : Cond) ∈ TB := TB_t 489 (by decide +kernel) (by decide +kernel)
theorem tw_490 : (Cond.code ({ cls := "java/lang/Math", name := "abs", desc := "(J)J" } : Jvm.MethodName) prog_16_method_61_code (2 : Nat) (Option.some Jvm.ClassFile.FieldType.long) : Cond) ∈ TB := TB_t 490 (by decide +kernel) (by decide +kernel)
theorem tw_491 : (Cond.methodLink "AnyOrder$Tables" (92 : Nat) ({ cls := "java/lang/Math", name := "max", desc := "(JJ)J" } : Jvm.MethodName) : Cond) ∈ TB := TB_t 491 (by decide +kernel) (by decide +kernel)
theorem tw_492 : (Cond.static ({ cls := "java/lang/Math", name := "max", desc := "(JJ)J" } : Jvm.MethodName) : Cond) ∈ TB := TB_t 492 (by decide +kernel) (by decide +kernel)
theorem tw_493 : (Cond.code ({ cls := "java/lang/Math", name := "max", desc := "(JJ)J" } : Jvm.MethodName) prog_16_method_66_code (4 : Nat) (Option.some Jvm.ClassFile.FieldType.long) : Cond) ∈ TB := TB_t 493 (by decide +kernel) (by decide +kernel)
theorem tw_494 : (Cond.methodLink "AnyOrder$Lengths" (107 : Nat) ({ cls := "AnyOrder$Survey", name := "noteNorm", desc := "([IIJ)V" } : Jvm.MethodName) : Cond) ∈ TB := TB_t 494 (by decide +kernel) (by decide +kernel)
theorem tw_495 : (Cond.instanceMethod ({ cls := "AnyOrder$Survey", name := "noteNorm", desc := "([IIJ)V" } : Jvm.MethodName) : Cond) ∈ TB := TB_t 495 (by decide +kernel) (by decide +kernel)
theorem tw_496 : (Cond.selects "AnyOrder$Survey" ({ cls := "AnyOrder$Survey", name := "noteNorm", desc := "([IIJ)V" } : Jvm.MethodName) ({ cls := "AnyOrder$Survey", name := "noteNorm", desc := "([IIJ)V" } : Jvm.MethodName) : Cond) ∈ TB := TB_t 496 (by decide +kernel) (by decide +kernel)
theorem tw_497 : (Cond.code ({ cls := "AnyOrder$Survey", name := "noteNorm", desc := "([IIJ)V" } : Jvm.MethodName) prog_8_method_3_code (5 : Nat) (Option.none : Option Jvm.ClassFile.FieldType) : Cond) ∈ TB := TB_t 497 (by decide +kernel) (by decide +kernel)
theorem tw_498 : (Cond.methodLink "AnyOrder$Survey" (51 : Nat) ({ cls := "java/lang/System", name := "arraycopy", desc := "(Ljava/lang/Object;ILjava/lang/Object;II)V" } : Jvm.MethodName) : Cond) ∈ TB := TB_t 498 (by decide +kernel) (by decide +kernel)
theorem tw_499 : (Cond.methodLink "AnyOrder$Lengths" (111 : Nat) ({ cls := "AnyOrder$Tables", name := "isTurnable", desc := "([II)Z" } : Jvm.MethodName) : Cond) ∈ TB := TB_t 499 (by decide +kernel) (by decide +kernel)
theorem tw_500 : (Cond.instanceMethod ({ cls := "AnyOrder$Tables", name := "isTurnable", desc := "([II)Z" } : Jvm.MethodName) : Cond) ∈ TB := TB_t 500 (by decide +kernel) (by decide +kernel)
theorem tw_501 : (Cond.selects "AnyOrder$Tables" ({ cls := "AnyOrder$Tables", name := "isTurnable", desc := "([II)Z" } : Jvm.MethodName) ({ cls := "AnyOrder$Tables", name := "isTurnable", desc := "([II)Z" } : Jvm.MethodName) : Cond) ∈ TB := TB_t 501 (by decide +kernel) (by decide +kernel)
theorem tw_502 : (Cond.code ({ cls := "AnyOrder$Tables", name := "isTurnable", desc := "([II)Z" } : Jvm.MethodName) prog_10_method_21_code (3 : Nat) (Option.some Jvm.ClassFile.FieldType.boolean) : Cond) ∈ TB := TB_t 502 (by decide +kernel) (by decide +kernel)
theorem tw_503 : (Cond.methodLink "AnyOrder$Tables" (73 : Nat) ({ cls := "AnyOrder$Tables", name := "mayFollow", desc := "(II)Z" } : Jvm.MethodName) : Cond) ∈ TB := TB_t 503 (by decide +kernel) (by decide +kernel)
theorem tw_504 : (Cond.methodLink "AnyOrder$Lengths" (115 : Nat) ({ cls := "AnyOrder$Tables", name := "track", desc := "([J)J" } : Jvm.MethodName) : Cond) ∈ TB := TB_t 504 (by decide +kernel) (by decide +kernel)
theorem tw_505 : (Cond.instanceMethod ({ cls := "AnyOrder$Tables", name := "track", desc := "([J)J" } : Jvm.MethodName) : Cond) ∈ TB := TB_t 505 (by decide +kernel) (by decide +kernel)
theorem tw_506 : (Cond.selects "AnyOrder$Tables" ({ cls := "AnyOrder$Tables", name := "track", desc := "([J)J" } : Jvm.MethodName) ({ cls := "AnyOrder$Tables", name := "track", desc := "([J)J" } : Jvm.MethodName) : Cond) ∈ TB := TB_t 506 (by decide +kernel) (by decide +kernel)
theorem tw_507 : (Cond.code ({ cls := "AnyOrder$Tables", name := "track", desc := "([J)J" } : Jvm.MethodName) prog_10_method_26_code (5 : Nat) (Option.some Jvm.ClassFile.FieldType.long) : Cond) ∈ TB := TB_t 507 (by decide +kernel) (by decide +kernel)
theorem tw_508 : (Cond.methodLink "AnyOrder$Lengths" (118 : Nat) ({ cls := "AnyOrder$Survey", name := "noteTurnable", desc := "(J)V" } : Jvm.MethodName) : Cond) ∈ TB := TB_t 508 (by decide +kernel) (by decide +kernel)
theorem tw_509 : (Cond.instanceMethod ({ cls := "AnyOrder$Survey", name := "noteTurnable", desc := "(J)V" } : Jvm.MethodName) : Cond) ∈ TB := TB_t 509 (by decide +kernel) (by decide +kernel)
theorem tw_510 : (Cond.selects "AnyOrder$Survey" ({ cls := "AnyOrder$Survey", name := "noteTurnable", desc := "(J)V" } : Jvm.MethodName) ({ cls := "AnyOrder$Survey", name := "noteTurnable", desc := "(J)V" } : Jvm.MethodName) : Cond) ∈ TB := TB_t 510 (by decide +kernel) (by decide +kernel)
theorem tw_511 : (Cond.code ({ cls := "AnyOrder$Survey", name := "noteTurnable", desc := "(J)V" } : Jvm.MethodName) prog_8_method_4_code (3 : Nat) (Option.none : Option Jvm.ClassFile.FieldType) : Cond) ∈ TB := TB_t 511 (by decide +kernel) (by decide +kernel)
theorem tw_512 : (Cond.methodLink "AnyOrder$Survey" (57 : Nat) ({ cls := "java/lang/Math", name := "abs", desc := "(J)J" } : Jvm.MethodName) : Cond) ∈ TB := TB_t 512 (by decide +kernel) (by decide +kernel)
theorem tw_513 : (Cond.methodLink "AnyOrder$Survey" (63 : Nat) ({ cls := "java/lang/Math", name := "max", desc := "(JJ)J" } : Jvm.MethodName) : Cond) ∈ TB := TB_t 513 (by decide +kernel) (by decide +kernel)
theorem tw_514 : (Cond.methodLink "AnyOrder$Lengths" (122 : Nat) ({ cls := "AnyOrder$Spelling", name := "isAheadOfItsTurns", desc := "([II)Z" } : Jvm.MethodName) : Cond) ∈ TB := TB_t 514 (by decide +kernel) (by decide +kernel)
theorem tw_515 : (Cond.static ({ cls := "AnyOrder$Spelling", name := "isAheadOfItsTurns", desc := "([II)Z" } : Jvm.MethodName) : Cond) ∈ TB := TB_t 515 (by decide +kernel) (by decide +kernel)
theorem tw_516 : (Cond.code ({ cls := "AnyOrder$Spelling", name := "isAheadOfItsTurns", desc := "([II)Z" } : Jvm.MethodName) prog_7_method_4_code (3 : Nat) (Option.some Jvm.ClassFile.FieldType.boolean) : Cond) ∈ TB := TB_t 516 (by decide +kernel) (by decide +kernel)
theorem tw_517 : (Cond.methodLink "AnyOrder$Spelling" (13 : Nat) ({ cls := "AnyOrder$Spelling", name := "isAheadOfTurn", desc := "([III)Z" } : Jvm.MethodName) : Cond) ∈ TB := TB_t 517 (by decide +kernel) (by decide +kernel)
theorem tw_518 : (Cond.static ({ cls := "AnyOrder$Spelling", name := "isAheadOfTurn", desc := "([III)Z" } : Jvm.MethodName) : Cond) ∈ TB := TB_t 518 (by decide +kernel) (by decide +kernel)
theorem tw_519 : (Cond.code ({ cls := "AnyOrder$Spelling", name := "isAheadOfTurn", desc := "([III)Z" } : Jvm.MethodName) prog_7_method_5_code (5 : Nat) (Option.some Jvm.ClassFile.FieldType.boolean) : Cond) ∈ TB := TB_t 519 (by decide +kernel) (by decide +kernel)
theorem tw_520 : (Cond.methodLink "AnyOrder$Lengths" (127 : Nat) ({ cls := "AnyOrder$Survey", name := "noteRing", desc := "([IIJ)V" } : Jvm.MethodName) : Cond) ∈ TB := TB_t 520 (by decide +kernel) (by decide +kernel)
theorem tw_521 : (Cond.instanceMethod ({ cls := "AnyOrder$Survey", name := "noteRing", desc := "([IIJ)V" } : Jvm.MethodName) : Cond) ∈ TB := TB_t 521 (by decide +kernel) (by decide +kernel)
theorem tw_522 : (Cond.selects "AnyOrder$Survey" ({ cls := "AnyOrder$Survey", name := "noteRing", desc := "([IIJ)V" } : Jvm.MethodName) ({ cls := "AnyOrder$Survey", name := "noteRing", desc := "([IIJ)V" } : Jvm.MethodName) : Cond) ∈ TB := TB_t 522 (by decide +kernel) (by decide +kernel)
theorem tw_523 : (Cond.code ({ cls := "AnyOrder$Survey", name := "noteRing", desc := "([IIJ)V" } : Jvm.MethodName) prog_8_method_5_code (5 : Nat) (Option.none : Option Jvm.ClassFile.FieldType) : Cond) ∈ TB := TB_t 523 (by decide +kernel) (by decide +kernel)
theorem tw_524 : (Cond.methodLink "AnyOrder$Lengths" (81 : Nat) ({ cls := "AnyOrder$Lengths", name := "leadsOn", desc := "(III)Z" } : Jvm.MethodName) : Cond) ∈ TB := TB_t 524 (by decide +kernel) (by decide +kernel)
theorem tw_526 : (Cond.instanceMethod ({ cls := "AnyOrder$Lengths", name := "leadsOn", desc := "(III)Z" } : Jvm.MethodName) : Cond) ∈ TB := TB_t 526 (by decide +kernel) (by decide +kernel)
theorem tw_527 : (Cond.code ({ cls := "AnyOrder$Lengths", name := "leadsOn", desc := "(III)Z" } : Jvm.MethodName) prog_4_method_9_code (4 : Nat) (Option.some Jvm.ClassFile.FieldType.boolean) : Cond) ∈ TB := TB_t 527 (by decide +kernel) (by decide +kernel)
theorem tw_528 : (Cond.methodLink "AnyOrder$Lengths" (85 : Nat) ({ cls := "AnyOrder$Lengths", name := "extendPrefix", desc := "(II)V" } : Jvm.MethodName) : Cond) ∈ TB := TB_t 528 (by decide +kernel) (by decide +kernel)
theorem tw_530 : (Cond.instanceMethod ({ cls := "AnyOrder$Lengths", name := "extendPrefix", desc := "(II)V" } : Jvm.MethodName) : Cond) ∈ TB := TB_t 530 (by decide +kernel) (by decide +kernel)
theorem tw_531 : (Cond.code ({ cls := "AnyOrder$Lengths", name := "extendPrefix", desc := "(II)V" } : Jvm.MethodName) prog_4_method_10_code (3 : Nat) (Option.none : Option Jvm.ClassFile.FieldType) : Cond) ∈ TB := TB_t 531 (by decide +kernel) (by decide +kernel)
theorem tw_532 : (Cond.methodLink "AnyOrder$Lengths" (89 : Nat) ({ cls := "AnyOrder$Tables", name := "rowOf", desc := "(I)[J" } : Jvm.MethodName) : Cond) ∈ TB := TB_t 532 (by decide +kernel) (by decide +kernel)
theorem tw_533 : (Cond.instanceMethod ({ cls := "AnyOrder$Tables", name := "rowOf", desc := "(I)[J" } : Jvm.MethodName) : Cond) ∈ TB := TB_t 533 (by decide +kernel) (by decide +kernel)
theorem tw_534 : (Cond.selects "AnyOrder$Tables" ({ cls := "AnyOrder$Tables", name := "rowOf", desc := "(I)[J" } : Jvm.MethodName) ({ cls := "AnyOrder$Tables", name := "rowOf", desc := "(I)[J" } : Jvm.MethodName) : Cond) ∈ TB := TB_t 534 (by decide +kernel) (by decide +kernel)
theorem tw_535 : (Cond.code ({ cls := "AnyOrder$Tables", name := "rowOf", desc := "(I)[J" } : Jvm.MethodName) prog_10_method_10_code (2 : Nat) (Option.some (Jvm.ClassFile.FieldType.array Jvm.ClassFile.FieldType.long)) : Cond) ∈ TB := TB_t 535 (by decide +kernel) (by decide +kernel)
theorem tw_536 : (Cond.methodLink "AnyOrder$Lengths" (93 : Nat) ({ cls := "java/lang/System", name := "arraycopy", desc := "(Ljava/lang/Object;ILjava/lang/Object;II)V" } : Jvm.MethodName) : Cond) ∈ TB := TB_t 536 (by decide +kernel) (by decide +kernel)
theorem tw_537 : (Cond.methodLink "AnyOrder$Lengths" (99 : Nat) ({ cls := "AnyOrder$Tables", name := "multiply", desc := "([J[J[J)V" } : Jvm.MethodName) : Cond) ∈ TB := TB_t 537 (by decide +kernel) (by decide +kernel)
theorem tw_538 : (Cond.instanceMethod ({ cls := "AnyOrder$Tables", name := "multiply", desc := "([J[J[J)V" } : Jvm.MethodName) : Cond) ∈ TB := TB_t 538 (by decide +kernel) (by decide +kernel)
theorem tw_539 : (Cond.selects "AnyOrder$Tables" ({ cls := "AnyOrder$Tables", name := "multiply", desc := "([J[J[J)V" } : Jvm.MethodName) ({ cls := "AnyOrder$Tables", name := "multiply", desc := "([J[J[J)V" } : Jvm.MethodName) : Cond) ∈ TB := TB_t 539 (by decide +kernel) (by decide +kernel)
theorem tw_540 : (Cond.code ({ cls := "AnyOrder$Tables", name := "multiply", desc := "([J[J[J)V" } : Jvm.MethodName) prog_10_method_23_code (9 : Nat) (Option.none : Option Jvm.ClassFile.FieldType) : Cond) ∈ TB := TB_t 540 (by decide +kernel) (by decide +kernel)
theorem tw_541 : (Cond.methodLink "AnyOrderLaw" (38 : Nat) ({ cls := "AnyOrder", name := "extreme", desc := "(III)I" } : Jvm.MethodName) : Cond) ∈ TB := TB_t 541 (by decide +kernel) (by decide +kernel)
theorem tw_542 : (Cond.instanceMethod ({ cls := "AnyOrder", name := "extreme", desc := "(III)I" } : Jvm.MethodName) : Cond) ∈ TB := TB_t 542 (by decide +kernel) (by decide +kernel)
theorem tw_543 : (Cond.selects "AnyOrder" ({ cls := "AnyOrder", name := "extreme", desc := "(III)I" } : Jvm.MethodName) ({ cls := "AnyOrder", name := "extreme", desc := "(III)I" } : Jvm.MethodName) : Cond) ∈ TB := TB_t 543 (by decide +kernel) (by decide +kernel)
theorem tw_544 : (Cond.code ({ cls := "AnyOrder", name := "extreme", desc := "(III)I" } : Jvm.MethodName) prog_1_method_7_code (5 : Nat) (Option.some Jvm.ClassFile.FieldType.int) : Cond) ∈ TB := TB_t 544 (by decide +kernel) (by decide +kernel)
theorem tw_545 : (Cond.methodLink "AnyOrderLaw" (42 : Nat) ({ cls := "AnyOrder", name := "rings", desc := "(I)I" } : Jvm.MethodName) : Cond) ∈ TB := TB_t 545 (by decide +kernel) (by decide +kernel)
theorem tw_546 : (Cond.instanceMethod ({ cls := "AnyOrder", name := "rings", desc := "(I)I" } : Jvm.MethodName) : Cond) ∈ TB := TB_t 546 (by decide +kernel) (by decide +kernel)
theorem tw_547 : (Cond.selects "AnyOrder" ({ cls := "AnyOrder", name := "rings", desc := "(I)I" } : Jvm.MethodName) ({ cls := "AnyOrder", name := "rings", desc := "(I)I" } : Jvm.MethodName) : Cond) ∈ TB := TB_t 547 (by decide +kernel) (by decide +kernel)
theorem tw_548 : (Cond.code ({ cls := "AnyOrder", name := "rings", desc := "(I)I" } : Jvm.MethodName) prog_1_method_8_code (2 : Nat) (Option.some Jvm.ClassFile.FieldType.int) : Cond) ∈ TB := TB_t 548 (by decide +kernel) (by decide +kernel)
theorem tw_549 : (Cond.methodLink "AnyOrderLaw" (47 : Nat) ({ cls := "AnyOrder", name := "ringTrack", desc := "(I)J" } : Jvm.MethodName) : Cond) ∈ TB := TB_t 549 (by decide +kernel) (by decide +kernel)
theorem tw_550 : (Cond.instanceMethod ({ cls := "AnyOrder", name := "ringTrack", desc := "(I)J" } : Jvm.MethodName) : Cond) ∈ TB := TB_t 550 (by decide +kernel) (by decide +kernel)
theorem tw_551 : (Cond.selects "AnyOrder" ({ cls := "AnyOrder", name := "ringTrack", desc := "(I)J" } : Jvm.MethodName) ({ cls := "AnyOrder", name := "ringTrack", desc := "(I)J" } : Jvm.MethodName) : Cond) ∈ TB := TB_t 551 (by decide +kernel) (by decide +kernel)
theorem tw_552 : (Cond.code ({ cls := "AnyOrder", name := "ringTrack", desc := "(I)J" } : Jvm.MethodName) prog_1_method_9_code (3 : Nat) (Option.some Jvm.ClassFile.FieldType.long) : Cond) ∈ TB := TB_t 552 (by decide +kernel) (by decide +kernel)
theorem tw_553 : (Cond.methodLink "AnyOrderLaw" (52 : Nat) ({ cls := "AnyOrder", name := "ring", desc := "(II)I" } : Jvm.MethodName) : Cond) ∈ TB := TB_t 553 (by decide +kernel) (by decide +kernel)
theorem tw_554 : (Cond.instanceMethod ({ cls := "AnyOrder", name := "ring", desc := "(II)I" } : Jvm.MethodName) : Cond) ∈ TB := TB_t 554 (by decide +kernel) (by decide +kernel)
theorem tw_555 : (Cond.selects "AnyOrder" ({ cls := "AnyOrder", name := "ring", desc := "(II)I" } : Jvm.MethodName) ({ cls := "AnyOrder", name := "ring", desc := "(II)I" } : Jvm.MethodName) : Cond) ∈ TB := TB_t 555 (by decide +kernel) (by decide +kernel)
theorem tw_556 : (Cond.code ({ cls := "AnyOrder", name := "ring", desc := "(II)I" } : Jvm.MethodName) prog_1_method_10_code (4 : Nat) (Option.some Jvm.ClassFile.FieldType.int) : Cond) ∈ TB := TB_t 556 (by decide +kernel) (by decide +kernel)
theorem tw_557 : (Cond.methodLink "AnyOrderLaw" (56 : Nat) ({ cls := "AnyOrder", name := "growth", desc := "(III)I" } : Jvm.MethodName) : Cond) ∈ TB := TB_t 557 (by decide +kernel) (by decide +kernel)
theorem tw_558 : (Cond.instanceMethod ({ cls := "AnyOrder", name := "growth", desc := "(III)I" } : Jvm.MethodName) : Cond) ∈ TB := TB_t 558 (by decide +kernel) (by decide +kernel)
theorem tw_559 : (Cond.selects "AnyOrder" ({ cls := "AnyOrder", name := "growth", desc := "(III)I" } : Jvm.MethodName) ({ cls := "AnyOrder", name := "growth", desc := "(III)I" } : Jvm.MethodName) : Cond) ∈ TB := TB_t 559 (by decide +kernel) (by decide +kernel)
theorem tw_560 : (Cond.code ({ cls := "AnyOrder", name := "growth", desc := "(III)I" } : Jvm.MethodName) prog_1_method_11_code (5 : Nat) (Option.some Jvm.ClassFile.FieldType.int) : Cond) ∈ TB := TB_t 560 (by decide +kernel) (by decide +kernel)
theorem tw_561 : (Cond.methodLink "AnyOrder" (147 : Nat) ({ cls := "AnyOrder$Tables", name := "modulus", desc := "()I" } : Jvm.MethodName) : Cond) ∈ TB := TB_t 561 (by decide +kernel) (by decide +kernel)
theorem tw_562 : (Cond.instanceMethod ({ cls := "AnyOrder$Tables", name := "modulus", desc := "()I" } : Jvm.MethodName) : Cond) ∈ TB := TB_t 562 (by decide +kernel) (by decide +kernel)
theorem tw_563 : (Cond.selects "AnyOrder$Tables" ({ cls := "AnyOrder$Tables", name := "modulus", desc := "()I" } : Jvm.MethodName) ({ cls := "AnyOrder$Tables", name := "modulus", desc := "()I" } : Jvm.MethodName) : Cond) ∈ TB := TB_t 563 (by decide +kernel) (by decide +kernel)
theorem tw_564 : (Cond.code ({ cls := "AnyOrder$Tables", name := "modulus", desc := "()I" } : Jvm.MethodName) prog_10_method_6_code (1 : Nat) (Option.some Jvm.ClassFile.FieldType.int) : Cond) ∈ TB := TB_t 564 (by decide +kernel) (by decide +kernel)
theorem tw_565 : (Cond.methodLink "AnyOrder" (154 : Nat) ({ cls := "AnyOrder$Lengths", name := "compareGrowth", desc := "(III)I" } : Jvm.MethodName) : Cond) ∈ TB := TB_t 565 (by decide +kernel) (by decide +kernel)
theorem tw_566 : (Cond.instanceMethod ({ cls := "AnyOrder$Lengths", name := "compareGrowth", desc := "(III)I" } : Jvm.MethodName) : Cond) ∈ TB := TB_t 566 (by decide +kernel) (by decide +kernel)
theorem tw_567 : (Cond.selects "AnyOrder$Lengths" ({ cls := "AnyOrder$Lengths", name := "compareGrowth", desc := "(III)I" } : Jvm.MethodName) ({ cls := "AnyOrder$Lengths", name := "compareGrowth", desc := "(III)I" } : Jvm.MethodName) : Cond) ∈ TB := TB_t 567 (by decide +kernel) (by decide +kernel)
theorem tw_568 : (Cond.code ({ cls := "AnyOrder$Lengths", name := "compareGrowth", desc := "(III)I" } : Jvm.MethodName) prog_4_method_12_code (11 : Nat) (Option.some Jvm.ClassFile.FieldType.int) : Cond) ∈ TB := TB_t 568 (by decide +kernel) (by decide +kernel)
theorem tw_569 : (Cond.methodLink "AnyOrder$Lengths" (130 : Nat) ({ cls := "AnyOrder$Lengths", name := "surveyOf", desc := "(I)LAnyOrder$Survey;" } : Jvm.MethodName) : Cond) ∈ TB := TB_t 569 (by decide +kernel) (by decide +kernel)
theorem tw_570 : (Cond.methodLink "AnyOrder$Lengths" (138 : Nat) ({ cls := "AnyOrder$Tables", name := "dimension", desc := "()I" } : Jvm.MethodName) : Cond) ∈ TB := TB_t 570 (by decide +kernel) (by decide +kernel)
theorem tw_571 : (Cond.instanceMethod ({ cls := "AnyOrder$Tables", name := "dimension", desc := "()I" } : Jvm.MethodName) : Cond) ∈ TB := TB_t 571 (by decide +kernel) (by decide +kernel)
theorem tw_572 : (Cond.selects "AnyOrder$Tables" ({ cls := "AnyOrder$Tables", name := "dimension", desc := "()I" } : Jvm.MethodName) ({ cls := "AnyOrder$Tables", name := "dimension", desc := "()I" } : Jvm.MethodName) : Cond) ∈ TB := TB_t 572 (by decide +kernel) (by decide +kernel)
theorem tw_573 : (Cond.code ({ cls := "AnyOrder$Tables", name := "dimension", desc := "()I" } : Jvm.MethodName) prog_10_method_5_code (1 : Nat) (Option.some Jvm.ClassFile.FieldType.int) : Cond) ∈ TB := TB_t 573 (by decide +kernel) (by decide +kernel)
theorem tw_574 : (Cond.methodLink "AnyOrderLaw" (60 : Nat) ({ cls := "AnyOrder", name := "close", desc := "()I" } : Jvm.MethodName) : Cond) ∈ TB := TB_t 574 (by decide +kernel) (by decide +kernel)
theorem tw_575 : (Cond.instanceMethod ({ cls := "AnyOrder", name := "close", desc := "()I" } : Jvm.MethodName) : Cond) ∈ TB := TB_t 575 (by decide +kernel) (by decide +kernel)
theorem tw_576 : (Cond.selects "AnyOrder" ({ cls := "AnyOrder", name := "close", desc := "()I" } : Jvm.MethodName) ({ cls := "AnyOrder", name := "close", desc := "()I" } : Jvm.MethodName) : Cond) ∈ TB := TB_t 576 (by decide +kernel) (by decide +kernel)
theorem tw_577 : (Cond.code ({ cls := "AnyOrder", name := "close", desc := "()I" } : Jvm.MethodName) prog_1_method_12_code (1 : Nat) (Option.some Jvm.ClassFile.FieldType.int) : Cond) ∈ TB := TB_t 577 (by decide +kernel) (by decide +kernel)
theorem tw_578 : (Cond.methodLink "AnyOrder" (157 : Nat) ({ cls := "AnyOrder$Closure", name := "search", desc := "()I" } : Jvm.MethodName) : Cond) ∈ TB := TB_t 578 (by decide +kernel) (by decide +kernel)
theorem tw_579 : (Cond.instanceMethod ({ cls := "AnyOrder$Closure", name := "search", desc := "()I" } : Jvm.MethodName) : Cond) ∈ TB := TB_t 579 (by decide +kernel) (by decide +kernel)
theorem tw_580 : (Cond.selects "AnyOrder$Closure" ({ cls := "AnyOrder$Closure", name := "search", desc := "()I" } : Jvm.MethodName) ({ cls := "AnyOrder$Closure", name := "search", desc := "()I" } : Jvm.MethodName) : Cond) ∈ TB := TB_t 580 (by decide +kernel) (by decide +kernel)
theorem tw_581 : (Cond.code ({ cls := "AnyOrder$Closure", name := "search", desc := "()I" } : Jvm.MethodName) prog_2_method_5_code (1 : Nat) (Option.some Jvm.ClassFile.FieldType.int) : Cond) ∈ TB := TB_t 581 (by decide +kernel) (by decide +kernel)
theorem tw_582 : (Cond.methodLink "AnyOrder$Closure" (36 : Nat) ({ cls := "AnyOrder$Closure", name := "findAll", desc := "()Z" } : Jvm.MethodName) : Cond) ∈ TB := TB_t 582 (by decide +kernel) (by decide +kernel)
theorem tw_584 : (Cond.instanceMethod ({ cls := "AnyOrder$Closure", name := "findAll", desc := "()Z" } : Jvm.MethodName) : Cond) ∈ TB := TB_t 584 (by decide +kernel) (by decide +kernel)
theorem tw_585 : (Cond.code ({ cls := "AnyOrder$Closure", name := "findAll", desc := "()Z" } : Jvm.MethodName) prog_2_method_9_code (2 : Nat) (Option.some Jvm.ClassFile.FieldType.boolean) : Cond) ∈ TB := TB_t 585 (by decide +kernel) (by decide +kernel)
theorem tw_586 : (Cond.methodLink "AnyOrder$Closure" (57 : Nat) ({ cls := "AnyOrder$Closure", name := "prepareRows", desc := "()V" } : Jvm.MethodName) : Cond) ∈ TB := TB_t 586 (by decide +kernel) (by decide +kernel)
theorem tw_588 : (Cond.instanceMethod ({ cls := "AnyOrder$Closure", name := "prepareRows", desc := "()V" } : Jvm.MethodName) : Cond) ∈ TB := TB_t 588 (by decide +kernel) (by decide +kernel)
theorem tw_589 : (Cond.code ({ cls := "AnyOrder$Closure", name := "prepareRows", desc := "()V" } : Jvm.MethodName) prog_2_method_10_code (1 : Nat) (Option.none : Option Jvm.ClassFile.FieldType) : Cond) ∈ TB := TB_t 589 (by decide +kernel) (by decide +kernel)
theorem tw_590 : (Cond.methodLink "AnyOrder$Closure" (80 : Nat) ({ cls := "java/util/Arrays", name := "fill", desc := "([II)V" } : Jvm.MethodName) : Cond) ∈ TB := TB_t 590 (by decide +kernel) (by decide +kernel)
theorem tw_591 : (Cond.methodLink "AnyOrder$Closure" (86 : Nat) ({ cls := "AnyOrder$Tables", name := "cellCount", desc := "()I" } : Jvm.MethodName) : Cond) ∈ TB := TB_t 591 (by decide +kernel) (by decide +kernel)
theorem tw_592 : (Cond.methodLink "AnyOrder$Closure" (60 : Nat) ({ cls := "AnyOrder$Tables", name := "count", desc := "()I" } : Jvm.MethodName) : Cond) ∈ TB := TB_t 592 (by decide +kernel) (by decide +kernel)
theorem tw_593 : (Cond.methodLink "AnyOrder$Closure" (65 : Nat) ({ cls := "AnyOrder$Tables", name := "rowOf", desc := "(I)[J" } : Jvm.MethodName) : Cond) ∈ TB := TB_t 593 (by decide +kernel) (by decide +kernel)
theorem tw_594 : (Cond.methodLink "AnyOrder$Closure" (69 : Nat) ({ cls := "AnyOrder$Closure", name := "take", desc := "([JI)Z" } : Jvm.MethodName) : Cond) ∈ TB := TB_t 594 (by decide +kernel) (by decide +kernel)
theorem tw_596 : (Cond.instanceMethod ({ cls := "AnyOrder$Closure", name := "take", desc := "([JI)Z" } : Jvm.MethodName) : Cond) ∈ TB := TB_t 596 (by decide +kernel) (by decide +kernel)
theorem tw_597 : (Cond.code ({ cls := "AnyOrder$Closure", name := "take", desc := "([JI)Z" } : Jvm.MethodName) prog_2_method_12_code (4 : Nat) (Option.some Jvm.ClassFile.FieldType.boolean) : Cond) ∈ TB := TB_t 597 (by decide +kernel) (by decide +kernel)
theorem tw_598 : (Cond.methodLink "AnyOrder$Closure" (99 : Nat) ({ cls := "AnyOrder$Closure", name := "isBeyond", desc := "([J)Z" } : Jvm.MethodName) : Cond) ∈ TB := TB_t 598 (by decide +kernel) (by decide +kernel)
theorem tw_600 : (Cond.instanceMethod ({ cls := "AnyOrder$Closure", name := "isBeyond", desc := "([J)Z" } : Jvm.MethodName) : Cond) ∈ TB := TB_t 600 (by decide +kernel) (by decide +kernel)
theorem tw_601 : (Cond.code ({ cls := "AnyOrder$Closure", name := "isBeyond", desc := "([J)Z" } : Jvm.MethodName) prog_2_method_13_code (3 : Nat) (Option.some Jvm.ClassFile.FieldType.boolean) : Cond) ∈ TB := TB_t 601 (by decide +kernel) (by decide +kernel)
theorem tw_602 : (Cond.methodLink "AnyOrder$Closure" (109 : Nat) ({ cls := "java/lang/Math", name := "abs", desc := "(J)J" } : Jvm.MethodName) : Cond) ∈ TB := TB_t 602 (by decide +kernel) (by decide +kernel)
theorem tw_603 : (Cond.constantLong "AnyOrder$Closure" (115 : Nat) (1000000 : Int64) : Cond) ∈ TB := TB_t 603 (by decide +kernel) (by decide +kernel)
theorem tw_604 : (Cond.methodLink "AnyOrder$Closure" (50 : Nat) ({ cls := "AnyOrder$Closure", name := "slotOf", desc := "([J)I" } : Jvm.MethodName) : Cond) ∈ TB := TB_t 604 (by decide +kernel) (by decide +kernel)
theorem tw_606 : (Cond.instanceMethod ({ cls := "AnyOrder$Closure", name := "slotOf", desc := "([J)I" } : Jvm.MethodName) : Cond) ∈ TB := TB_t 606 (by decide +kernel) (by decide +kernel)
theorem tw_607 : (Cond.code ({ cls := "AnyOrder$Closure", name := "slotOf", desc := "([J)I" } : Jvm.MethodName) prog_2_method_14_code (4 : Nat) (Option.some Jvm.ClassFile.FieldType.int) : Cond) ∈ TB := TB_t 607 (by decide +kernel) (by decide +kernel)
theorem tw_608 : (Cond.methodLink "AnyOrder$Closure" (117 : Nat) ({ cls := "AnyOrder$Closure", name := "firstSlotOf", desc := "([J)I" } : Jvm.MethodName) : Cond) ∈ TB := TB_t 608 (by decide +kernel) (by decide +kernel)
theorem tw_610 : (Cond.instanceMethod ({ cls := "AnyOrder$Closure", name := "firstSlotOf", desc := "([J)I" } : Jvm.MethodName) : Cond) ∈ TB := TB_t 610 (by decide +kernel) (by decide +kernel)
theorem tw_611 : (Cond.code ({ cls := "AnyOrder$Closure", name := "firstSlotOf", desc := "([J)I" } : Jvm.MethodName) prog_2_method_15_code (4 : Nat) (Option.some Jvm.ClassFile.FieldType.int) : Cond) ∈ TB := TB_t 611 (by decide +kernel) (by decide +kernel)
theorem tw_612 : (Cond.constant "AnyOrder$Closure" (124 : Nat) (1000003 : Int32) : Cond) ∈ TB := TB_t 612 (by decide +kernel) (by decide +kernel)
theorem tw_613 : (Cond.methodLink "AnyOrder$Closure" (120 : Nat) ({ cls := "AnyOrder$Closure", name := "isSame", desc := "(I[J)Z" } : Jvm.MethodName) : Cond) ∈ TB := TB_t 613 (by decide +kernel) (by decide +kernel)
theorem tw_615 : (Cond.instanceMethod ({ cls := "AnyOrder$Closure", name := "isSame", desc := "(I[J)Z" } : Jvm.MethodName) : Cond) ∈ TB := TB_t 615 (by decide +kernel) (by decide +kernel)
theorem tw_616 : (Cond.code ({ cls := "AnyOrder$Closure", name := "isSame", desc := "(I[J)Z" } : Jvm.MethodName) prog_2_method_16_code (4 : Nat) (Option.some Jvm.ClassFile.FieldType.boolean) : Cond) ∈ TB := TB_t 616 (by decide +kernel) (by decide +kernel)
theorem tw_617 : (Cond.methodLink "AnyOrder$Closure" (103 : Nat) ({ cls := "java/lang/System", name := "arraycopy", desc := "(Ljava/lang/Object;ILjava/lang/Object;II)V" } : Jvm.MethodName) : Cond) ∈ TB := TB_t 617 (by decide +kernel) (by decide +kernel)
theorem tw_618 : (Cond.methodLink "AnyOrder$Closure" (73 : Nat) ({ cls := "AnyOrder$Closure", name := "extendByLetters", desc := "(I)Z" } : Jvm.MethodName) : Cond) ∈ TB := TB_t 618 (by decide +kernel) (by decide +kernel)
theorem tw_620 : (Cond.instanceMethod ({ cls := "AnyOrder$Closure", name := "extendByLetters", desc := "(I)Z" } : Jvm.MethodName) : Cond) ∈ TB := TB_t 620 (by decide +kernel) (by decide +kernel)
theorem tw_621 : (Cond.code ({ cls := "AnyOrder$Closure", name := "extendByLetters", desc := "(I)Z" } : Jvm.MethodName) prog_2_method_11_code (3 : Nat) (Option.some Jvm.ClassFile.FieldType.boolean) : Cond) ∈ TB := TB_t 621 (by decide +kernel) (by decide +kernel)
theorem tw_622 : (Cond.methodLink "AnyOrder$Closure" (91 : Nat) ({ cls := "AnyOrder$Closure", name := "load", desc := "(I[J)V" } : Jvm.MethodName) : Cond) ∈ TB := TB_t 622 (by decide +kernel) (by decide +kernel)
theorem tw_624 : (Cond.instanceMethod ({ cls := "AnyOrder$Closure", name := "load", desc := "(I[J)V" } : Jvm.MethodName) : Cond) ∈ TB := TB_t 624 (by decide +kernel) (by decide +kernel)
theorem tw_625 : (Cond.code ({ cls := "AnyOrder$Closure", name := "load", desc := "(I[J)V" } : Jvm.MethodName) prog_2_method_17_code (3 : Nat) (Option.none : Option Jvm.ClassFile.FieldType) : Cond) ∈ TB := TB_t 625 (by decide +kernel) (by decide +kernel)
theorem tw_626 : (Cond.methodLink "AnyOrder$Closure" (95 : Nat) ({ cls := "AnyOrder$Tables", name := "multiply", desc := "([J[J[J)V" } : Jvm.MethodName) : Cond) ∈ TB := TB_t 626 (by decide +kernel) (by decide +kernel)
theorem tw_627 : (Cond.methodLink "AnyOrder$Closure" (77 : Nat) ({ cls := "AnyOrder$Closure", name := "sumUp", desc := "()V" } : Jvm.MethodName) : Cond) ∈ TB := TB_t 627 (by decide +kernel) (by decide +kernel)
theorem tw_629 : (Cond.instanceMethod ({ cls := "AnyOrder$Closure", name := "sumUp", desc := "()V" } : Jvm.MethodName) : Cond) ∈ TB := TB_t 629 (by decide +kernel) (by decide +kernel)
theorem tw_630 : (Cond.code ({ cls := "AnyOrder$Closure", name := "sumUp", desc := "()V" } : Jvm.MethodName) prog_2_method_19_code (2 : Nat) (Option.none : Option Jvm.ClassFile.FieldType) : Cond) ∈ TB := TB_t 630 (by decide +kernel) (by decide +kernel)
theorem tw_631 : (Cond.methodLink "AnyOrder$Closure" (46 : Nat) ({ cls := "AnyOrder$Closure", name := "multiplyNumbered", desc := "(II)V" } : Jvm.MethodName) : Cond) ∈ TB := TB_t 631 (by decide +kernel) (by decide +kernel)
theorem tw_633 : (Cond.instanceMethod ({ cls := "AnyOrder$Closure", name := "multiplyNumbered", desc := "(II)V" } : Jvm.MethodName) : Cond) ∈ TB := TB_t 633 (by decide +kernel) (by decide +kernel)
theorem tw_634 : (Cond.code ({ cls := "AnyOrder$Closure", name := "multiplyNumbered", desc := "(II)V" } : Jvm.MethodName) prog_2_method_18_code (3 : Nat) (Option.none : Option Jvm.ClassFile.FieldType) : Cond) ∈ TB := TB_t 634 (by decide +kernel) (by decide +kernel)
theorem tw_635 : (Cond.methodLink "AnyOrder$Closure" (135 : Nat) ({ cls := "AnyOrder$Tables", name := "isUnit", desc := "([J)Z" } : Jvm.MethodName) : Cond) ∈ TB := TB_t 635 (by decide +kernel) (by decide +kernel)
theorem tw_636 : (Cond.instanceMethod ({ cls := "AnyOrder$Tables", name := "isUnit", desc := "([J)Z" } : Jvm.MethodName) : Cond) ∈ TB := TB_t 636 (by decide +kernel) (by decide +kernel)
theorem tw_637 : (Cond.selects "AnyOrder$Tables" ({ cls := "AnyOrder$Tables", name := "isUnit", desc := "([J)Z" } : Jvm.MethodName) ({ cls := "AnyOrder$Tables", name := "isUnit", desc := "([J)Z" } : Jvm.MethodName) : Cond) ∈ TB := TB_t 637 (by decide +kernel) (by decide +kernel)
theorem tw_638 : (Cond.code ({ cls := "AnyOrder$Tables", name := "isUnit", desc := "([J)Z" } : Jvm.MethodName) prog_10_method_27_code (4 : Nat) (Option.some Jvm.ClassFile.FieldType.boolean) : Cond) ∈ TB := TB_t 638 (by decide +kernel) (by decide +kernel)
theorem tw_639 : (Cond.methodLink "AnyOrder$Closure" (138 : Nat) ({ cls := "AnyOrder$Tables", name := "norm", desc := "([J)J" } : Jvm.MethodName) : Cond) ∈ TB := TB_t 639 (by decide +kernel) (by decide +kernel)
theorem tw_640 : (Cond.methodLink "AnyOrderLaw" (65 : Nat) ({ cls := "AnyOrder", name := "closed", desc := "(I)I" } : Jvm.MethodName) : Cond) ∈ TB := TB_t 640 (by decide +kernel) (by decide +kernel)
theorem tw_641 : (Cond.instanceMethod ({ cls := "AnyOrder", name := "closed", desc := "(I)I" } : Jvm.MethodName) : Cond) ∈ TB := TB_t 641 (by decide +kernel) (by decide +kernel)
theorem tw_642 : (Cond.selects "AnyOrder" ({ cls := "AnyOrder", name := "closed", desc := "(I)I" } : Jvm.MethodName) ({ cls := "AnyOrder", name := "closed", desc := "(I)I" } : Jvm.MethodName) : Cond) ∈ TB := TB_t 642 (by decide +kernel) (by decide +kernel)
theorem tw_643 : (Cond.code ({ cls := "AnyOrder", name := "closed", desc := "(I)I" } : Jvm.MethodName) prog_1_method_13_code (2 : Nat) (Option.some Jvm.ClassFile.FieldType.int) : Cond) ∈ TB := TB_t 643 (by decide +kernel) (by decide +kernel)
theorem tw_644 : (Cond.methodLink "AnyOrder" (160 : Nat) ({ cls := "AnyOrder$Closure", name := "isFound", desc := "()Z" } : Jvm.MethodName) : Cond) ∈ TB := TB_t 644 (by decide +kernel) (by decide +kernel)
theorem tw_645 : (Cond.instanceMethod ({ cls := "AnyOrder$Closure", name := "isFound", desc := "()Z" } : Jvm.MethodName) : Cond) ∈ TB := TB_t 645 (by decide +kernel) (by decide +kernel)
theorem tw_646 : (Cond.selects "AnyOrder$Closure" ({ cls := "AnyOrder$Closure", name := "isFound", desc := "()Z" } : Jvm.MethodName) ({ cls := "AnyOrder$Closure", name := "isFound", desc := "()Z" } : Jvm.MethodName) : Cond) ∈ TB := TB_t 646 (by decide +kernel) (by decide +kernel)
theorem tw_647 : (Cond.code ({ cls := "AnyOrder$Closure", name := "isFound", desc := "()Z" } : Jvm.MethodName) prog_2_method_3_code (1 : Nat) (Option.some Jvm.ClassFile.FieldType.boolean) : Cond) ∈ TB := TB_t 647 (by decide +kernel) (by decide +kernel)
theorem tw_648 : (Cond.methodLink "AnyOrder" (176 : Nat) ({ cls := "AnyOrder$Closure", name := "lastWordLength", desc := "()I" } : Jvm.MethodName) : Cond) ∈ TB := TB_t 648 (by decide +kernel) (by decide +kernel)
theorem tw_649 : (Cond.instanceMethod ({ cls := "AnyOrder$Closure", name := "lastWordLength", desc := "()I" } : Jvm.MethodName) : Cond) ∈ TB := TB_t 649 (by decide +kernel) (by decide +kernel)
theorem tw_650 : (Cond.selects "AnyOrder$Closure" ({ cls := "AnyOrder$Closure", name := "lastWordLength", desc := "()I" } : Jvm.MethodName) ({ cls := "AnyOrder$Closure", name := "lastWordLength", desc := "()I" } : Jvm.MethodName) : Cond) ∈ TB := TB_t 650 (by decide +kernel) (by decide +kernel)
theorem tw_651 : (Cond.code ({ cls := "AnyOrder$Closure", name := "lastWordLength", desc := "()I" } : Jvm.MethodName) prog_2_method_7_code (1 : Nat) (Option.some Jvm.ClassFile.FieldType.int) : Cond) ∈ TB := TB_t 651 (by decide +kernel) (by decide +kernel)
theorem tw_652 : (Cond.methodLink "AnyOrderLaw" (69 : Nat) ({ cls := "AnyOrder", name := "product", desc := "(III)J" } : Jvm.MethodName) : Cond) ∈ TB := TB_t 652 (by decide +kernel) (by decide +kernel)
theorem tw_653 : (Cond.instanceMethod ({ cls := "AnyOrder", name := "product", desc := "(III)J" } : Jvm.MethodName) : Cond) ∈ TB := TB_t 653 (by decide +kernel) (by decide +kernel)
theorem tw_654 : (Cond.selects "AnyOrder" ({ cls := "AnyOrder", name := "product", desc := "(III)J" } : Jvm.MethodName) ({ cls := "AnyOrder", name := "product", desc := "(III)J" } : Jvm.MethodName) : Cond) ∈ TB := TB_t 654 (by decide +kernel) (by decide +kernel)
theorem tw_655 : (Cond.code ({ cls := "AnyOrder", name := "product", desc := "(III)J" } : Jvm.MethodName) prog_1_method_14_code (4 : Nat) (Option.some Jvm.ClassFile.FieldType.long) : Cond) ∈ TB := TB_t 655 (by decide +kernel) (by decide +kernel)
theorem tw_656 : (Cond.methodLink "AnyOrder" (179 : Nat) ({ cls := "AnyOrder$Closure", name := "has", desc := "(I)Z" } : Jvm.MethodName) : Cond) ∈ TB := TB_t 656 (by decide +kernel) (by decide +kernel)
theorem tw_657 : (Cond.instanceMethod ({ cls := "AnyOrder$Closure", name := "has", desc := "(I)Z" } : Jvm.MethodName) : Cond) ∈ TB := TB_t 657 (by decide +kernel) (by decide +kernel)
theorem tw_658 : (Cond.selects "AnyOrder$Closure" ({ cls := "AnyOrder$Closure", name := "has", desc := "(I)Z" } : Jvm.MethodName) ({ cls := "AnyOrder$Closure", name := "has", desc := "(I)Z" } : Jvm.MethodName) : Cond) ∈ TB := TB_t 658 (by decide +kernel) (by decide +kernel)
theorem tw_659 : (Cond.code ({ cls := "AnyOrder$Closure", name := "has", desc := "(I)Z" } : Jvm.MethodName) prog_2_method_4_code (2 : Nat) (Option.some Jvm.ClassFile.FieldType.boolean) : Cond) ∈ TB := TB_t 659 (by decide +kernel) (by decide +kernel)
theorem tw_660 : (Cond.methodLink "AnyOrder$Closure" (29 : Nat) ({ cls := "AnyOrder$Closure", name := "isFound", desc := "()Z" } : Jvm.MethodName) : Cond) ∈ TB := TB_t 660 (by decide +kernel) (by decide +kernel)
theorem tw_661 : (Cond.methodLink "AnyOrder" (180 : Nat) ({ cls := "AnyOrder$Closure", name := "entryAt", desc := "(II)J" } : Jvm.MethodName) : Cond) ∈ TB := TB_t 661 (by decide +kernel) (by decide +kernel)
theorem tw_662 : (Cond.instanceMethod ({ cls := "AnyOrder$Closure", name := "entryAt", desc := "(II)J" } : Jvm.MethodName) : Cond) ∈ TB := TB_t 662 (by decide +kernel) (by decide +kernel)
theorem tw_663 : (Cond.selects "AnyOrder$Closure" ({ cls := "AnyOrder$Closure", name := "entryAt", desc := "(II)J" } : Jvm.MethodName) ({ cls := "AnyOrder$Closure", name := "entryAt", desc := "(II)J" } : Jvm.MethodName) : Cond) ∈ TB := TB_t 663 (by decide +kernel) (by decide +kernel)
theorem tw_664 : (Cond.code ({ cls := "AnyOrder$Closure", name := "entryAt", desc := "(II)J" } : Jvm.MethodName) prog_2_method_6_code (3 : Nat) (Option.some Jvm.ClassFile.FieldType.long) : Cond) ∈ TB := TB_t 664 (by decide +kernel) (by decide +kernel)
theorem tw_665 : (Cond.methodLink "AnyOrderLaw" (73 : Nat) ({ cls := "AnyOrder", name := "times", desc := "(II)I" } : Jvm.MethodName) : Cond) ∈ TB := TB_t 665 (by decide +kernel) (by decide +kernel)
theorem tw_666 : (Cond.instanceMethod ({ cls := "AnyOrder", name := "times", desc := "(II)I" } : Jvm.MethodName) : Cond) ∈ TB := TB_t 666 (by decide +kernel) (by decide +kernel)
theorem tw_667 : (Cond.selects "AnyOrder" ({ cls := "AnyOrder", name := "times", desc := "(II)I" } : Jvm.MethodName) ({ cls := "AnyOrder", name := "times", desc := "(II)I" } : Jvm.MethodName) : Cond) ∈ TB := TB_t 667 (by decide +kernel) (by decide +kernel)
theorem tw_668 : (Cond.code ({ cls := "AnyOrder", name := "times", desc := "(II)I" } : Jvm.MethodName) prog_1_method_15_code (3 : Nat) (Option.some Jvm.ClassFile.FieldType.int) : Cond) ∈ TB := TB_t 668 (by decide +kernel) (by decide +kernel)
theorem tw_669 : (Cond.methodLink "AnyOrder" (184 : Nat) ({ cls := "AnyOrder$Closure", name := "numberOfProduct", desc := "(II)I" } : Jvm.MethodName) : Cond) ∈ TB := TB_t 669 (by decide +kernel) (by decide +kernel)
theorem tw_670 : (Cond.instanceMethod ({ cls := "AnyOrder$Closure", name := "numberOfProduct", desc := "(II)I" } : Jvm.MethodName) : Cond) ∈ TB := TB_t 670 (by decide +kernel) (by decide +kernel)
theorem tw_671 : (Cond.selects "AnyOrder$Closure" ({ cls := "AnyOrder$Closure", name := "numberOfProduct", desc := "(II)I" } : Jvm.MethodName) ({ cls := "AnyOrder$Closure", name := "numberOfProduct", desc := "(II)I" } : Jvm.MethodName) : Cond) ∈ TB := TB_t 671 (by decide +kernel) (by decide +kernel)
theorem tw_672 : (Cond.code ({ cls := "AnyOrder$Closure", name := "numberOfProduct", desc := "(II)I" } : Jvm.MethodName) prog_2_method_8_code (4 : Nat) (Option.some Jvm.ClassFile.FieldType.int) : Cond) ∈ TB := TB_t 672 (by decide +kernel) (by decide +kernel)
theorem tw_673 : (Cond.methodLink "AnyOrderLaw" (77 : Nat) ({ cls := "AnyOrder", name := "word", desc := "(IIII)I" } : Jvm.MethodName) : Cond) ∈ TB := TB_t 673 (by decide +kernel) (by decide +kernel)
theorem tw_674 : (Cond.instanceMethod ({ cls := "AnyOrder", name := "word", desc := "(IIII)I" } : Jvm.MethodName) : Cond) ∈ TB := TB_t 674 (by decide +kernel) (by decide +kernel)
theorem tw_675 : (Cond.selects "AnyOrder" ({ cls := "AnyOrder", name := "word", desc := "(IIII)I" } : Jvm.MethodName) ({ cls := "AnyOrder", name := "word", desc := "(IIII)I" } : Jvm.MethodName) : Cond) ∈ TB := TB_t 675 (by decide +kernel) (by decide +kernel)
theorem tw_676 : (Cond.code ({ cls := "AnyOrder", name := "word", desc := "(IIII)I" } : Jvm.MethodName) prog_1_method_16_code (5 : Nat) (Option.some Jvm.ClassFile.FieldType.int) : Cond) ∈ TB := TB_t 676 (by decide +kernel) (by decide +kernel)
theorem tw_677 : (Cond.methodLink "AnyOrder" (187 : Nat) ({ cls := "AnyOrder", name := "keepWord", desc := "(IIII)I" } : Jvm.MethodName) : Cond) ∈ TB := TB_t 677 (by decide +kernel) (by decide +kernel)
theorem tw_679 : (Cond.instanceMethod ({ cls := "AnyOrder", name := "keepWord", desc := "(IIII)I" } : Jvm.MethodName) : Cond) ∈ TB := TB_t 679 (by decide +kernel) (by decide +kernel)
theorem tw_680 : (Cond.code ({ cls := "AnyOrder", name := "keepWord", desc := "(IIII)I" } : Jvm.MethodName) prog_1_method_39_code (9 : Nat) (Option.some Jvm.ClassFile.FieldType.int) : Cond) ∈ TB := TB_t 680 (by decide +kernel) (by decide +kernel)
theorem tw_681 : (Cond.methodLink "AnyOrder" (197 : Nat) ({ cls := "AnyOrder$Word", name := "clear", desc := "()V" } : Jvm.MethodName) : Cond) ∈ TB := TB_t 681 (by decide +kernel) (by decide +kernel)
theorem tw_682 : (Cond.instanceMethod ({ cls := "AnyOrder$Word", name := "clear", desc := "()V" } : Jvm.MethodName) : Cond) ∈ TB := TB_t 682 (by decide +kernel) (by decide +kernel)
theorem tw_683 : (Cond.selects "AnyOrder$Word" ({ cls := "AnyOrder$Word", name := "clear", desc := "()V" } : Jvm.MethodName) ({ cls := "AnyOrder$Word", name := "clear", desc := "()V" } : Jvm.MethodName) : Cond) ∈ TB := TB_t 683 (by decide +kernel) (by decide +kernel)
theorem tw_684 : (Cond.code ({ cls := "AnyOrder$Word", name := "clear", desc := "()V" } : Jvm.MethodName) prog_12_method_2_code (1 : Nat) (Option.none : Option Jvm.ClassFile.FieldType) : Cond) ∈ TB := TB_t 684 (by decide +kernel) (by decide +kernel)
theorem tw_685 : (Cond.methodLink "AnyOrder" (296 : Nat) ({ cls := "AnyOrder$Word", name := "append", desc := "(I)V" } : Jvm.MethodName) : Cond) ∈ TB := TB_t 685 (by decide +kernel) (by decide +kernel)
theorem tw_686 : (Cond.instanceMethod ({ cls := "AnyOrder$Word", name := "append", desc := "(I)V" } : Jvm.MethodName) : Cond) ∈ TB := TB_t 686 (by decide +kernel) (by decide +kernel)
theorem tw_687 : (Cond.selects "AnyOrder$Word" ({ cls := "AnyOrder$Word", name := "append", desc := "(I)V" } : Jvm.MethodName) ({ cls := "AnyOrder$Word", name := "append", desc := "(I)V" } : Jvm.MethodName) : Cond) ∈ TB := TB_t 687 (by decide +kernel) (by decide +kernel)
theorem tw_688 : (Cond.code ({ cls := "AnyOrder$Word", name := "append", desc := "(I)V" } : Jvm.MethodName) prog_12_method_3_code (2 : Nat) (Option.none : Option Jvm.ClassFile.FieldType) : Cond) ∈ TB := TB_t 688 (by decide +kernel) (by decide +kernel)
theorem tw_689 : (Cond.methodLink "AnyOrder" (204 : Nat) ({ cls := "AnyOrder", name := "finishWord", desc := "()I" } : Jvm.MethodName) : Cond) ∈ TB := TB_t 689 (by decide +kernel) (by decide +kernel)
theorem tw_691 : (Cond.instanceMethod ({ cls := "AnyOrder", name := "finishWord", desc := "()I" } : Jvm.MethodName) : Cond) ∈ TB := TB_t 691 (by decide +kernel) (by decide +kernel)
theorem tw_692 : (Cond.code ({ cls := "AnyOrder", name := "finishWord", desc := "()I" } : Jvm.MethodName) prog_1_method_40_code (2 : Nat) (Option.some Jvm.ClassFile.FieldType.int) : Cond) ∈ TB := TB_t 692 (by decide +kernel) (by decide +kernel)
theorem tw_693 : (Cond.methodLink "AnyOrder" (300 : Nat) ({ cls := "AnyOrder$Tables", name := "multiplyAll", desc := "([II[J)V" } : Jvm.MethodName) : Cond) ∈ TB := TB_t 693 (by decide +kernel) (by decide +kernel)
theorem tw_694 : (Cond.instanceMethod ({ cls := "AnyOrder$Tables", name := "multiplyAll", desc := "([II[J)V" } : Jvm.MethodName) : Cond) ∈ TB := TB_t 694 (by decide +kernel) (by decide +kernel)
theorem tw_695 : (Cond.selects "AnyOrder$Tables" ({ cls := "AnyOrder$Tables", name := "multiplyAll", desc := "([II[J)V" } : Jvm.MethodName) ({ cls := "AnyOrder$Tables", name := "multiplyAll", desc := "([II[J)V" } : Jvm.MethodName) : Cond) ∈ TB := TB_t 695 (by decide +kernel) (by decide +kernel)
theorem tw_696 : (Cond.code ({ cls := "AnyOrder$Tables", name := "multiplyAll", desc := "([II[J)V" } : Jvm.MethodName) prog_10_method_24_code (5 : Nat) (Option.none : Option Jvm.ClassFile.FieldType) : Cond) ∈ TB := TB_t 696 (by decide +kernel) (by decide +kernel)
theorem tw_697 : (Cond.methodLink "AnyOrder$Tables" (77 : Nat) ({ cls := "java/lang/System", name := "arraycopy", desc := "(Ljava/lang/Object;ILjava/lang/Object;II)V" } : Jvm.MethodName) : Cond) ∈ TB := TB_t 697 (by decide +kernel) (by decide +kernel)
theorem tw_698 : (Cond.methodLink "AnyOrder$Tables" (83 : Nat) ({ cls := "AnyOrder$Tables", name := "multiply", desc := "([J[J[J)V" } : Jvm.MethodName) : Cond) ∈ TB := TB_t 698 (by decide +kernel) (by decide +kernel)
theorem tw_699 : (Cond.methodLink "AnyOrderLaw" (82 : Nat) ({ cls := "AnyOrder", name := "join", desc := "(II)I" } : Jvm.MethodName) : Cond) ∈ TB := TB_t 699 (by decide +kernel) (by decide +kernel)
theorem tw_700 : (Cond.instanceMethod ({ cls := "AnyOrder", name := "join", desc := "(II)I" } : Jvm.MethodName) : Cond) ∈ TB := TB_t 700 (by decide +kernel) (by decide +kernel)
theorem tw_701 : (Cond.selects "AnyOrder" ({ cls := "AnyOrder", name := "join", desc := "(II)I" } : Jvm.MethodName) ({ cls := "AnyOrder", name := "join", desc := "(II)I" } : Jvm.MethodName) : Cond) ∈ TB := TB_t 701 (by decide +kernel) (by decide +kernel)
theorem tw_702 : (Cond.code ({ cls := "AnyOrder", name := "join", desc := "(II)I" } : Jvm.MethodName) prog_1_method_17_code (4 : Nat) (Option.some Jvm.ClassFile.FieldType.int) : Cond) ∈ TB := TB_t 702 (by decide +kernel) (by decide +kernel)
theorem tw_703 : (Cond.methodLink "AnyOrder" (191 : Nat) ({ cls := "AnyOrder", name := "hasWord", desc := "(I)Z" } : Jvm.MethodName) : Cond) ∈ TB := TB_t 703 (by decide +kernel) (by decide +kernel)
theorem tw_705 : (Cond.instanceMethod ({ cls := "AnyOrder", name := "hasWord", desc := "(I)Z" } : Jvm.MethodName) : Cond) ∈ TB := TB_t 705 (by decide +kernel) (by decide +kernel)
theorem tw_706 : (Cond.code ({ cls := "AnyOrder", name := "hasWord", desc := "(I)Z" } : Jvm.MethodName) prog_1_method_41_code (2 : Nat) (Option.some Jvm.ClassFile.FieldType.boolean) : Cond) ∈ TB := TB_t 706 (by decide +kernel) (by decide +kernel)
theorem tw_707 : (Cond.methodLink "AnyOrder" (200 : Nat) ({ cls := "AnyOrder$Word", name := "appendAll", desc := "(LAnyOrder$Word;)V" } : Jvm.MethodName) : Cond) ∈ TB := TB_t 707 (by decide +kernel) (by decide +kernel)
theorem tw_708 : (Cond.instanceMethod ({ cls := "AnyOrder$Word", name := "appendAll", desc := "(LAnyOrder$Word;)V" } : Jvm.MethodName) : Cond) ∈ TB := TB_t 708 (by decide +kernel) (by decide +kernel)
theorem tw_709 : (Cond.selects "AnyOrder$Word" ({ cls := "AnyOrder$Word", name := "appendAll", desc := "(LAnyOrder$Word;)V" } : Jvm.MethodName) ({ cls := "AnyOrder$Word", name := "appendAll", desc := "(LAnyOrder$Word;)V" } : Jvm.MethodName) : Cond) ∈ TB := TB_t 709 (by decide +kernel) (by decide +kernel)
theorem tw_710 : (Cond.code ({ cls := "AnyOrder$Word", name := "appendAll", desc := "(LAnyOrder$Word;)V" } : Jvm.MethodName) prog_12_method_4_code (3 : Nat) (Option.none : Option Jvm.ClassFile.FieldType) : Cond) ∈ TB := TB_t 710 (by decide +kernel) (by decide +kernel)
theorem tw_711 : (Cond.methodLink "AnyOrder$Word" (23 : Nat) ({ cls := "AnyOrder$Word", name := "append", desc := "(I)V" } : Jvm.MethodName) : Cond) ∈ TB := TB_t 711 (by decide +kernel) (by decide +kernel)
theorem tw_712 : (Cond.methodLink "AnyOrderLaw" (86 : Nat) ({ cls := "AnyOrder", name := "letter", desc := "(II)I" } : Jvm.MethodName) : Cond) ∈ TB := TB_t 712 (by decide +kernel) (by decide +kernel)
theorem tw_713 : (Cond.instanceMethod ({ cls := "AnyOrder", name := "letter", desc := "(II)I" } : Jvm.MethodName) : Cond) ∈ TB := TB_t 713 (by decide +kernel) (by decide +kernel)
theorem tw_714 : (Cond.selects "AnyOrder" ({ cls := "AnyOrder", name := "letter", desc := "(II)I" } : Jvm.MethodName) ({ cls := "AnyOrder", name := "letter", desc := "(II)I" } : Jvm.MethodName) : Cond) ∈ TB := TB_t 714 (by decide +kernel) (by decide +kernel)
theorem tw_715 : (Cond.code ({ cls := "AnyOrder", name := "letter", desc := "(II)I" } : Jvm.MethodName) prog_1_method_18_code (3 : Nat) (Option.some Jvm.ClassFile.FieldType.int) : Cond) ∈ TB := TB_t 715 (by decide +kernel) (by decide +kernel)
theorem tw_716 : (Cond.methodLink "AnyOrderLaw" (90 : Nat) ({ cls := "AnyOrder", name := "about", desc := "(II)I" } : Jvm.MethodName) : Cond) ∈ TB := TB_t 716 (by decide +kernel) (by decide +kernel)
theorem tw_717 : (Cond.instanceMethod ({ cls := "AnyOrder", name := "about", desc := "(II)I" } : Jvm.MethodName) : Cond) ∈ TB := TB_t 717 (by decide +kernel) (by decide +kernel)
theorem tw_718 : (Cond.selects "AnyOrder" ({ cls := "AnyOrder", name := "about", desc := "(II)I" } : Jvm.MethodName) ({ cls := "AnyOrder", name := "about", desc := "(II)I" } : Jvm.MethodName) : Cond) ∈ TB := TB_t 718 (by decide +kernel) (by decide +kernel)
theorem tw_719 : (Cond.code ({ cls := "AnyOrder", name := "about", desc := "(II)I" } : Jvm.MethodName) prog_1_method_19_code (4 : Nat) (Option.some Jvm.ClassFile.FieldType.int) : Cond) ∈ TB := TB_t 719 (by decide +kernel) (by decide +kernel)
theorem tw_720 : (Cond.methodLink "AnyOrder" (210 : Nat) ({ cls := "AnyOrder$Tables", name := "isAllowed", desc := "([II)Z" } : Jvm.MethodName) : Cond) ∈ TB := TB_t 720 (by decide +kernel) (by decide +kernel)
theorem tw_721 : (Cond.instanceMethod ({ cls := "AnyOrder$Tables", name := "isAllowed", desc := "([II)Z" } : Jvm.MethodName) : Cond) ∈ TB := TB_t 721 (by decide +kernel) (by decide +kernel)
theorem tw_722 : (Cond.selects "AnyOrder$Tables" ({ cls := "AnyOrder$Tables", name := "isAllowed", desc := "([II)Z" } : Jvm.MethodName) ({ cls := "AnyOrder$Tables", name := "isAllowed", desc := "([II)Z" } : Jvm.MethodName) : Cond) ∈ TB := TB_t 722 (by decide +kernel) (by decide +kernel)
theorem tw_723 : (Cond.code ({ cls := "AnyOrder$Tables", name := "isAllowed", desc := "([II)Z" } : Jvm.MethodName) prog_10_method_20_code (4 : Nat) (Option.some Jvm.ClassFile.FieldType.boolean) : Cond) ∈ TB := TB_t 723 (by decide +kernel) (by decide +kernel)
theorem tw_724 : (Cond.methodLink "AnyOrder" (214 : Nat) ({ cls := "AnyOrder", name := "isRing", desc := "(LAnyOrder$Word;)Z" } : Jvm.MethodName) : Cond) ∈ TB := TB_t 724 (by decide +kernel) (by decide +kernel)
theorem tw_726 : (Cond.instanceMethod ({ cls := "AnyOrder", name := "isRing", desc := "(LAnyOrder$Word;)Z" } : Jvm.MethodName) : Cond) ∈ TB := TB_t 726 (by decide +kernel) (by decide +kernel)
theorem tw_727 : (Cond.code ({ cls := "AnyOrder", name := "isRing", desc := "(LAnyOrder$Word;)Z" } : Jvm.MethodName) prog_1_method_42_code (2 : Nat) (Option.some Jvm.ClassFile.FieldType.boolean) : Cond) ∈ TB := TB_t 727 (by decide +kernel) (by decide +kernel)
theorem tw_728 : (Cond.methodLink "AnyOrder" (304 : Nat) ({ cls := "AnyOrder$Tables", name := "isTurnable", desc := "([II)Z" } : Jvm.MethodName) : Cond) ∈ TB := TB_t 728 (by decide +kernel) (by decide +kernel)
theorem tw_729 : (Cond.methodLink "AnyOrder" (307 : Nat) ({ cls := "AnyOrder$Spelling", name := "isAheadOfItsTurns", desc := "([II)Z" } : Jvm.MethodName) : Cond) ∈ TB := TB_t 729 (by decide +kernel) (by decide +kernel)
theorem tw_730 : (Cond.methodLink "AnyOrder" (218 : Nat) ({ cls := "AnyOrder$Spelling", name := "repeats", desc := "([II)I" } : Jvm.MethodName) : Cond) ∈ TB := TB_t 730 (by decide +kernel) (by decide +kernel)
theorem tw_731 : (Cond.static ({ cls := "AnyOrder$Spelling", name := "repeats", desc := "([II)I" } : Jvm.MethodName) : Cond) ∈ TB := TB_t 731 (by decide +kernel) (by decide +kernel)
theorem tw_732 : (Cond.code ({ cls := "AnyOrder$Spelling", name := "repeats", desc := "([II)I" } : Jvm.MethodName) prog_7_method_2_code (3 : Nat) (Option.some Jvm.ClassFile.FieldType.int) : Cond) ∈ TB := TB_t 732 (by decide +kernel) (by decide +kernel)
theorem tw_733 : (Cond.methodLink "AnyOrder$Spelling" (7 : Nat) ({ cls := "AnyOrder$Spelling", name := "hasPeriod", desc := "([III)Z" } : Jvm.MethodName) : Cond) ∈ TB := TB_t 733 (by decide +kernel) (by decide +kernel)
theorem tw_734 : (Cond.static ({ cls := "AnyOrder$Spelling", name := "hasPeriod", desc := "([III)Z" } : Jvm.MethodName) : Cond) ∈ TB := TB_t 734 (by decide +kernel) (by decide +kernel)
theorem tw_735 : (Cond.code ({ cls := "AnyOrder$Spelling", name := "hasPeriod", desc := "([III)Z" } : Jvm.MethodName) prog_7_method_3_code (4 : Nat) (Option.some Jvm.ClassFile.FieldType.boolean) : Cond) ∈ TB := TB_t 735 (by decide +kernel) (by decide +kernel)
theorem tw_736 : (Cond.methodLink "AnyOrderLaw" (94 : Nat) ({ cls := "AnyOrder", name := "entryOf", desc := "(III)J" } : Jvm.MethodName) : Cond) ∈ TB := TB_t 736 (by decide +kernel) (by decide +kernel)
theorem tw_737 : (Cond.instanceMethod ({ cls := "AnyOrder", name := "entryOf", desc := "(III)J" } : Jvm.MethodName) : Cond) ∈ TB := TB_t 737 (by decide +kernel) (by decide +kernel)
theorem tw_738 : (Cond.selects "AnyOrder" ({ cls := "AnyOrder", name := "entryOf", desc := "(III)J" } : Jvm.MethodName) ({ cls := "AnyOrder", name := "entryOf", desc := "(III)J" } : Jvm.MethodName) : Cond) ∈ TB := TB_t 738 (by decide +kernel) (by decide +kernel)
theorem tw_739 : (Cond.code ({ cls := "AnyOrder", name := "entryOf", desc := "(III)J" } : Jvm.MethodName) prog_1_method_20_code (4 : Nat) (Option.some Jvm.ClassFile.FieldType.long) : Cond) ∈ TB := TB_t 739 (by decide +kernel) (by decide +kernel)
theorem tw_740 : (Cond.methodLink "AnyOrderLaw" (98 : Nat) ({ cls := "AnyOrder", name := "size", desc := "(II)J" } : Jvm.MethodName) : Cond) ∈ TB := TB_t 740 (by decide +kernel) (by decide +kernel)
theorem tw_741 : (Cond.instanceMethod ({ cls := "AnyOrder", name := "size", desc := "(II)J" } : Jvm.MethodName) : Cond) ∈ TB := TB_t 741 (by decide +kernel) (by decide +kernel)
theorem tw_742 : (Cond.selects "AnyOrder" ({ cls := "AnyOrder", name := "size", desc := "(II)J" } : Jvm.MethodName) ({ cls := "AnyOrder", name := "size", desc := "(II)J" } : Jvm.MethodName) : Cond) ∈ TB := TB_t 742 (by decide +kernel) (by decide +kernel)
theorem tw_743 : (Cond.code ({ cls := "AnyOrder", name := "size", desc := "(II)J" } : Jvm.MethodName) prog_1_method_21_code (3 : Nat) (Option.some Jvm.ClassFile.FieldType.long) : Cond) ∈ TB := TB_t 743 (by decide +kernel) (by decide +kernel)
theorem tw_744 : (Cond.methodLink "AnyOrder" (228 : Nat) ({ cls := "AnyOrder$Tables", name := "norm", desc := "([J)J" } : Jvm.MethodName) : Cond) ∈ TB := TB_t 744 (by decide +kernel) (by decide +kernel)
theorem tw_745 : (Cond.methodLink "AnyOrder" (232 : Nat) ({ cls := "AnyOrder$Tables", name := "track", desc := "([J)J" } : Jvm.MethodName) : Cond) ∈ TB := TB_t 745 (by decide +kernel) (by decide +kernel)
theorem tw_746 : (Cond.methodLink "AnyOrderLaw" (102 : Nat) ({ cls := "AnyOrder", name := "sheet", desc := "(III)I" } : Jvm.MethodName) : Cond) ∈ TB := TB_t 746 (by decide +kernel) (by decide +kernel)
theorem tw_747 : (Cond.instanceMethod ({ cls := "AnyOrder", name := "sheet", desc := "(III)I" } : Jvm.MethodName) : Cond) ∈ TB := TB_t 747 (by decide +kernel) (by decide +kernel)
theorem tw_748 : (Cond.selects "AnyOrder" ({ cls := "AnyOrder", name := "sheet", desc := "(III)I" } : Jvm.MethodName) ({ cls := "AnyOrder", name := "sheet", desc := "(III)I" } : Jvm.MethodName) : Cond) ∈ TB := TB_t 748 (by decide +kernel) (by decide +kernel)
theorem tw_749 : (Cond.code ({ cls := "AnyOrder", name := "sheet", desc := "(III)I" } : Jvm.MethodName) prog_1_method_22_code (4 : Nat) (Option.some Jvm.ClassFile.FieldType.int) : Cond) ∈ TB := TB_t 749 (by decide +kernel) (by decide +kernel)
theorem tw_750 : (Cond.methodLink "AnyOrder" (235 : Nat) ({ cls := "AnyOrder", name := "renewSheet", desc := "(III)I" } : Jvm.MethodName) : Cond) ∈ TB := TB_t 750 (by decide +kernel) (by decide +kernel)
theorem tw_752 : (Cond.instanceMethod ({ cls := "AnyOrder", name := "renewSheet", desc := "(III)I" } : Jvm.MethodName) : Cond) ∈ TB := TB_t 752 (by decide +kernel) (by decide +kernel)
theorem tw_753 : (Cond.code ({ cls := "AnyOrder", name := "renewSheet", desc := "(III)I" } : Jvm.MethodName) prog_1_method_43_code (4 : Nat) (Option.some Jvm.ClassFile.FieldType.int) : Cond) ∈ TB := TB_t 753 (by decide +kernel) (by decide +kernel)
theorem tw_754 : (Cond.methodLink "AnyOrder" (310 : Nat) ({ cls := "AnyOrder$Sheet", name := "renew", desc := "(II)V" } : Jvm.MethodName) : Cond) ∈ TB := TB_t 754 (by decide +kernel) (by decide +kernel)
theorem tw_755 : (Cond.instanceMethod ({ cls := "AnyOrder$Sheet", name := "renew", desc := "(II)V" } : Jvm.MethodName) : Cond) ∈ TB := TB_t 755 (by decide +kernel) (by decide +kernel)
theorem tw_756 : (Cond.selects "AnyOrder$Sheet" ({ cls := "AnyOrder$Sheet", name := "renew", desc := "(II)V" } : Jvm.MethodName) ({ cls := "AnyOrder$Sheet", name := "renew", desc := "(II)V" } : Jvm.MethodName) : Cond) ∈ TB := TB_t 756 (by decide +kernel) (by decide +kernel)
theorem tw_757 : (Cond.code ({ cls := "AnyOrder$Sheet", name := "renew", desc := "(II)V" } : Jvm.MethodName) prog_5_method_2_code (3 : Nat) (Option.none : Option Jvm.ClassFile.FieldType) : Cond) ∈ TB := TB_t 757 (by decide +kernel) (by decide +kernel)
theorem tw_758 : (Cond.methodLink "AnyOrder$Sheet" (15 : Nat) ({ cls := "java/util/Arrays", name := "fill", desc := "([II)V" } : Jvm.MethodName) : Cond) ∈ TB := TB_t 758 (by decide +kernel) (by decide +kernel)
theorem tw_759 : (Cond.methodLink "AnyOrderLaw" (106 : Nat) ({ cls := "AnyOrder", name := "lose", desc := "(I)I" } : Jvm.MethodName) : Cond) ∈ TB := TB_t 759 (by decide +kernel) (by decide +kernel)
theorem tw_760 : (Cond.instanceMethod ({ cls := "AnyOrder", name := "lose", desc := "(I)I" } : Jvm.MethodName) : Cond) ∈ TB := TB_t 760 (by decide +kernel) (by decide +kernel)
theorem tw_761 : (Cond.selects "AnyOrder" ({ cls := "AnyOrder", name := "lose", desc := "(I)I" } : Jvm.MethodName) ({ cls := "AnyOrder", name := "lose", desc := "(I)I" } : Jvm.MethodName) : Cond) ∈ TB := TB_t 761 (by decide +kernel) (by decide +kernel)
theorem tw_762 : (Cond.code ({ cls := "AnyOrder", name := "lose", desc := "(I)I" } : Jvm.MethodName) prog_1_method_23_code (2 : Nat) (Option.some Jvm.ClassFile.FieldType.int) : Cond) ∈ TB := TB_t 762 (by decide +kernel) (by decide +kernel)
theorem tw_763 : (Cond.methodLink "AnyOrder" (241 : Nat) ({ cls := "AnyOrder$Sheet", name := "drop", desc := "()Z" } : Jvm.MethodName) : Cond) ∈ TB := TB_t 763 (by decide +kernel) (by decide +kernel)
theorem tw_764 : (Cond.instanceMethod ({ cls := "AnyOrder$Sheet", name := "drop", desc := "()Z" } : Jvm.MethodName) : Cond) ∈ TB := TB_t 764 (by decide +kernel) (by decide +kernel)
theorem tw_765 : (Cond.selects "AnyOrder$Sheet" ({ cls := "AnyOrder$Sheet", name := "drop", desc := "()Z" } : Jvm.MethodName) ({ cls := "AnyOrder$Sheet", name := "drop", desc := "()Z" } : Jvm.MethodName) : Cond) ∈ TB := TB_t 765 (by decide +kernel) (by decide +kernel)
theorem tw_766 : (Cond.code ({ cls := "AnyOrder$Sheet", name := "drop", desc := "()Z" } : Jvm.MethodName) prog_5_method_3_code (2 : Nat) (Option.some Jvm.ClassFile.FieldType.boolean) : Cond) ∈ TB := TB_t 766 (by decide +kernel) (by decide +kernel)
theorem tw_767 : (Cond.methodLink "AnyOrderLaw" (110 : Nat) ({ cls := "AnyOrder", name := "put", desc := "(III)I" } : Jvm.MethodName) : Cond) ∈ TB := TB_t 767 (by decide +kernel) (by decide +kernel)
theorem tw_768 : (Cond.instanceMethod ({ cls := "AnyOrder", name := "put", desc := "(III)I" } : Jvm.MethodName) : Cond) ∈ TB := TB_t 768 (by decide +kernel) (by decide +kernel)
theorem tw_769 : (Cond.selects "AnyOrder" ({ cls := "AnyOrder", name := "put", desc := "(III)I" } : Jvm.MethodName) ({ cls := "AnyOrder", name := "put", desc := "(III)I" } : Jvm.MethodName) : Cond) ∈ TB := TB_t 769 (by decide +kernel) (by decide +kernel)
theorem tw_770 : (Cond.code ({ cls := "AnyOrder", name := "put", desc := "(III)I" } : Jvm.MethodName) prog_1_method_24_code (4 : Nat) (Option.some Jvm.ClassFile.FieldType.int) : Cond) ∈ TB := TB_t 770 (by decide +kernel) (by decide +kernel)
theorem tw_771 : (Cond.methodLink "AnyOrder" (244 : Nat) ({ cls := "AnyOrder", name := "putCell", desc := "(III)I" } : Jvm.MethodName) : Cond) ∈ TB := TB_t 771 (by decide +kernel) (by decide +kernel)
theorem tw_773 : (Cond.instanceMethod ({ cls := "AnyOrder", name := "putCell", desc := "(III)I" } : Jvm.MethodName) : Cond) ∈ TB := TB_t 773 (by decide +kernel) (by decide +kernel)
theorem tw_774 : (Cond.code ({ cls := "AnyOrder", name := "putCell", desc := "(III)I" } : Jvm.MethodName) prog_1_method_44_code (4 : Nat) (Option.some Jvm.ClassFile.FieldType.int) : Cond) ∈ TB := TB_t 774 (by decide +kernel) (by decide +kernel)
theorem tw_775 : (Cond.methodLink "AnyOrder" (313 : Nat) ({ cls := "AnyOrder$Sheet", name := "write", desc := "(II)V" } : Jvm.MethodName) : Cond) ∈ TB := TB_t 775 (by decide +kernel) (by decide +kernel)
theorem tw_776 : (Cond.instanceMethod ({ cls := "AnyOrder$Sheet", name := "write", desc := "(II)V" } : Jvm.MethodName) : Cond) ∈ TB := TB_t 776 (by decide +kernel) (by decide +kernel)
theorem tw_777 : (Cond.selects "AnyOrder$Sheet" ({ cls := "AnyOrder$Sheet", name := "write", desc := "(II)V" } : Jvm.MethodName) ({ cls := "AnyOrder$Sheet", name := "write", desc := "(II)V" } : Jvm.MethodName) : Cond) ∈ TB := TB_t 777 (by decide +kernel) (by decide +kernel)
theorem tw_778 : (Cond.code ({ cls := "AnyOrder$Sheet", name := "write", desc := "(II)V" } : Jvm.MethodName) prog_5_method_5_code (3 : Nat) (Option.none : Option Jvm.ClassFile.FieldType) : Cond) ∈ TB := TB_t 778 (by decide +kernel) (by decide +kernel)
theorem tw_779 : (Cond.methodLink "AnyOrderLaw" (114 : Nat) ({ cls := "AnyOrder", name := "at", desc := "(III)J" } : Jvm.MethodName) : Cond) ∈ TB := TB_t 779 (by decide +kernel) (by decide +kernel)
theorem tw_780 : (Cond.instanceMethod ({ cls := "AnyOrder", name := "at", desc := "(III)J" } : Jvm.MethodName) : Cond) ∈ TB := TB_t 780 (by decide +kernel) (by decide +kernel)
theorem tw_781 : (Cond.selects "AnyOrder" ({ cls := "AnyOrder", name := "at", desc := "(III)J" } : Jvm.MethodName) ({ cls := "AnyOrder", name := "at", desc := "(III)J" } : Jvm.MethodName) : Cond) ∈ TB := TB_t 781 (by decide +kernel) (by decide +kernel)
theorem tw_782 : (Cond.code ({ cls := "AnyOrder", name := "at", desc := "(III)J" } : Jvm.MethodName) prog_1_method_25_code (5 : Nat) (Option.some Jvm.ClassFile.FieldType.long) : Cond) ∈ TB := TB_t 782 (by decide +kernel) (by decide +kernel)
theorem tw_783 : (Cond.methodLink "AnyOrderLaw" (118 : Nat) ({ cls := "AnyOrder", name := "tell", desc := "(I)I" } : Jvm.MethodName) : Cond) ∈ TB := TB_t 783 (by decide +kernel) (by decide +kernel)
theorem tw_784 : (Cond.instanceMethod ({ cls := "AnyOrder", name := "tell", desc := "(I)I" } : Jvm.MethodName) : Cond) ∈ TB := TB_t 784 (by decide +kernel) (by decide +kernel)
theorem tw_785 : (Cond.selects "AnyOrder" ({ cls := "AnyOrder", name := "tell", desc := "(I)I" } : Jvm.MethodName) ({ cls := "AnyOrder", name := "tell", desc := "(I)I" } : Jvm.MethodName) : Cond) ∈ TB := TB_t 785 (by decide +kernel) (by decide +kernel)
theorem tw_786 : (Cond.code ({ cls := "AnyOrder", name := "tell", desc := "(I)I" } : Jvm.MethodName) prog_1_method_26_code (2 : Nat) (Option.some Jvm.ClassFile.FieldType.int) : Cond) ∈ TB := TB_t 786 (by decide +kernel) (by decide +kernel)
theorem tw_787 : (Cond.methodLink "AnyOrder" (253 : Nat) ({ cls := "AnyOrder$Table", name := "telling", desc := "(LAnyOrder$Trail;)I" } : Jvm.MethodName) : Cond) ∈ TB := TB_t 787 (by decide +kernel) (by decide +kernel)
theorem tw_788 : (Cond.instanceMethod ({ cls := "AnyOrder$Table", name := "telling", desc := "(LAnyOrder$Trail;)I" } : Jvm.MethodName) : Cond) ∈ TB := TB_t 788 (by decide +kernel) (by decide +kernel)
theorem tw_789 : (Cond.selects "AnyOrder$Table" ({ cls := "AnyOrder$Table", name := "telling", desc := "(LAnyOrder$Trail;)I" } : Jvm.MethodName) ({ cls := "AnyOrder$Table", name := "telling", desc := "(LAnyOrder$Trail;)I" } : Jvm.MethodName) : Cond) ∈ TB := TB_t 789 (by decide +kernel) (by decide +kernel)
theorem tw_790 : (Cond.sameMethod "AnyOrder$Table" "AnyOrder$Table" "telling" "(LAnyOrder$Trail;)I" : Cond) ∈ TB := TB_t 790 (by decide +kernel) (by decide +kernel)
theorem tw_791 : (Cond.selects "AnyOrder$EvenTable" ({ cls := "AnyOrder$Table", name := "telling", desc := "(LAnyOrder$Trail;)I" } : Jvm.MethodName) ({ cls := "AnyOrder$EvenTable", name := "telling", desc := "(LAnyOrder$Trail;)I" } : Jvm.MethodName) : Cond) ∈ TB := TB_t 791 (by decide +kernel) (by decide +kernel)
theorem tw_792 : (Cond.instanceMethod ({ cls := "AnyOrder$EvenTable", name := "telling", desc := "(LAnyOrder$Trail;)I" } : Jvm.MethodName) : Cond) ∈ TB := TB_t 792 (by decide +kernel) (by decide +kernel)
theorem tw_793 : (Cond.code ({ cls := "AnyOrder$EvenTable", name := "telling", desc := "(LAnyOrder$Trail;)I" } : Jvm.MethodName) prog_3_method_2_code (2 : Nat) (Option.some Jvm.ClassFile.FieldType.int) : Cond) ∈ TB := TB_t 793 (by decide +kernel) (by decide +kernel)
theorem tw_794 : (Cond.methodLink "AnyOrder$EvenTable" (7 : Nat) ({ cls := "AnyOrder$Trail", name := "leave", desc := "(I)V" } : Jvm.MethodName) : Cond) ∈ TB := TB_t 794 (by decide +kernel) (by decide +kernel)
theorem tw_795 : (Cond.instanceMethod ({ cls := "AnyOrder$Trail", name := "leave", desc := "(I)V" } : Jvm.MethodName) : Cond) ∈ TB := TB_t 795 (by decide +kernel) (by decide +kernel)
theorem tw_796 : (Cond.selects "AnyOrder$Trail" ({ cls := "AnyOrder$Trail", name := "leave", desc := "(I)V" } : Jvm.MethodName) ({ cls := "AnyOrder$Trail", name := "leave", desc := "(I)V" } : Jvm.MethodName) : Cond) ∈ TB := TB_t 796 (by decide +kernel) (by decide +kernel)
theorem tw_797 : (Cond.code ({ cls := "AnyOrder$Trail", name := "leave", desc := "(I)V" } : Jvm.MethodName) prog_11_method_2_code (2 : Nat) (Option.none : Option Jvm.ClassFile.FieldType) : Cond) ∈ TB := TB_t 797 (by decide +kernel) (by decide +kernel)
theorem tw_798 : (Cond.methodLink "AnyOrder$EvenTable" (13 : Nat) ({ cls := "AnyOrder$Table", name := "telling", desc := "(LAnyOrder$Trail;)I" } : Jvm.MethodName) : Cond) ∈ TB := TB_t 798 (by decide +kernel) (by decide +kernel)
theorem tw_799 : (Cond.methodLink "AnyOrder$EvenTable" (17 : Nat) ({ cls := "AnyOrder$EvenTable", name := "greatestEntry", desc := "()I" } : Jvm.MethodName) : Cond) ∈ TB := TB_t 799 (by decide +kernel) (by decide +kernel)
theorem tw_800 : (Cond.instanceMethod ({ cls := "AnyOrder$EvenTable", name := "greatestEntry", desc := "()I" } : Jvm.MethodName) : Cond) ∈ TB := TB_t 800 (by decide +kernel) (by decide +kernel)
theorem tw_801 : (Cond.selects "AnyOrder$EvenTable" ({ cls := "AnyOrder$EvenTable", name := "greatestEntry", desc := "()I" } : Jvm.MethodName) ({ cls := "AnyOrder$EvenTable", name := "greatestEntry", desc := "()I" } : Jvm.MethodName) : Cond) ∈ TB := TB_t 801 (by decide +kernel) (by decide +kernel)
theorem tw_802 : (Cond.sameMethod "AnyOrder$EvenTable" "AnyOrder$EvenTable" "greatestEntry" "()I" : Cond) ∈ TB := TB_t 802 (by decide +kernel) (by decide +kernel)
theorem tw_803 : (Cond.selects "AnyOrder$ShuffleTable" ({ cls := "AnyOrder$EvenTable", name := "greatestEntry", desc := "()I" } : Jvm.MethodName) ({ cls := "AnyOrder$EvenTable", name := "greatestEntry", desc := "()I" } : Jvm.MethodName) : Cond) ∈ TB := TB_t 803 (by decide +kernel) (by decide +kernel)
theorem tw_804 : (Cond.code ({ cls := "AnyOrder$EvenTable", name := "greatestEntry", desc := "()I" } : Jvm.MethodName) prog_3_method_3_code (3 : Nat) (Option.some Jvm.ClassFile.FieldType.int) : Cond) ∈ TB := TB_t 804 (by decide +kernel) (by decide +kernel)
theorem tw_805 : (Cond.methodLink "AnyOrder$EvenTable" (31 : Nat) ({ cls := "java/lang/Math", name := "max", desc := "(II)I" } : Jvm.MethodName) : Cond) ∈ TB := TB_t 805 (by decide +kernel) (by decide +kernel)
theorem tw_806 : (Cond.static ({ cls := "java/lang/Math", name := "max", desc := "(II)I" } : Jvm.MethodName) : Cond) ∈ TB := TB_t 806 (by decide +kernel) (by decide +kernel)
theorem tw_807 : (Cond.code ({ cls := "java/lang/Math", name := "max", desc := "(II)I" } : Jvm.MethodName) prog_16_method_65_code (2 : Nat) (Option.some Jvm.ClassFile.FieldType.int) : Cond) ∈ TB := TB_t 807 (by decide +kernel) (by decide +kernel)
theorem tw_808 : (Cond.selects "AnyOrder$ShuffleTable" ({ cls := "AnyOrder$Table", name := "telling", desc := "(LAnyOrder$Trail;)I" } : Jvm.MethodName) ({ cls := "AnyOrder$ShuffleTable", name := "telling", desc := "(LAnyOrder$Trail;)I" } : Jvm.MethodName) : Cond) ∈ TB := TB_t 808 (by decide +kernel) (by decide +kernel)
theorem tw_809 : (Cond.instanceMethod ({ cls := "AnyOrder$ShuffleTable", name := "telling", desc := "(LAnyOrder$Trail;)I" } : Jvm.MethodName) : Cond) ∈ TB := TB_t 809 (by decide +kernel) (by decide +kernel)
theorem tw_810 : (Cond.code ({ cls := "AnyOrder$ShuffleTable", name := "telling", desc := "(LAnyOrder$Trail;)I" } : Jvm.MethodName) prog_6_method_2_code (3 : Nat) (Option.some Jvm.ClassFile.FieldType.int) : Cond) ∈ TB := TB_t 810 (by decide +kernel) (by decide +kernel)
theorem tw_811 : (Cond.methodLink "AnyOrder$ShuffleTable" (7 : Nat) ({ cls := "AnyOrder$Trail", name := "leave", desc := "(I)V" } : Jvm.MethodName) : Cond) ∈ TB := TB_t 811 (by decide +kernel) (by decide +kernel)
theorem tw_812 : (Cond.methodLink "AnyOrder$ShuffleTable" (13 : Nat) ({ cls := "AnyOrder$EvenTable", name := "telling", desc := "(LAnyOrder$Trail;)I" } : Jvm.MethodName) : Cond) ∈ TB := TB_t 812 (by decide +kernel) (by decide +kernel)
theorem tw_813 : (Cond.methodLink "AnyOrder$ShuffleTable" (17 : Nat) ({ cls := "AnyOrder$ShuffleTable", name := "plainTelling", desc := "(LAnyOrder$Trail;)I" } : Jvm.MethodName) : Cond) ∈ TB := TB_t 813 (by decide +kernel) (by decide +kernel)
theorem tw_814 : (Cond.sameMethod "AnyOrder$ShuffleTable" "AnyOrder$Table" "plainTelling" "(LAnyOrder$Trail;)I" : Cond) ∈ TB := TB_t 814 (by decide +kernel) (by decide +kernel)
theorem tw_816 : (Cond.selects "AnyOrder$ShuffleTable" ({ cls := "AnyOrder$ShuffleTable", name := "plainTelling", desc := "(LAnyOrder$Trail;)I" } : Jvm.MethodName) ({ cls := "AnyOrder$Table", name := "plainTelling", desc := "(LAnyOrder$Trail;)I" } : Jvm.MethodName) : Cond) ∈ TB := TB_t 816 (by decide +kernel) (by decide +kernel)
theorem tw_817 : (Cond.instanceMethod ({ cls := "AnyOrder$Table", name := "plainTelling", desc := "(LAnyOrder$Trail;)I" } : Jvm.MethodName) : Cond) ∈ TB := TB_t 817 (by decide +kernel) (by decide +kernel)
theorem tw_818 : (Cond.code ({ cls := "AnyOrder$Table", name := "plainTelling", desc := "(LAnyOrder$Trail;)I" } : Jvm.MethodName) prog_9_method_3_code (4 : Nat) (Option.some Jvm.ClassFile.FieldType.int) : Cond) ∈ TB := TB_t 818 (by decide +kernel) (by decide +kernel)
theorem tw_819 : (Cond.methodLink "AnyOrder$Table" (24 : Nat) ({ cls := "AnyOrder$Trail", name := "leave", desc := "(I)V" } : Jvm.MethodName) : Cond) ∈ TB := TB_t 819 (by decide +kernel) (by decide +kernel)
theorem tw_820 : (Cond.code ({ cls := "AnyOrder$Table", name := "telling", desc := "(LAnyOrder$Trail;)I" } : Jvm.MethodName) prog_9_method_2_code (2 : Nat) (Option.some Jvm.ClassFile.FieldType.int) : Cond) ∈ TB := TB_t 820 (by decide +kernel) (by decide +kernel)
theorem tw_821 : (Cond.methodLink "AnyOrder$Table" (20 : Nat) ({ cls := "AnyOrder$Table", name := "plainTelling", desc := "(LAnyOrder$Trail;)I" } : Jvm.MethodName) : Cond) ∈ TB := TB_t 821 (by decide +kernel) (by decide +kernel)
theorem tw_822 : (Cond.methodLink "AnyOrderLaw" (122 : Nat) ({ cls := "AnyOrder", name := "weigh", desc := "(I)I" } : Jvm.MethodName) : Cond) ∈ TB := TB_t 822 (by decide +kernel) (by decide +kernel)
theorem tw_823 : (Cond.instanceMethod ({ cls := "AnyOrder", name := "weigh", desc := "(I)I" } : Jvm.MethodName) : Cond) ∈ TB := TB_t 823 (by decide +kernel) (by decide +kernel)
theorem tw_824 : (Cond.selects "AnyOrder" ({ cls := "AnyOrder", name := "weigh", desc := "(I)I" } : Jvm.MethodName) ({ cls := "AnyOrder", name := "weigh", desc := "(I)I" } : Jvm.MethodName) : Cond) ∈ TB := TB_t 824 (by decide +kernel) (by decide +kernel)
theorem tw_825 : (Cond.code ({ cls := "AnyOrder", name := "weigh", desc := "(I)I" } : Jvm.MethodName) prog_1_method_27_code (2 : Nat) (Option.some Jvm.ClassFile.FieldType.int) : Cond) ∈ TB := TB_t 825 (by decide +kernel) (by decide +kernel)
theorem tw_826 : (Cond.methodLink "AnyOrder" (257 : Nat) ({ cls := "AnyOrder$Table", name := "weight", desc := "(LAnyOrder$Trail;)I" } : Jvm.MethodName) : Cond) ∈ TB := TB_t 826 (by decide +kernel) (by decide +kernel)
theorem tw_827 : (Cond.instanceMethod ({ cls := "AnyOrder$Table", name := "weight", desc := "(LAnyOrder$Trail;)I" } : Jvm.MethodName) : Cond) ∈ TB := TB_t 827 (by decide +kernel) (by decide +kernel)
theorem tw_828 : (Cond.selects "AnyOrder$Table" ({ cls := "AnyOrder$Table", name := "weight", desc := "(LAnyOrder$Trail;)I" } : Jvm.MethodName) ({ cls := "AnyOrder$Table", name := "weight", desc := "(LAnyOrder$Trail;)I" } : Jvm.MethodName) : Cond) ∈ TB := TB_t 828 (by decide +kernel) (by decide +kernel)
theorem tw_829 : (Cond.sameMethod "AnyOrder$Table" "AnyOrder$Table" "weight" "(LAnyOrder$Trail;)I" : Cond) ∈ TB := TB_t 829 (by decide +kernel) (by decide +kernel)
theorem tw_830 : (Cond.selects "AnyOrder$EvenTable" ({ cls := "AnyOrder$Table", name := "weight", desc := "(LAnyOrder$Trail;)I" } : Jvm.MethodName) ({ cls := "AnyOrder$Table", name := "weight", desc := "(LAnyOrder$Trail;)I" } : Jvm.MethodName) : Cond) ∈ TB := TB_t 830 (by decide +kernel) (by decide +kernel)
theorem tw_831 : (Cond.selects "AnyOrder$ShuffleTable" ({ cls := "AnyOrder$Table", name := "weight", desc := "(LAnyOrder$Trail;)I" } : Jvm.MethodName) ({ cls := "AnyOrder$ShuffleTable", name := "weight", desc := "(LAnyOrder$Trail;)I" } : Jvm.MethodName) : Cond) ∈ TB := TB_t 831 (by decide +kernel) (by decide +kernel)
theorem tw_832 : (Cond.instanceMethod ({ cls := "AnyOrder$ShuffleTable", name := "weight", desc := "(LAnyOrder$Trail;)I" } : Jvm.MethodName) : Cond) ∈ TB := TB_t 832 (by decide +kernel) (by decide +kernel)
theorem tw_833 : (Cond.code ({ cls := "AnyOrder$ShuffleTable", name := "weight", desc := "(LAnyOrder$Trail;)I" } : Jvm.MethodName) prog_6_method_3_code (2 : Nat) (Option.some Jvm.ClassFile.FieldType.int) : Cond) ∈ TB := TB_t 833 (by decide +kernel) (by decide +kernel)
theorem tw_834 : (Cond.code ({ cls := "AnyOrder$Table", name := "weight", desc := "(LAnyOrder$Trail;)I" } : Jvm.MethodName) prog_9_method_4_code (2 : Nat) (Option.some Jvm.ClassFile.FieldType.int) : Cond) ∈ TB := TB_t 834 (by decide +kernel) (by decide +kernel)
theorem tw_835 : (Cond.methodLink "AnyOrderLaw" (126 : Nat) ({ cls := "AnyOrder", name := "as", desc := "(II)I" } : Jvm.MethodName) : Cond) ∈ TB := TB_t 835 (by decide +kernel) (by decide +kernel)
theorem tw_836 : (Cond.instanceMethod ({ cls := "AnyOrder", name := "as", desc := "(II)I" } : Jvm.MethodName) : Cond) ∈ TB := TB_t 836 (by decide +kernel) (by decide +kernel)
theorem tw_837 : (Cond.selects "AnyOrder" ({ cls := "AnyOrder", name := "as", desc := "(II)I" } : Jvm.MethodName) ({ cls := "AnyOrder", name := "as", desc := "(II)I" } : Jvm.MethodName) : Cond) ∈ TB := TB_t 837 (by decide +kernel) (by decide +kernel)
theorem tw_838 : (Cond.code ({ cls := "AnyOrder", name := "as", desc := "(II)I" } : Jvm.MethodName) prog_1_method_28_code (3 : Nat) (Option.some Jvm.ClassFile.FieldType.int) : Cond) ∈ TB := TB_t 838 (by decide +kernel) (by decide +kernel)
theorem tw_839 : (Cond.methodLink "AnyOrder" (260 : Nat) ({ cls := "AnyOrder", name := "takeAs", desc := "(II)I" } : Jvm.MethodName) : Cond) ∈ TB := TB_t 839 (by decide +kernel) (by decide +kernel)
theorem tw_841 : (Cond.instanceMethod ({ cls := "AnyOrder", name := "takeAs", desc := "(II)I" } : Jvm.MethodName) : Cond) ∈ TB := TB_t 841 (by decide +kernel) (by decide +kernel)
theorem tw_842 : (Cond.code ({ cls := "AnyOrder", name := "takeAs", desc := "(II)I" } : Jvm.MethodName) prog_1_method_45_code (3 : Nat) (Option.some Jvm.ClassFile.FieldType.int) : Cond) ∈ TB := TB_t 842 (by decide +kernel) (by decide +kernel)
theorem tw_843 : (Cond.methodLink "AnyOrder" (316 : Nat) ({ cls := "AnyOrder$Table", name := "isOfKind", desc := "(I)Z" } : Jvm.MethodName) : Cond) ∈ TB := TB_t 843 (by decide +kernel) (by decide +kernel)
theorem tw_844 : (Cond.instanceMethod ({ cls := "AnyOrder$Table", name := "isOfKind", desc := "(I)Z" } : Jvm.MethodName) : Cond) ∈ TB := TB_t 844 (by decide +kernel) (by decide +kernel)
theorem tw_845 : (Cond.selects "AnyOrder$Table" ({ cls := "AnyOrder$Table", name := "isOfKind", desc := "(I)Z" } : Jvm.MethodName) ({ cls := "AnyOrder$Table", name := "isOfKind", desc := "(I)Z" } : Jvm.MethodName) : Cond) ∈ TB := TB_t 845 (by decide +kernel) (by decide +kernel)
theorem tw_846 : (Cond.sameMethod "AnyOrder$Table" "AnyOrder$Table" "isOfKind" "(I)Z" : Cond) ∈ TB := TB_t 846 (by decide +kernel) (by decide +kernel)
theorem tw_847 : (Cond.selects "AnyOrder$EvenTable" ({ cls := "AnyOrder$Table", name := "isOfKind", desc := "(I)Z" } : Jvm.MethodName) ({ cls := "AnyOrder$EvenTable", name := "isOfKind", desc := "(I)Z" } : Jvm.MethodName) : Cond) ∈ TB := TB_t 847 (by decide +kernel) (by decide +kernel)
theorem tw_848 : (Cond.instanceMethod ({ cls := "AnyOrder$EvenTable", name := "isOfKind", desc := "(I)Z" } : Jvm.MethodName) : Cond) ∈ TB := TB_t 848 (by decide +kernel) (by decide +kernel)
theorem tw_849 : (Cond.code ({ cls := "AnyOrder$EvenTable", name := "isOfKind", desc := "(I)Z" } : Jvm.MethodName) prog_3_method_4_code (2 : Nat) (Option.some Jvm.ClassFile.FieldType.boolean) : Cond) ∈ TB := TB_t 849 (by decide +kernel) (by decide +kernel)
theorem tw_850 : (Cond.methodLink "AnyOrder$EvenTable" (37 : Nat) ({ cls := "AnyOrder$Table", name := "isOfKind", desc := "(I)Z" } : Jvm.MethodName) : Cond) ∈ TB := TB_t 850 (by decide +kernel) (by decide +kernel)
theorem tw_851 : (Cond.selects "AnyOrder$ShuffleTable" ({ cls := "AnyOrder$Table", name := "isOfKind", desc := "(I)Z" } : Jvm.MethodName) ({ cls := "AnyOrder$ShuffleTable", name := "isOfKind", desc := "(I)Z" } : Jvm.MethodName) : Cond) ∈ TB := TB_t 851 (by decide +kernel) (by decide +kernel)
theorem tw_852 : (Cond.instanceMethod ({ cls := "AnyOrder$ShuffleTable", name := "isOfKind", desc := "(I)Z" } : Jvm.MethodName) : Cond) ∈ TB := TB_t 852 (by decide +kernel) (by decide +kernel)
theorem tw_853 : (Cond.code ({ cls := "AnyOrder$ShuffleTable", name := "isOfKind", desc := "(I)Z" } : Jvm.MethodName) prog_6_method_4_code (2 : Nat) (Option.some Jvm.ClassFile.FieldType.boolean) : Cond) ∈ TB := TB_t 853 (by decide +kernel) (by decide +kernel)
theorem tw_854 : (Cond.methodLink "AnyOrder$ShuffleTable" (22 : Nat) ({ cls := "AnyOrder$EvenTable", name := "isOfKind", desc := "(I)Z" } : Jvm.MethodName) : Cond) ∈ TB := TB_t 854 (by decide +kernel) (by decide +kernel)
theorem tw_855 : (Cond.code ({ cls := "AnyOrder$Table", name := "isOfKind", desc := "(I)Z" } : Jvm.MethodName) prog_9_method_5_code (2 : Nat) (Option.some Jvm.ClassFile.FieldType.boolean) : Cond) ∈ TB := TB_t 855 (by decide +kernel) (by decide +kernel)
theorem tw_856 : (Cond.methodLink "AnyOrderLaw" (130 : Nat) ({ cls := "AnyOrder", name := "history", desc := "()I" } : Jvm.MethodName) : Cond) ∈ TB := TB_t 856 (by decide +kernel) (by decide +kernel)
theorem tw_857 : (Cond.instanceMethod ({ cls := "AnyOrder", name := "history", desc := "()I" } : Jvm.MethodName) : Cond) ∈ TB := TB_t 857 (by decide +kernel) (by decide +kernel)
theorem tw_858 : (Cond.selects "AnyOrder" ({ cls := "AnyOrder", name := "history", desc := "()I" } : Jvm.MethodName) ({ cls := "AnyOrder", name := "history", desc := "()I" } : Jvm.MethodName) : Cond) ∈ TB := TB_t 858 (by decide +kernel) (by decide +kernel)
theorem tw_859 : (Cond.code ({ cls := "AnyOrder", name := "history", desc := "()I" } : Jvm.MethodName) prog_1_method_29_code (1 : Nat) (Option.some Jvm.ClassFile.FieldType.int) : Cond) ∈ TB := TB_t 859 (by decide +kernel) (by decide +kernel)
theorem tw_860 : (Cond.methodLink "AnyOrderLaw" (134 : Nat) ({ cls := "AnyOrder", name := "fault", desc := "()I" } : Jvm.MethodName) : Cond) ∈ TB := TB_t 860 (by decide +kernel) (by decide +kernel)
theorem tw_861 : (Cond.instanceMethod ({ cls := "AnyOrder", name := "fault", desc := "()I" } : Jvm.MethodName) : Cond) ∈ TB := TB_t 861 (by decide +kernel) (by decide +kernel)
theorem tw_862 : (Cond.selects "AnyOrder" ({ cls := "AnyOrder", name := "fault", desc := "()I" } : Jvm.MethodName) ({ cls := "AnyOrder", name := "fault", desc := "()I" } : Jvm.MethodName) : Cond) ∈ TB := TB_t 862 (by decide +kernel) (by decide +kernel)
theorem tw_863 : (Cond.code ({ cls := "AnyOrder", name := "fault", desc := "()I" } : Jvm.MethodName) prog_1_method_30_code (1 : Nat) (Option.some Jvm.ClassFile.FieldType.int) : Cond) ∈ TB := TB_t 863 (by decide +kernel) (by decide +kernel)
theorem tw_864 : (Cond.methodLink "AnyOrderLaw" (138 : Nat) ({ cls := "AnyOrder", name := "told", desc := "(I)I" } : Jvm.MethodName) : Cond) ∈ TB := TB_t 864 (by decide +kernel) (by decide +kernel)
theorem tw_865 : (Cond.instanceMethod ({ cls := "AnyOrder", name := "told", desc := "(I)I" } : Jvm.MethodName) : Cond) ∈ TB := TB_t 865 (by decide +kernel) (by decide +kernel)
theorem tw_866 : (Cond.selects "AnyOrder" ({ cls := "AnyOrder", name := "told", desc := "(I)I" } : Jvm.MethodName) ({ cls := "AnyOrder", name := "told", desc := "(I)I" } : Jvm.MethodName) : Cond) ∈ TB := TB_t 866 (by decide +kernel) (by decide +kernel)
theorem tw_867 : (Cond.code ({ cls := "AnyOrder", name := "told", desc := "(I)I" } : Jvm.MethodName) prog_1_method_31_code (2 : Nat) (Option.some Jvm.ClassFile.FieldType.int) : Cond) ∈ TB := TB_t 867 (by decide +kernel) (by decide +kernel)
theorem tw_868 : (Cond.methodLink "AnyOrder" (269 : Nat) ({ cls := "AnyOrder$Tables", name := "dimension", desc := "()I" } : Jvm.MethodName) : Cond) ∈ TB := TB_t 868 (by decide +kernel) (by decide +kernel)
theorem tw_869 : (Cond.methodLink "AnyOrder" (272 : Nat) ({ cls := "AnyOrder$Tables", name := "countAllowedPairs", desc := "()I" } : Jvm.MethodName) : Cond) ∈ TB := TB_t 869 (by decide +kernel) (by decide +kernel)
theorem tw_870 : (Cond.instanceMethod ({ cls := "AnyOrder$Tables", name := "countAllowedPairs", desc := "()I" } : Jvm.MethodName) : Cond) ∈ TB := TB_t 870 (by decide +kernel) (by decide +kernel)
theorem tw_871 : (Cond.selects "AnyOrder$Tables" ({ cls := "AnyOrder$Tables", name := "countAllowedPairs", desc := "()I" } : Jvm.MethodName) ({ cls := "AnyOrder$Tables", name := "countAllowedPairs", desc := "()I" } : Jvm.MethodName) : Cond) ∈ TB := TB_t 871 (by decide +kernel) (by decide +kernel)
theorem tw_872 : (Cond.code ({ cls := "AnyOrder$Tables", name := "countAllowedPairs", desc := "()I" } : Jvm.MethodName) prog_10_method_19_code (4 : Nat) (Option.some Jvm.ClassFile.FieldType.int) : Cond) ∈ TB := TB_t 872 (by decide +kernel) (by decide +kernel)
theorem tw_873 : (Cond.classLink "AnyOrderLaw" (10 : Nat) "AnyOrderModel" : Cond) ∈ TB := TB_t 873 (by decide +kernel) (by decide +kernel)
theorem tw_874 : (Cond.instantiable "AnyOrderModel" (33 : Nat) : Cond) ∈ TB := TB_t 874 (by decide +kernel) (by decide +kernel)
theorem tw_875 : (Cond.methodLink "AnyOrderLaw" (12 : Nat) ({ cls := "AnyOrderModel", name := "<init>", desc := "()V" } : Jvm.MethodName) : Cond) ∈ TB := TB_t 875 (by decide +kernel) (by decide +kernel)
theorem tw_876 : (Cond.instanceMethod ({ cls := "AnyOrderModel", name := "<init>", desc := "()V" } : Jvm.MethodName) : Cond) ∈ TB := TB_t 876 (by decide +kernel) (by decide +kernel)
theorem tw_877 : (Cond.code ({ cls := "AnyOrderModel", name := "<init>", desc := "()V" } : Jvm.MethodName) prog_14_method_1_code (1 : Nat) (Option.none : Option Jvm.ClassFile.FieldType) : Cond) ∈ TB := TB_t 877 (by decide +kernel) (by decide +kernel)
theorem tw_878 : (Cond.methodLink "AnyOrderModel" (1 : Nat) ({ cls := "java/lang/Object", name := "<init>", desc := "()V" } : Jvm.MethodName) : Cond) ∈ TB := TB_t 878 (by decide +kernel) (by decide +kernel)
theorem tw_879 : (Cond.fieldLink "AnyOrderModel" (76 : Nat) "AnyOrderModel" "fault" "I" : Cond) ∈ TB := TB_t 879 (by decide +kernel) (by decide +kernel)
theorem tw_880 : (Cond.fieldLink "AnyOrderModel" (249 : Nat) "AnyOrderModel" "history" "I" : Cond) ∈ TB := TB_t 880 (by decide +kernel) (by decide +kernel)
theorem tw_881 : (Cond.fieldLink "AnyOrderModel" (7 : Nat) "AnyOrderModel" "wide" "I" : Cond) ∈ TB := TB_t 881 (by decide +kernel) (by decide +kernel)
theorem tw_882 : (Cond.fieldLink "AnyOrderModel" (94 : Nat) "AnyOrderModel" "modulus" "I" : Cond) ∈ TB := TB_t 882 (by decide +kernel) (by decide +kernel)
theorem tw_883 : (Cond.fieldLink "AnyOrderModel" (81 : Nat) "AnyOrderModel" "tables" "I" : Cond) ∈ TB := TB_t 883 (by decide +kernel) (by decide +kernel)
theorem tw_884 : (Cond.fieldLink "AnyOrderModel" (13 : Nat) "AnyOrderModel" "entries" "[I" : Cond) ∈ TB := TB_t 884 (by decide +kernel) (by decide +kernel)
theorem tw_885 : (Cond.fieldLink "AnyOrderModel" (17 : Nat) "AnyOrderModel" "mayNot" "[Z" : Cond) ∈ TB := TB_t 885 (by decide +kernel) (by decide +kernel)
theorem tw_886 : (Cond.fieldLink "AnyOrderModel" (21 : Nat) "AnyOrderModel" "lanes" "[I" : Cond) ∈ TB := TB_t 886 (by decide +kernel) (by decide +kernel)
theorem tw_887 : (Cond.fieldLink "AnyOrderModel" (24 : Nat) "AnyOrderModel" "sheetLong" "[I" : Cond) ∈ TB := TB_t 887 (by decide +kernel) (by decide +kernel)
theorem tw_888 : (Cond.fieldLink "AnyOrderModel" (27 : Nat) "AnyOrderModel" "cells" "[I" : Cond) ∈ TB := TB_t 888 (by decide +kernel) (by decide +kernel)
theorem tw_889 : (Cond.fieldLink "AnyOrderModel" (30 : Nat) "AnyOrderModel" "level" "[J" : Cond) ∈ TB := TB_t 889 (by decide +kernel) (by decide +kernel)
theorem tw_890 : (Cond.fieldLink "AnyOrderModel" (34 : Nat) "AnyOrderModel" "now" "[I" : Cond) ∈ TB := TB_t 890 (by decide +kernel) (by decide +kernel)
theorem tw_891 : (Cond.fieldLink "AnyOrderModel" (37 : Nat) "AnyOrderModel" "ways" "[J" : Cond) ∈ TB := TB_t 891 (by decide +kernel) (by decide +kernel)
theorem tw_892 : (Cond.fieldLink "AnyOrderModel" (40 : Nat) "AnyOrderModel" "moreWays" "[J" : Cond) ∈ TB := TB_t 892 (by decide +kernel) (by decide +kernel)
theorem tw_893 : (Cond.fieldLink "AnyOrderModel" (135 : Nat) "AnyOrderModel" "depth" "I" : Cond) ∈ TB := TB_t 893 (by decide +kernel) (by decide +kernel)
theorem tw_894 : (Cond.fieldLink "AnyOrderModel" (142 : Nat) "AnyOrderModel" "many" "J" : Cond) ∈ TB := TB_t 894 (by decide +kernel) (by decide +kernel)
theorem tw_895 : (Cond.fieldLink "AnyOrderModel" (146 : Nat) "AnyOrderModel" "greatest" "J" : Cond) ∈ TB := TB_t 895 (by decide +kernel) (by decide +kernel)
theorem tw_896 : (Cond.fieldLink "AnyOrderModel" (149 : Nat) "AnyOrderModel" "least" "J" : Cond) ∈ TB := TB_t 896 (by decide +kernel) (by decide +kernel)
theorem tw_897 : (Cond.fieldLink "AnyOrderModel" (152 : Nat) "AnyOrderModel" "noughts" "J" : Cond) ∈ TB := TB_t 897 (by decide +kernel) (by decide +kernel)
theorem tw_898 : (Cond.fieldLink "AnyOrderModel" (43 : Nat) "AnyOrderModel" "great" "[I" : Cond) ∈ TB := TB_t 898 (by decide +kernel) (by decide +kernel)
theorem tw_899 : (Cond.fieldLink "AnyOrderModel" (46 : Nat) "AnyOrderModel" "small" "[I" : Cond) ∈ TB := TB_t 899 (by decide +kernel) (by decide +kernel)
theorem tw_900 : (Cond.fieldLink "AnyOrderModel" (49 : Nat) "AnyOrderModel" "asked" "[I" : Cond) ∈ TB := TB_t 900 (by decide +kernel) (by decide +kernel)
theorem tw_901 : (Cond.fieldLink "AnyOrderModel" (183 : Nat) "AnyOrderModel" "ringMany" "I" : Cond) ∈ TB := TB_t 901 (by decide +kernel) (by decide +kernel)
theorem tw_902 : (Cond.fieldLink "AnyOrderModel" (186 : Nat) "AnyOrderModel" "ringBest" "J" : Cond) ∈ TB := TB_t 902 (by decide +kernel) (by decide +kernel)
theorem tw_903 : (Cond.fieldLink "AnyOrderModel" (52 : Nat) "AnyOrderModel" "ringWord" "[I" : Cond) ∈ TB := TB_t 903 (by decide +kernel) (by decide +kernel)
theorem tw_904 : (Cond.fieldLink "AnyOrderModel" (55 : Nat) "AnyOrderModel" "products" "I" : Cond) ∈ TB := TB_t 904 (by decide +kernel) (by decide +kernel)
theorem tw_905 : (Cond.fieldLink "AnyOrderModel" (58 : Nat) "AnyOrderModel" "product" "[J" : Cond) ∈ TB := TB_t 905 (by decide +kernel) (by decide +kernel)
theorem tw_906 : (Cond.fieldLink "AnyOrderModel" (61 : Nat) "AnyOrderModel" "lengths" "[I" : Cond) ∈ TB := TB_t 906 (by decide +kernel) (by decide +kernel)
theorem tw_907 : (Cond.fieldLink "AnyOrderModel" (64 : Nat) "AnyOrderModel" "heads" "[I" : Cond) ∈ TB := TB_t 907 (by decide +kernel) (by decide +kernel)
theorem tw_908 : (Cond.fieldLink "AnyOrderModel" (67 : Nat) "AnyOrderModel" "chain" "[I" : Cond) ∈ TB := TB_t 908 (by decide +kernel) (by decide +kernel)
theorem tw_909 : (Cond.fieldLink "AnyOrderModel" (97 : Nat) "AnyOrderModel" "words" "I" : Cond) ∈ TB := TB_t 909 (by decide +kernel) (by decide +kernel)
theorem tw_910 : (Cond.fieldLink "AnyOrderModel" (70 : Nat) "AnyOrderModel" "letters" "[I" : Cond) ∈ TB := TB_t 910 (by decide +kernel) (by decide +kernel)
theorem tw_911 : (Cond.fieldLink "AnyOrderModel" (73 : Nat) "AnyOrderModel" "wordLong" "[I" : Cond) ∈ TB := TB_t 911 (by decide +kernel) (by decide +kernel)
theorem tw_979 : (Cond.methodLink "AnyOrderLaw" (17 : Nat) ({ cls := "AnyOrderModel", name := "begin", desc := "(II)I" } : Jvm.MethodName) : Cond) ∈ TB := TB_t 979 (by decide +kernel) (by decide +kernel)
theorem tw_980 : (Cond.instanceMethod ({ cls := "AnyOrderModel", name := "begin", desc := "(II)I" } : Jvm.MethodName) : Cond) ∈ TB := TB_t 980 (by decide +kernel) (by decide +kernel)
theorem tw_981 : (Cond.selects "AnyOrderModel" ({ cls := "AnyOrderModel", name := "begin", desc := "(II)I" } : Jvm.MethodName) ({ cls := "AnyOrderModel", name := "begin", desc := "(II)I" } : Jvm.MethodName) : Cond) ∈ TB := TB_t 981 (by decide +kernel) (by decide +kernel)
theorem tw_982 : (Cond.code ({ cls := "AnyOrderModel", name := "begin", desc := "(II)I" } : Jvm.MethodName) prog_14_method_9_code (4 : Nat) (Option.some Jvm.ClassFile.FieldType.int) : Cond) ∈ TB := TB_t 982 (by decide +kernel) (by decide +kernel)
theorem tw_983 : (Cond.constantLong "AnyOrderModel" (88 : Nat) (2 : Int64) : Cond) ∈ TB := TB_t 983 (by decide +kernel) (by decide +kernel)
theorem tw_984 : (Cond.constantLong "AnyOrderModel" (90 : Nat) (3 : Int64) : Cond) ∈ TB := TB_t 984 (by decide +kernel) (by decide +kernel)
theorem tw_985 : (Cond.methodLink "AnyOrderModel" (84 : Nat) ({ cls := "AnyOrderModel", name := "within", desc := "(JJJ)Z" } : Jvm.MethodName) : Cond) ∈ TB := TB_t 985 (by decide +kernel) (by decide +kernel)
theorem tw_986 : (Cond.static ({ cls := "AnyOrderModel", name := "within", desc := "(JJJ)Z" } : Jvm.MethodName) : Cond) ∈ TB := TB_t 986 (by decide +kernel) (by decide +kernel)
theorem tw_987 : (Cond.code ({ cls := "AnyOrderModel", name := "within", desc := "(JJJ)Z" } : Jvm.MethodName) prog_14_method_5_code (6 : Nat) (Option.some Jvm.ClassFile.FieldType.boolean) : Cond) ∈ TB := TB_t 987 (by decide +kernel) (by decide +kernel)
theorem tw_988 : (Cond.constantLong "AnyOrderModel" (92 : Nat) (97 : Int64) : Cond) ∈ TB := TB_t 988 (by decide +kernel) (by decide +kernel)
theorem tw_989 : (Cond.methodLink "AnyOrderLaw" (22 : Nat) ({ cls := "AnyOrderModel", name := "table", desc := "(III)I" } : Jvm.MethodName) : Cond) ∈ TB := TB_t 989 (by decide +kernel) (by decide +kernel)
theorem tw_990 : (Cond.instanceMethod ({ cls := "AnyOrderModel", name := "table", desc := "(III)I" } : Jvm.MethodName) : Cond) ∈ TB := TB_t 990 (by decide +kernel) (by decide +kernel)
theorem tw_991 : (Cond.selects "AnyOrderModel" ({ cls := "AnyOrderModel", name := "table", desc := "(III)I" } : Jvm.MethodName) ({ cls := "AnyOrderModel", name := "table", desc := "(III)I" } : Jvm.MethodName) : Cond) ∈ TB := TB_t 991 (by decide +kernel) (by decide +kernel)
theorem tw_992 : (Cond.code ({ cls := "AnyOrderModel", name := "table", desc := "(III)I" } : Jvm.MethodName) prog_14_method_11_code (6 : Nat) (Option.some Jvm.ClassFile.FieldType.int) : Cond) ∈ TB := TB_t 992 (by decide +kernel) (by decide +kernel)
theorem tw_993 : (Cond.methodLink "AnyOrderModel" (104 : Nat) ({ cls := "AnyOrderModel", name := "against", desc := "(II)I" } : Jvm.MethodName) : Cond) ∈ TB := TB_t 993 (by decide +kernel) (by decide +kernel)
theorem tw_995 : (Cond.instanceMethod ({ cls := "AnyOrderModel", name := "against", desc := "(II)I" } : Jvm.MethodName) : Cond) ∈ TB := TB_t 995 (by decide +kernel) (by decide +kernel)
theorem tw_996 : (Cond.code ({ cls := "AnyOrderModel", name := "against", desc := "(II)I" } : Jvm.MethodName) prog_14_method_10_code (3 : Nat) (Option.some Jvm.ClassFile.FieldType.int) : Cond) ∈ TB := TB_t 996 (by decide +kernel) (by decide +kernel)
theorem tw_997 : (Cond.methodLink "AnyOrderModel" (100 : Nat) ({ cls := "AnyOrderModel", name := "fails", desc := "(I)I" } : Jvm.MethodName) : Cond) ∈ TB := TB_t 997 (by decide +kernel) (by decide +kernel)
theorem tw_999 : (Cond.instanceMethod ({ cls := "AnyOrderModel", name := "fails", desc := "(I)I" } : Jvm.MethodName) : Cond) ∈ TB := TB_t 999 (by decide +kernel) (by decide +kernel)
theorem tw_1000 : (Cond.code ({ cls := "AnyOrderModel", name := "fails", desc := "(I)I" } : Jvm.MethodName) prog_14_method_3_code (2 : Nat) (Option.some Jvm.ClassFile.FieldType.int) : Cond) ∈ TB := TB_t 1000 (by decide +kernel) (by decide +kernel)
theorem tw_1001 : (Cond.constantLong "AnyOrderModel" (108 : Nat) (-9 : Int64) : Cond) ∈ TB := TB_t 1001 (by decide +kernel) (by decide +kernel)
theorem tw_1002 : (Cond.constantLong "AnyOrderModel" (110 : Nat) (9 : Int64) : Cond) ∈ TB := TB_t 1002 (by decide +kernel) (by decide +kernel)
theorem tw_1003 : (Cond.methodLink "AnyOrderLaw" (27 : Nat) ({ cls := "AnyOrderModel", name := "entry", desc := "(III)J" } : Jvm.MethodName) : Cond) ∈ TB := TB_t 1003 (by decide +kernel) (by decide +kernel)
theorem tw_1004 : (Cond.instanceMethod ({ cls := "AnyOrderModel", name := "entry", desc := "(III)J" } : Jvm.MethodName) : Cond) ∈ TB := TB_t 1004 (by decide +kernel) (by decide +kernel)
theorem tw_1005 : (Cond.selects "AnyOrderModel" ({ cls := "AnyOrderModel", name := "entry", desc := "(III)J" } : Jvm.MethodName) ({ cls := "AnyOrderModel", name := "entry", desc := "(III)J" } : Jvm.MethodName) : Cond) ∈ TB := TB_t 1005 (by decide +kernel) (by decide +kernel)
theorem tw_1006 : (Cond.code ({ cls := "AnyOrderModel", name := "entry", desc := "(III)J" } : Jvm.MethodName) prog_14_method_12_code (4 : Nat) (Option.some Jvm.ClassFile.FieldType.long) : Cond) ∈ TB := TB_t 1006 (by decide +kernel) (by decide +kernel)
theorem tw_1007 : (Cond.methodLink "AnyOrderModel" (112 : Nat) ({ cls := "AnyOrderModel", name := "isTable", desc := "(I)Z" } : Jvm.MethodName) : Cond) ∈ TB := TB_t 1007 (by decide +kernel) (by decide +kernel)
theorem tw_1009 : (Cond.instanceMethod ({ cls := "AnyOrderModel", name := "isTable", desc := "(I)Z" } : Jvm.MethodName) : Cond) ∈ TB := TB_t 1009 (by decide +kernel) (by decide +kernel)
theorem tw_1010 : (Cond.code ({ cls := "AnyOrderModel", name := "isTable", desc := "(I)Z" } : Jvm.MethodName) prog_14_method_7_code (2 : Nat) (Option.some Jvm.ClassFile.FieldType.boolean) : Cond) ∈ TB := TB_t 1010 (by decide +kernel) (by decide +kernel)
theorem tw_1011 : (Cond.methodLink "AnyOrderModel" (116 : Nat) ({ cls := "AnyOrderModel", name := "isPlace", desc := "(II)Z" } : Jvm.MethodName) : Cond) ∈ TB := TB_t 1011 (by decide +kernel) (by decide +kernel)
theorem tw_1013 : (Cond.instanceMethod ({ cls := "AnyOrderModel", name := "isPlace", desc := "(II)Z" } : Jvm.MethodName) : Cond) ∈ TB := TB_t 1013 (by decide +kernel) (by decide +kernel)
theorem tw_1014 : (Cond.code ({ cls := "AnyOrderModel", name := "isPlace", desc := "(II)Z" } : Jvm.MethodName) prog_14_method_8_code (3 : Nat) (Option.some Jvm.ClassFile.FieldType.boolean) : Cond) ∈ TB := TB_t 1014 (by decide +kernel) (by decide +kernel)
theorem tw_1015 : (Cond.constantLong "AnyOrderModel" (79 : Nat) (-9223372036854775808 : Int64) : Cond) ∈ TB := TB_t 1015 (by decide +kernel) (by decide +kernel)
theorem tw_1016 : (Cond.methodLink "AnyOrderLaw" (32 : Nat) ({ cls := "AnyOrderModel", name := "may", desc := "(IIZ)I" } : Jvm.MethodName) : Cond) ∈ TB := TB_t 1016 (by decide +kernel) (by decide +kernel)
theorem tw_1017 : (Cond.instanceMethod ({ cls := "AnyOrderModel", name := "may", desc := "(IIZ)I" } : Jvm.MethodName) : Cond) ∈ TB := TB_t 1017 (by decide +kernel) (by decide +kernel)
theorem tw_1018 : (Cond.selects "AnyOrderModel" ({ cls := "AnyOrderModel", name := "may", desc := "(IIZ)I" } : Jvm.MethodName) ({ cls := "AnyOrderModel", name := "may", desc := "(IIZ)I" } : Jvm.MethodName) : Cond) ∈ TB := TB_t 1018 (by decide +kernel) (by decide +kernel)
theorem tw_1019 : (Cond.code ({ cls := "AnyOrderModel", name := "may", desc := "(IIZ)I" } : Jvm.MethodName) prog_14_method_13_code (5 : Nat) (Option.some Jvm.ClassFile.FieldType.int) : Cond) ∈ TB := TB_t 1019 (by decide +kernel) (by decide +kernel)
theorem tw_1020 : (Cond.methodLink "AnyOrderLaw" (37 : Nat) ({ cls := "AnyOrderModel", name := "length", desc := "(II)J" } : Jvm.MethodName) : Cond) ∈ TB := TB_t 1020 (by decide +kernel) (by decide +kernel)
theorem tw_1021 : (Cond.instanceMethod ({ cls := "AnyOrderModel", name := "length", desc := "(II)J" } : Jvm.MethodName) : Cond) ∈ TB := TB_t 1021 (by decide +kernel) (by decide +kernel)
theorem tw_1022 : (Cond.selects "AnyOrderModel" ({ cls := "AnyOrderModel", name := "length", desc := "(II)J" } : Jvm.MethodName) ({ cls := "AnyOrderModel", name := "length", desc := "(II)J" } : Jvm.MethodName) : Cond) ∈ TB := TB_t 1022 (by decide +kernel) (by decide +kernel)
theorem tw_1023 : (Cond.code ({ cls := "AnyOrderModel", name := "length", desc := "(II)J" } : Jvm.MethodName) prog_14_method_24_code (3 : Nat) (Option.some Jvm.ClassFile.FieldType.long) : Cond) ∈ TB := TB_t 1023 (by decide +kernel) (by decide +kernel)
theorem tw_1024 : (Cond.constantLong "AnyOrderModel" (165 : Nat) (8 : Int64) : Cond) ∈ TB := TB_t 1024 (by decide +kernel) (by decide +kernel)
theorem tw_1025 : (Cond.methodLink "AnyOrderModel" (167 : Nat) ({ cls := "AnyOrderModel", name := "isSpent", desc := "(I)Z" } : Jvm.MethodName) : Cond) ∈ TB := TB_t 1025 (by decide +kernel) (by decide +kernel)
theorem tw_1027 : (Cond.instanceMethod ({ cls := "AnyOrderModel", name := "isSpent", desc := "(I)Z" } : Jvm.MethodName) : Cond) ∈ TB := TB_t 1027 (by decide +kernel) (by decide +kernel)
theorem tw_1028 : (Cond.code ({ cls := "AnyOrderModel", name := "isSpent", desc := "(I)Z" } : Jvm.MethodName) prog_14_method_20_code (5 : Nat) (Option.some Jvm.ClassFile.FieldType.boolean) : Cond) ∈ TB := TB_t 1028 (by decide +kernel) (by decide +kernel)
theorem tw_1029 : (Cond.methodLink "AnyOrderModel" (127 : Nat) ({ cls := "AnyOrderModel", name := "mayFollow", desc := "(II)Z" } : Jvm.MethodName) : Cond) ∈ TB := TB_t 1029 (by decide +kernel) (by decide +kernel)
theorem tw_1031 : (Cond.instanceMethod ({ cls := "AnyOrderModel", name := "mayFollow", desc := "(II)Z" } : Jvm.MethodName) : Cond) ∈ TB := TB_t 1031 (by decide +kernel) (by decide +kernel)
theorem tw_1032 : (Cond.code ({ cls := "AnyOrderModel", name := "mayFollow", desc := "(II)Z" } : Jvm.MethodName) prog_14_method_14_code (3 : Nat) (Option.some Jvm.ClassFile.FieldType.boolean) : Cond) ∈ TB := TB_t 1032 (by decide +kernel) (by decide +kernel)
theorem tw_1033 : (Cond.constantLong "AnyOrderModel" (130 : Nat) (20000 : Int64) : Cond) ∈ TB := TB_t 1033 (by decide +kernel) (by decide +kernel)
theorem tw_1034 : (Cond.methodLink "AnyOrderModel" (170 : Nat) ({ cls := "AnyOrderModel", name := "goThrough", desc := "(I)V" } : Jvm.MethodName) : Cond) ∈ TB := TB_t 1034 (by decide +kernel) (by decide +kernel)
theorem tw_1036 : (Cond.instanceMethod ({ cls := "AnyOrderModel", name := "goThrough", desc := "(I)V" } : Jvm.MethodName) : Cond) ∈ TB := TB_t 1036 (by decide +kernel) (by decide +kernel)
theorem tw_1037 : (Cond.code ({ cls := "AnyOrderModel", name := "goThrough", desc := "(I)V" } : Jvm.MethodName) prog_14_method_23_code (5 : Nat) (Option.none : Option Jvm.ClassFile.FieldType) : Cond) ∈ TB := TB_t 1037 (by decide +kernel) (by decide +kernel)
theorem tw_1038 : (Cond.methodLink "AnyOrderModel" (155 : Nat) ({ cls := "AnyOrderModel", name := "beginWords", desc := "()V" } : Jvm.MethodName) : Cond) ∈ TB := TB_t 1038 (by decide +kernel) (by decide +kernel)
theorem tw_1040 : (Cond.instanceMethod ({ cls := "AnyOrderModel", name := "beginWords", desc := "()V" } : Jvm.MethodName) : Cond) ∈ TB := TB_t 1040 (by decide +kernel) (by decide +kernel)
theorem tw_1041 : (Cond.code ({ cls := "AnyOrderModel", name := "beginWords", desc := "()V" } : Jvm.MethodName) prog_14_method_21_code (1 : Nat) (Option.none : Option Jvm.ClassFile.FieldType) : Cond) ∈ TB := TB_t 1041 (by decide +kernel) (by decide +kernel)
theorem tw_1042 : (Cond.methodLink "AnyOrderModel" (132 : Nat) ({ cls := "AnyOrderModel", name := "beginLevels", desc := "()V" } : Jvm.MethodName) : Cond) ∈ TB := TB_t 1042 (by decide +kernel) (by decide +kernel)
theorem tw_1044 : (Cond.instanceMethod ({ cls := "AnyOrderModel", name := "beginLevels", desc := "()V" } : Jvm.MethodName) : Cond) ∈ TB := TB_t 1044 (by decide +kernel) (by decide +kernel)
theorem tw_1045 : (Cond.code ({ cls := "AnyOrderModel", name := "beginLevels", desc := "()V" } : Jvm.MethodName) prog_14_method_16_code (3 : Nat) (Option.none : Option Jvm.ClassFile.FieldType) : Cond) ∈ TB := TB_t 1045 (by decide +kernel) (by decide +kernel)
theorem tw_1046 : (Cond.methodLink "AnyOrderModel" (158 : Nat) ({ cls := "AnyOrderModel", name := "next", desc := "(I)Z" } : Jvm.MethodName) : Cond) ∈ TB := TB_t 1046 (by decide +kernel) (by decide +kernel)
theorem tw_1048 : (Cond.instanceMethod ({ cls := "AnyOrderModel", name := "next", desc := "(I)Z" } : Jvm.MethodName) : Cond) ∈ TB := TB_t 1048 (by decide +kernel) (by decide +kernel)
theorem tw_1049 : (Cond.code ({ cls := "AnyOrderModel", name := "next", desc := "(I)Z" } : Jvm.MethodName) prog_14_method_22_code (2 : Nat) (Option.some Jvm.ClassFile.FieldType.boolean) : Cond) ∈ TB := TB_t 1049 (by decide +kernel) (by decide +kernel)
theorem tw_1050 : (Cond.methodLink "AnyOrderModel" (138 : Nat) ({ cls := "AnyOrderModel", name := "goOn", desc := "(II)V" } : Jvm.MethodName) : Cond) ∈ TB := TB_t 1050 (by decide +kernel) (by decide +kernel)
theorem tw_1052 : (Cond.instanceMethod ({ cls := "AnyOrderModel", name := "goOn", desc := "(II)V" } : Jvm.MethodName) : Cond) ∈ TB := TB_t 1052 (by decide +kernel) (by decide +kernel)
theorem tw_1053 : (Cond.code ({ cls := "AnyOrderModel", name := "goOn", desc := "(II)V" } : Jvm.MethodName) prog_14_method_17_code (8 : Nat) (Option.none : Option Jvm.ClassFile.FieldType) : Cond) ∈ TB := TB_t 1053 (by decide +kernel) (by decide +kernel)
theorem tw_1054 : (Cond.methodLink "AnyOrderModel" (120 : Nat) ({ cls := "AnyOrderModel", name := "rest", desc := "(J)J" } : Jvm.MethodName) : Cond) ∈ TB := TB_t 1054 (by decide +kernel) (by decide +kernel)
theorem tw_1056 : (Cond.instanceMethod ({ cls := "AnyOrderModel", name := "rest", desc := "(J)J" } : Jvm.MethodName) : Cond) ∈ TB := TB_t 1056 (by decide +kernel) (by decide +kernel)
theorem tw_1057 : (Cond.code ({ cls := "AnyOrderModel", name := "rest", desc := "(J)J" } : Jvm.MethodName) prog_14_method_15_code (3 : Nat) (Option.some Jvm.ClassFile.FieldType.long) : Cond) ∈ TB := TB_t 1057 (by decide +kernel) (by decide +kernel)
theorem tw_1058 : (Cond.methodLink "AnyOrderModel" (161 : Nat) ({ cls := "AnyOrderModel", name := "normAt", desc := "(I)J" } : Jvm.MethodName) : Cond) ∈ TB := TB_t 1058 (by decide +kernel) (by decide +kernel)
theorem tw_1060 : (Cond.instanceMethod ({ cls := "AnyOrderModel", name := "normAt", desc := "(I)J" } : Jvm.MethodName) : Cond) ∈ TB := TB_t 1060 (by decide +kernel) (by decide +kernel)
theorem tw_1061 : (Cond.code ({ cls := "AnyOrderModel", name := "normAt", desc := "(I)J" } : Jvm.MethodName) prog_14_method_18_code (8 : Nat) (Option.some Jvm.ClassFile.FieldType.long) : Cond) ∈ TB := TB_t 1061 (by decide +kernel) (by decide +kernel)
theorem tw_1062 : (Cond.methodLink "AnyOrderModel" (124 : Nat) ({ cls := "AnyOrderModel", name := "sizeOf", desc := "(J)J" } : Jvm.MethodName) : Cond) ∈ TB := TB_t 1062 (by decide +kernel) (by decide +kernel)
theorem tw_1063 : (Cond.static ({ cls := "AnyOrderModel", name := "sizeOf", desc := "(J)J" } : Jvm.MethodName) : Cond) ∈ TB := TB_t 1063 (by decide +kernel) (by decide +kernel)
theorem tw_1064 : (Cond.code ({ cls := "AnyOrderModel", name := "sizeOf", desc := "(J)J" } : Jvm.MethodName) prog_14_method_6_code (2 : Nat) (Option.some Jvm.ClassFile.FieldType.long) : Cond) ∈ TB := TB_t 1064 (by decide +kernel) (by decide +kernel)
theorem tw_1065 : (Cond.methodLink "AnyOrderLaw" (41 : Nat) ({ cls := "AnyOrderModel", name := "extreme", desc := "(III)I" } : Jvm.MethodName) : Cond) ∈ TB := TB_t 1065 (by decide +kernel) (by decide +kernel)
theorem tw_1066 : (Cond.instanceMethod ({ cls := "AnyOrderModel", name := "extreme", desc := "(III)I" } : Jvm.MethodName) : Cond) ∈ TB := TB_t 1066 (by decide +kernel) (by decide +kernel)
theorem tw_1067 : (Cond.selects "AnyOrderModel" ({ cls := "AnyOrderModel", name := "extreme", desc := "(III)I" } : Jvm.MethodName) ({ cls := "AnyOrderModel", name := "extreme", desc := "(III)I" } : Jvm.MethodName) : Cond) ∈ TB := TB_t 1067 (by decide +kernel) (by decide +kernel)
theorem tw_1068 : (Cond.code ({ cls := "AnyOrderModel", name := "extreme", desc := "(III)I" } : Jvm.MethodName) prog_14_method_25_code (4 : Nat) (Option.some Jvm.ClassFile.FieldType.int) : Cond) ∈ TB := TB_t 1068 (by decide +kernel) (by decide +kernel)
theorem tw_1069 : (Cond.methodLink "AnyOrderLaw" (46 : Nat) ({ cls := "AnyOrderModel", name := "rings", desc := "(I)I" } : Jvm.MethodName) : Cond) ∈ TB := TB_t 1069 (by decide +kernel) (by decide +kernel)
theorem tw_1070 : (Cond.instanceMethod ({ cls := "AnyOrderModel", name := "rings", desc := "(I)I" } : Jvm.MethodName) : Cond) ∈ TB := TB_t 1070 (by decide +kernel) (by decide +kernel)
theorem tw_1071 : (Cond.selects "AnyOrderModel" ({ cls := "AnyOrderModel", name := "rings", desc := "(I)I" } : Jvm.MethodName) ({ cls := "AnyOrderModel", name := "rings", desc := "(I)I" } : Jvm.MethodName) : Cond) ∈ TB := TB_t 1071 (by decide +kernel) (by decide +kernel)
theorem tw_1072 : (Cond.code ({ cls := "AnyOrderModel", name := "rings", desc := "(I)I" } : Jvm.MethodName) prog_14_method_31_code (2 : Nat) (Option.some Jvm.ClassFile.FieldType.int) : Cond) ∈ TB := TB_t 1072 (by decide +kernel) (by decide +kernel)
theorem tw_1073 : (Cond.methodLink "AnyOrderModel" (195 : Nat) ({ cls := "AnyOrderModel", name := "findRings", desc := "(I)V" } : Jvm.MethodName) : Cond) ∈ TB := TB_t 1073 (by decide +kernel) (by decide +kernel)
theorem tw_1075 : (Cond.instanceMethod ({ cls := "AnyOrderModel", name := "findRings", desc := "(I)V" } : Jvm.MethodName) : Cond) ∈ TB := TB_t 1075 (by decide +kernel) (by decide +kernel)
theorem tw_1076 : (Cond.code ({ cls := "AnyOrderModel", name := "findRings", desc := "(I)V" } : Jvm.MethodName) prog_14_method_30_code (3 : Nat) (Option.none : Option Jvm.ClassFile.FieldType) : Cond) ∈ TB := TB_t 1076 (by decide +kernel) (by decide +kernel)
theorem tw_1077 : (Cond.methodLink "AnyOrderModel" (189 : Nat) ({ cls := "AnyOrderModel", name := "isRing", desc := "(I)Z" } : Jvm.MethodName) : Cond) ∈ TB := TB_t 1077 (by decide +kernel) (by decide +kernel)
theorem tw_1079 : (Cond.instanceMethod ({ cls := "AnyOrderModel", name := "isRing", desc := "(I)Z" } : Jvm.MethodName) : Cond) ∈ TB := TB_t 1079 (by decide +kernel) (by decide +kernel)
theorem tw_1080 : (Cond.code ({ cls := "AnyOrderModel", name := "isRing", desc := "(I)Z" } : Jvm.MethodName) prog_14_method_29_code (2 : Nat) (Option.some Jvm.ClassFile.FieldType.boolean) : Cond) ∈ TB := TB_t 1080 (by decide +kernel) (by decide +kernel)
theorem tw_1081 : (Cond.methodLink "AnyOrderModel" (174 : Nat) ({ cls := "AnyOrderModel", name := "isAllowed", desc := "(I)Z" } : Jvm.MethodName) : Cond) ∈ TB := TB_t 1081 (by decide +kernel) (by decide +kernel)
theorem tw_1083 : (Cond.instanceMethod ({ cls := "AnyOrderModel", name := "isAllowed", desc := "(I)Z" } : Jvm.MethodName) : Cond) ∈ TB := TB_t 1083 (by decide +kernel) (by decide +kernel)
theorem tw_1084 : (Cond.code ({ cls := "AnyOrderModel", name := "isAllowed", desc := "(I)Z" } : Jvm.MethodName) prog_14_method_27_code (3 : Nat) (Option.some Jvm.ClassFile.FieldType.boolean) : Cond) ∈ TB := TB_t 1084 (by decide +kernel) (by decide +kernel)
theorem tw_1085 : (Cond.methodLink "AnyOrderModel" (177 : Nat) ({ cls := "AnyOrderModel", name := "timesOf", desc := "(I)I" } : Jvm.MethodName) : Cond) ∈ TB := TB_t 1085 (by decide +kernel) (by decide +kernel)
theorem tw_1087 : (Cond.instanceMethod ({ cls := "AnyOrderModel", name := "timesOf", desc := "(I)I" } : Jvm.MethodName) : Cond) ∈ TB := TB_t 1087 (by decide +kernel) (by decide +kernel)
theorem tw_1088 : (Cond.code ({ cls := "AnyOrderModel", name := "timesOf", desc := "(I)I" } : Jvm.MethodName) prog_14_method_26_code (5 : Nat) (Option.some Jvm.ClassFile.FieldType.int) : Cond) ∈ TB := TB_t 1088 (by decide +kernel) (by decide +kernel)
theorem tw_1089 : (Cond.methodLink "AnyOrderModel" (180 : Nat) ({ cls := "AnyOrderModel", name := "isFirstTurn", desc := "(I)Z" } : Jvm.MethodName) : Cond) ∈ TB := TB_t 1089 (by decide +kernel) (by decide +kernel)
theorem tw_1091 : (Cond.instanceMethod ({ cls := "AnyOrderModel", name := "isFirstTurn", desc := "(I)Z" } : Jvm.MethodName) : Cond) ∈ TB := TB_t 1091 (by decide +kernel) (by decide +kernel)
theorem tw_1092 : (Cond.code ({ cls := "AnyOrderModel", name := "isFirstTurn", desc := "(I)Z" } : Jvm.MethodName) prog_14_method_28_code (4 : Nat) (Option.some Jvm.ClassFile.FieldType.boolean) : Cond) ∈ TB := TB_t 1092 (by decide +kernel) (by decide +kernel)
theorem tw_1093 : (Cond.methodLink "AnyOrderModel" (192 : Nat) ({ cls := "AnyOrderModel", name := "trackAt", desc := "(I)J" } : Jvm.MethodName) : Cond) ∈ TB := TB_t 1093 (by decide +kernel) (by decide +kernel)
theorem tw_1095 : (Cond.instanceMethod ({ cls := "AnyOrderModel", name := "trackAt", desc := "(I)J" } : Jvm.MethodName) : Cond) ∈ TB := TB_t 1095 (by decide +kernel) (by decide +kernel)
theorem tw_1096 : (Cond.code ({ cls := "AnyOrderModel", name := "trackAt", desc := "(I)J" } : Jvm.MethodName) prog_14_method_19_code (5 : Nat) (Option.some Jvm.ClassFile.FieldType.long) : Cond) ∈ TB := TB_t 1096 (by decide +kernel) (by decide +kernel)
theorem tw_1097 : (Cond.methodLink "AnyOrderLaw" (51 : Nat) ({ cls := "AnyOrderModel", name := "ringTrack", desc := "(I)J" } : Jvm.MethodName) : Cond) ∈ TB := TB_t 1097 (by decide +kernel) (by decide +kernel)
theorem tw_1098 : (Cond.instanceMethod ({ cls := "AnyOrderModel", name := "ringTrack", desc := "(I)J" } : Jvm.MethodName) : Cond) ∈ TB := TB_t 1098 (by decide +kernel) (by decide +kernel)
theorem tw_1099 : (Cond.selects "AnyOrderModel" ({ cls := "AnyOrderModel", name := "ringTrack", desc := "(I)J" } : Jvm.MethodName) ({ cls := "AnyOrderModel", name := "ringTrack", desc := "(I)J" } : Jvm.MethodName) : Cond) ∈ TB := TB_t 1099 (by decide +kernel) (by decide +kernel)
theorem tw_1100 : (Cond.code ({ cls := "AnyOrderModel", name := "ringTrack", desc := "(I)J" } : Jvm.MethodName) prog_14_method_32_code (2 : Nat) (Option.some Jvm.ClassFile.FieldType.long) : Cond) ∈ TB := TB_t 1100 (by decide +kernel) (by decide +kernel)
theorem tw_1101 : (Cond.methodLink "AnyOrderLaw" (55 : Nat) ({ cls := "AnyOrderModel", name := "ring", desc := "(II)I" } : Jvm.MethodName) : Cond) ∈ TB := TB_t 1101 (by decide +kernel) (by decide +kernel)
theorem tw_1102 : (Cond.instanceMethod ({ cls := "AnyOrderModel", name := "ring", desc := "(II)I" } : Jvm.MethodName) : Cond) ∈ TB := TB_t 1102 (by decide +kernel) (by decide +kernel)
theorem tw_1103 : (Cond.selects "AnyOrderModel" ({ cls := "AnyOrderModel", name := "ring", desc := "(II)I" } : Jvm.MethodName) ({ cls := "AnyOrderModel", name := "ring", desc := "(II)I" } : Jvm.MethodName) : Cond) ∈ TB := TB_t 1103 (by decide +kernel) (by decide +kernel)
theorem tw_1104 : (Cond.code ({ cls := "AnyOrderModel", name := "ring", desc := "(II)I" } : Jvm.MethodName) prog_14_method_33_code (3 : Nat) (Option.some Jvm.ClassFile.FieldType.int) : Cond) ∈ TB := TB_t 1104 (by decide +kernel) (by decide +kernel)
theorem tw_1105 : (Cond.methodLink "AnyOrderLaw" (59 : Nat) ({ cls := "AnyOrderModel", name := "growth", desc := "(III)I" } : Jvm.MethodName) : Cond) ∈ TB := TB_t 1105 (by decide +kernel) (by decide +kernel)
theorem tw_1106 : (Cond.instanceMethod ({ cls := "AnyOrderModel", name := "growth", desc := "(III)I" } : Jvm.MethodName) : Cond) ∈ TB := TB_t 1106 (by decide +kernel) (by decide +kernel)
theorem tw_1107 : (Cond.selects "AnyOrderModel" ({ cls := "AnyOrderModel", name := "growth", desc := "(III)I" } : Jvm.MethodName) ({ cls := "AnyOrderModel", name := "growth", desc := "(III)I" } : Jvm.MethodName) : Cond) ∈ TB := TB_t 1107 (by decide +kernel) (by decide +kernel)
theorem tw_1108 : (Cond.code ({ cls := "AnyOrderModel", name := "growth", desc := "(III)I" } : Jvm.MethodName) prog_14_method_35_code (7 : Nat) (Option.some Jvm.ClassFile.FieldType.int) : Cond) ∈ TB := TB_t 1108 (by decide +kernel) (by decide +kernel)
theorem tw_1109 : (Cond.constantLong "AnyOrderModel" (198 : Nat) (7 : Int64) : Cond) ∈ TB := TB_t 1109 (by decide +kernel) (by decide +kernel)
theorem tw_1110 : (Cond.methodLink "AnyOrderModel" (200 : Nat) ({ cls := "AnyOrderModel", name := "power", desc := "(JI)J" } : Jvm.MethodName) : Cond) ∈ TB := TB_t 1110 (by decide +kernel) (by decide +kernel)
theorem tw_1111 : (Cond.static ({ cls := "AnyOrderModel", name := "power", desc := "(JI)J" } : Jvm.MethodName) : Cond) ∈ TB := TB_t 1111 (by decide +kernel) (by decide +kernel)
theorem tw_1112 : (Cond.code ({ cls := "AnyOrderModel", name := "power", desc := "(JI)J" } : Jvm.MethodName) prog_14_method_34_code (6 : Nat) (Option.some Jvm.ClassFile.FieldType.long) : Cond) ∈ TB := TB_t 1112 (by decide +kernel) (by decide +kernel)
theorem tw_1113 : (Cond.methodLink "AnyOrderLaw" (64 : Nat) ({ cls := "AnyOrderModel", name := "close", desc := "()I" } : Jvm.MethodName) : Cond) ∈ TB := TB_t 1113 (by decide +kernel) (by decide +kernel)
theorem tw_1114 : (Cond.instanceMethod ({ cls := "AnyOrderModel", name := "close", desc := "()I" } : Jvm.MethodName) : Cond) ∈ TB := TB_t 1114 (by decide +kernel) (by decide +kernel)
theorem tw_1115 : (Cond.selects "AnyOrderModel" ({ cls := "AnyOrderModel", name := "close", desc := "()I" } : Jvm.MethodName) ({ cls := "AnyOrderModel", name := "close", desc := "()I" } : Jvm.MethodName) : Cond) ∈ TB := TB_t 1115 (by decide +kernel) (by decide +kernel)
theorem tw_1116 : (Cond.code ({ cls := "AnyOrderModel", name := "close", desc := "()I" } : Jvm.MethodName) prog_14_method_40_code (4 : Nat) (Option.some Jvm.ClassFile.FieldType.int) : Cond) ∈ TB := TB_t 1116 (by decide +kernel) (by decide +kernel)
theorem tw_1117 : (Cond.methodLink "AnyOrderModel" (218 : Nat) ({ cls := "AnyOrderModel", name := "comes", desc := "(II)Z" } : Jvm.MethodName) : Cond) ∈ TB := TB_t 1117 (by decide +kernel) (by decide +kernel)
theorem tw_1119 : (Cond.instanceMethod ({ cls := "AnyOrderModel", name := "comes", desc := "(II)Z" } : Jvm.MethodName) : Cond) ∈ TB := TB_t 1119 (by decide +kernel) (by decide +kernel)
theorem tw_1120 : (Cond.code ({ cls := "AnyOrderModel", name := "comes", desc := "(II)Z" } : Jvm.MethodName) prog_14_method_38_code (5 : Nat) (Option.some Jvm.ClassFile.FieldType.boolean) : Cond) ∈ TB := TB_t 1120 (by decide +kernel) (by decide +kernel)
theorem tw_1121 : (Cond.constantLong "AnyOrderModel" (211 : Nat) (-1000000 : Int64) : Cond) ∈ TB := TB_t 1121 (by decide +kernel) (by decide +kernel)
theorem tw_1122 : (Cond.constantLong "AnyOrderModel" (213 : Nat) (1000000 : Int64) : Cond) ∈ TB := TB_t 1122 (by decide +kernel) (by decide +kernel)
theorem tw_1123 : (Cond.methodLink "AnyOrderModel" (215 : Nat) ({ cls := "AnyOrderModel", name := "findAt", desc := "(I)I" } : Jvm.MethodName) : Cond) ∈ TB := TB_t 1123 (by decide +kernel) (by decide +kernel)
theorem tw_1125 : (Cond.instanceMethod ({ cls := "AnyOrderModel", name := "findAt", desc := "(I)I" } : Jvm.MethodName) : Cond) ∈ TB := TB_t 1125 (by decide +kernel) (by decide +kernel)
theorem tw_1126 : (Cond.code ({ cls := "AnyOrderModel", name := "findAt", desc := "(I)I" } : Jvm.MethodName) prog_14_method_37_code (4 : Nat) (Option.some Jvm.ClassFile.FieldType.int) : Cond) ∈ TB := TB_t 1126 (by decide +kernel) (by decide +kernel)
theorem tw_1127 : (Cond.methodLink "AnyOrderModel" (208 : Nat) ({ cls := "AnyOrderModel", name := "chainOf", desc := "(I)I" } : Jvm.MethodName) : Cond) ∈ TB := TB_t 1127 (by decide +kernel) (by decide +kernel)
theorem tw_1129 : (Cond.instanceMethod ({ cls := "AnyOrderModel", name := "chainOf", desc := "(I)I" } : Jvm.MethodName) : Cond) ∈ TB := TB_t 1129 (by decide +kernel) (by decide +kernel)
theorem tw_1130 : (Cond.code ({ cls := "AnyOrderModel", name := "chainOf", desc := "(I)I" } : Jvm.MethodName) prog_14_method_36_code (5 : Nat) (Option.some Jvm.ClassFile.FieldType.int) : Cond) ∈ TB := TB_t 1130 (by decide +kernel) (by decide +kernel)
theorem tw_1131 : (Cond.constantLong "AnyOrderModel" (204 : Nat) (1000003 : Int64) : Cond) ∈ TB := TB_t 1131 (by decide +kernel) (by decide +kernel)
theorem tw_1132 : (Cond.constantLong "AnyOrderModel" (206 : Nat) (4095 : Int64) : Cond) ∈ TB := TB_t 1132 (by decide +kernel) (by decide +kernel)
theorem tw_1133 : (Cond.methodLink "AnyOrderModel" (221 : Nat) ({ cls := "AnyOrderModel", name := "layProduct", desc := "(II)V" } : Jvm.MethodName) : Cond) ∈ TB := TB_t 1133 (by decide +kernel) (by decide +kernel)
theorem tw_1135 : (Cond.instanceMethod ({ cls := "AnyOrderModel", name := "layProduct", desc := "(II)V" } : Jvm.MethodName) : Cond) ∈ TB := TB_t 1135 (by decide +kernel) (by decide +kernel)
theorem tw_1136 : (Cond.code ({ cls := "AnyOrderModel", name := "layProduct", desc := "(II)V" } : Jvm.MethodName) prog_14_method_39_code (4 : Nat) (Option.none : Option Jvm.ClassFile.FieldType) : Cond) ∈ TB := TB_t 1136 (by decide +kernel) (by decide +kernel)
theorem tw_1137 : (Cond.methodLink "AnyOrderLaw" (68 : Nat) ({ cls := "AnyOrderModel", name := "closed", desc := "(I)I" } : Jvm.MethodName) : Cond) ∈ TB := TB_t 1137 (by decide +kernel) (by decide +kernel)
theorem tw_1138 : (Cond.instanceMethod ({ cls := "AnyOrderModel", name := "closed", desc := "(I)I" } : Jvm.MethodName) : Cond) ∈ TB := TB_t 1138 (by decide +kernel) (by decide +kernel)
theorem tw_1139 : (Cond.selects "AnyOrderModel" ({ cls := "AnyOrderModel", name := "closed", desc := "(I)I" } : Jvm.MethodName) ({ cls := "AnyOrderModel", name := "closed", desc := "(I)I" } : Jvm.MethodName) : Cond) ∈ TB := TB_t 1139 (by decide +kernel) (by decide +kernel)
theorem tw_1140 : (Cond.code ({ cls := "AnyOrderModel", name := "closed", desc := "(I)I" } : Jvm.MethodName) prog_14_method_44_code (4 : Nat) (Option.some Jvm.ClassFile.FieldType.int) : Cond) ∈ TB := TB_t 1140 (by decide +kernel) (by decide +kernel)
theorem tw_1141 : (Cond.constantLong "AnyOrderModel" (224 : Nat) (4 : Int64) : Cond) ∈ TB := TB_t 1141 (by decide +kernel) (by decide +kernel)
theorem tw_1142 : (Cond.methodLink "AnyOrderModel" (226 : Nat) ({ cls := "AnyOrderModel", name := "isNought", desc := "(I)Z" } : Jvm.MethodName) : Cond) ∈ TB := TB_t 1142 (by decide +kernel) (by decide +kernel)
theorem tw_1144 : (Cond.instanceMethod ({ cls := "AnyOrderModel", name := "isNought", desc := "(I)Z" } : Jvm.MethodName) : Cond) ∈ TB := TB_t 1144 (by decide +kernel) (by decide +kernel)
theorem tw_1145 : (Cond.code ({ cls := "AnyOrderModel", name := "isNought", desc := "(I)Z" } : Jvm.MethodName) prog_14_method_42_code (4 : Nat) (Option.some Jvm.ClassFile.FieldType.boolean) : Cond) ∈ TB := TB_t 1145 (by decide +kernel) (by decide +kernel)
theorem tw_1146 : (Cond.methodLink "AnyOrderModel" (229 : Nat) ({ cls := "AnyOrderModel", name := "isOne", desc := "(I)Z" } : Jvm.MethodName) : Cond) ∈ TB := TB_t 1146 (by decide +kernel) (by decide +kernel)
theorem tw_1148 : (Cond.instanceMethod ({ cls := "AnyOrderModel", name := "isOne", desc := "(I)Z" } : Jvm.MethodName) : Cond) ∈ TB := TB_t 1148 (by decide +kernel) (by decide +kernel)
theorem tw_1149 : (Cond.code ({ cls := "AnyOrderModel", name := "isOne", desc := "(I)Z" } : Jvm.MethodName) prog_14_method_43_code (5 : Nat) (Option.some Jvm.ClassFile.FieldType.boolean) : Cond) ∈ TB := TB_t 1149 (by decide +kernel) (by decide +kernel)
theorem tw_1150 : (Cond.methodLink "AnyOrderModel" (232 : Nat) ({ cls := "AnyOrderModel", name := "multiply", desc := "(II)V" } : Jvm.MethodName) : Cond) ∈ TB := TB_t 1150 (by decide +kernel) (by decide +kernel)
theorem tw_1152 : (Cond.instanceMethod ({ cls := "AnyOrderModel", name := "multiply", desc := "(II)V" } : Jvm.MethodName) : Cond) ∈ TB := TB_t 1152 (by decide +kernel) (by decide +kernel)
theorem tw_1153 : (Cond.code ({ cls := "AnyOrderModel", name := "multiply", desc := "(II)V" } : Jvm.MethodName) prog_14_method_41_code (8 : Nat) (Option.none : Option Jvm.ClassFile.FieldType) : Cond) ∈ TB := TB_t 1153 (by decide +kernel) (by decide +kernel)
theorem tw_1154 : (Cond.methodLink "AnyOrderLaw" (72 : Nat) ({ cls := "AnyOrderModel", name := "product", desc := "(III)J" } : Jvm.MethodName) : Cond) ∈ TB := TB_t 1154 (by decide +kernel) (by decide +kernel)
theorem tw_1155 : (Cond.instanceMethod ({ cls := "AnyOrderModel", name := "product", desc := "(III)J" } : Jvm.MethodName) : Cond) ∈ TB := TB_t 1155 (by decide +kernel) (by decide +kernel)
theorem tw_1156 : (Cond.selects "AnyOrderModel" ({ cls := "AnyOrderModel", name := "product", desc := "(III)J" } : Jvm.MethodName) ({ cls := "AnyOrderModel", name := "product", desc := "(III)J" } : Jvm.MethodName) : Cond) ∈ TB := TB_t 1156 (by decide +kernel) (by decide +kernel)
theorem tw_1157 : (Cond.code ({ cls := "AnyOrderModel", name := "product", desc := "(III)J" } : Jvm.MethodName) prog_14_method_46_code (4 : Nat) (Option.some Jvm.ClassFile.FieldType.long) : Cond) ∈ TB := TB_t 1157 (by decide +kernel) (by decide +kernel)
theorem tw_1158 : (Cond.methodLink "AnyOrderModel" (235 : Nat) ({ cls := "AnyOrderModel", name := "isProduct", desc := "(I)Z" } : Jvm.MethodName) : Cond) ∈ TB := TB_t 1158 (by decide +kernel) (by decide +kernel)
theorem tw_1160 : (Cond.instanceMethod ({ cls := "AnyOrderModel", name := "isProduct", desc := "(I)Z" } : Jvm.MethodName) : Cond) ∈ TB := TB_t 1160 (by decide +kernel) (by decide +kernel)
theorem tw_1161 : (Cond.code ({ cls := "AnyOrderModel", name := "isProduct", desc := "(I)Z" } : Jvm.MethodName) prog_14_method_45_code (2 : Nat) (Option.some Jvm.ClassFile.FieldType.boolean) : Cond) ∈ TB := TB_t 1161 (by decide +kernel) (by decide +kernel)
theorem tw_1162 : (Cond.methodLink "AnyOrderLaw" (76 : Nat) ({ cls := "AnyOrderModel", name := "times", desc := "(II)I" } : Jvm.MethodName) : Cond) ∈ TB := TB_t 1162 (by decide +kernel) (by decide +kernel)
theorem tw_1163 : (Cond.instanceMethod ({ cls := "AnyOrderModel", name := "times", desc := "(II)I" } : Jvm.MethodName) : Cond) ∈ TB := TB_t 1163 (by decide +kernel) (by decide +kernel)
theorem tw_1164 : (Cond.selects "AnyOrderModel" ({ cls := "AnyOrderModel", name := "times", desc := "(II)I" } : Jvm.MethodName) ({ cls := "AnyOrderModel", name := "times", desc := "(II)I" } : Jvm.MethodName) : Cond) ∈ TB := TB_t 1164 (by decide +kernel) (by decide +kernel)
theorem tw_1165 : (Cond.code ({ cls := "AnyOrderModel", name := "times", desc := "(II)I" } : Jvm.MethodName) prog_14_method_47_code (3 : Nat) (Option.some Jvm.ClassFile.FieldType.int) : Cond) ∈ TB := TB_t 1165 (by decide +kernel) (by decide +kernel)
theorem tw_1166 : (Cond.methodLink "AnyOrderLaw" (81 : Nat) ({ cls := "AnyOrderModel", name := "word", desc := "(IIII)I" } : Jvm.MethodName) : Cond) ∈ TB := TB_t 1166 (by decide +kernel) (by decide +kernel)
theorem tw_1167 : (Cond.instanceMethod ({ cls := "AnyOrderModel", name := "word", desc := "(IIII)I" } : Jvm.MethodName) : Cond) ∈ TB := TB_t 1167 (by decide +kernel) (by decide +kernel)
theorem tw_1168 : (Cond.selects "AnyOrderModel" ({ cls := "AnyOrderModel", name := "word", desc := "(IIII)I" } : Jvm.MethodName) ({ cls := "AnyOrderModel", name := "word", desc := "(IIII)I" } : Jvm.MethodName) : Cond) ∈ TB := TB_t 1168 (by decide +kernel) (by decide +kernel)
theorem tw_1169 : (Cond.code ({ cls := "AnyOrderModel", name := "word", desc := "(IIII)I" } : Jvm.MethodName) prog_14_method_49_code (7 : Nat) (Option.some Jvm.ClassFile.FieldType.int) : Cond) ∈ TB := TB_t 1169 (by decide +kernel) (by decide +kernel)
theorem tw_1170 : (Cond.constantLong "AnyOrderModel" (238 : Nat) (12 : Int64) : Cond) ∈ TB := TB_t 1170 (by decide +kernel) (by decide +kernel)
theorem tw_1171 : (Cond.methodLink "AnyOrderLaw" (85 : Nat) ({ cls := "AnyOrderModel", name := "join", desc := "(II)I" } : Jvm.MethodName) : Cond) ∈ TB := TB_t 1171 (by decide +kernel) (by decide +kernel)
theorem tw_1172 : (Cond.instanceMethod ({ cls := "AnyOrderModel", name := "join", desc := "(II)I" } : Jvm.MethodName) : Cond) ∈ TB := TB_t 1172 (by decide +kernel) (by decide +kernel)
theorem tw_1173 : (Cond.selects "AnyOrderModel" ({ cls := "AnyOrderModel", name := "join", desc := "(II)I" } : Jvm.MethodName) ({ cls := "AnyOrderModel", name := "join", desc := "(II)I" } : Jvm.MethodName) : Cond) ∈ TB := TB_t 1173 (by decide +kernel) (by decide +kernel)
theorem tw_1174 : (Cond.code ({ cls := "AnyOrderModel", name := "join", desc := "(II)I" } : Jvm.MethodName) prog_14_method_50_code (4 : Nat) (Option.some Jvm.ClassFile.FieldType.int) : Cond) ∈ TB := TB_t 1174 (by decide +kernel) (by decide +kernel)
theorem tw_1175 : (Cond.methodLink "AnyOrderModel" (240 : Nat) ({ cls := "AnyOrderModel", name := "isWord", desc := "(I)Z" } : Jvm.MethodName) : Cond) ∈ TB := TB_t 1175 (by decide +kernel) (by decide +kernel)
theorem tw_1177 : (Cond.instanceMethod ({ cls := "AnyOrderModel", name := "isWord", desc := "(I)Z" } : Jvm.MethodName) : Cond) ∈ TB := TB_t 1177 (by decide +kernel) (by decide +kernel)
theorem tw_1178 : (Cond.code ({ cls := "AnyOrderModel", name := "isWord", desc := "(I)Z" } : Jvm.MethodName) prog_14_method_48_code (2 : Nat) (Option.some Jvm.ClassFile.FieldType.boolean) : Cond) ∈ TB := TB_t 1178 (by decide +kernel) (by decide +kernel)
theorem tw_1179 : (Cond.methodLink "AnyOrderLaw" (89 : Nat) ({ cls := "AnyOrderModel", name := "letter", desc := "(II)I" } : Jvm.MethodName) : Cond) ∈ TB := TB_t 1179 (by decide +kernel) (by decide +kernel)
theorem tw_1180 : (Cond.instanceMethod ({ cls := "AnyOrderModel", name := "letter", desc := "(II)I" } : Jvm.MethodName) : Cond) ∈ TB := TB_t 1180 (by decide +kernel) (by decide +kernel)
theorem tw_1181 : (Cond.selects "AnyOrderModel" ({ cls := "AnyOrderModel", name := "letter", desc := "(II)I" } : Jvm.MethodName) ({ cls := "AnyOrderModel", name := "letter", desc := "(II)I" } : Jvm.MethodName) : Cond) ∈ TB := TB_t 1181 (by decide +kernel) (by decide +kernel)
theorem tw_1182 : (Cond.code ({ cls := "AnyOrderModel", name := "letter", desc := "(II)I" } : Jvm.MethodName) prog_14_method_51_code (3 : Nat) (Option.some Jvm.ClassFile.FieldType.int) : Cond) ∈ TB := TB_t 1182 (by decide +kernel) (by decide +kernel)
theorem tw_1183 : (Cond.methodLink "AnyOrderLaw" (93 : Nat) ({ cls := "AnyOrderModel", name := "about", desc := "(II)I" } : Jvm.MethodName) : Cond) ∈ TB := TB_t 1183 (by decide +kernel) (by decide +kernel)
theorem tw_1184 : (Cond.instanceMethod ({ cls := "AnyOrderModel", name := "about", desc := "(II)I" } : Jvm.MethodName) : Cond) ∈ TB := TB_t 1184 (by decide +kernel) (by decide +kernel)
theorem tw_1185 : (Cond.selects "AnyOrderModel" ({ cls := "AnyOrderModel", name := "about", desc := "(II)I" } : Jvm.MethodName) ({ cls := "AnyOrderModel", name := "about", desc := "(II)I" } : Jvm.MethodName) : Cond) ∈ TB := TB_t 1185 (by decide +kernel) (by decide +kernel)
theorem tw_1186 : (Cond.code ({ cls := "AnyOrderModel", name := "about", desc := "(II)I" } : Jvm.MethodName) prog_14_method_52_code (5 : Nat) (Option.some Jvm.ClassFile.FieldType.int) : Cond) ∈ TB := TB_t 1186 (by decide +kernel) (by decide +kernel)
theorem tw_1187 : (Cond.methodLink "AnyOrderLaw" (97 : Nat) ({ cls := "AnyOrderModel", name := "entryOf", desc := "(III)J" } : Jvm.MethodName) : Cond) ∈ TB := TB_t 1187 (by decide +kernel) (by decide +kernel)
theorem tw_1188 : (Cond.instanceMethod ({ cls := "AnyOrderModel", name := "entryOf", desc := "(III)J" } : Jvm.MethodName) : Cond) ∈ TB := TB_t 1188 (by decide +kernel) (by decide +kernel)
theorem tw_1189 : (Cond.selects "AnyOrderModel" ({ cls := "AnyOrderModel", name := "entryOf", desc := "(III)J" } : Jvm.MethodName) ({ cls := "AnyOrderModel", name := "entryOf", desc := "(III)J" } : Jvm.MethodName) : Cond) ∈ TB := TB_t 1189 (by decide +kernel) (by decide +kernel)
theorem tw_1190 : (Cond.code ({ cls := "AnyOrderModel", name := "entryOf", desc := "(III)J" } : Jvm.MethodName) prog_14_method_54_code (4 : Nat) (Option.some Jvm.ClassFile.FieldType.long) : Cond) ∈ TB := TB_t 1190 (by decide +kernel) (by decide +kernel)
theorem tw_1191 : (Cond.methodLink "AnyOrderModel" (243 : Nat) ({ cls := "AnyOrderModel", name := "multiplyOut", desc := "(I)V" } : Jvm.MethodName) : Cond) ∈ TB := TB_t 1191 (by decide +kernel) (by decide +kernel)
theorem tw_1193 : (Cond.instanceMethod ({ cls := "AnyOrderModel", name := "multiplyOut", desc := "(I)V" } : Jvm.MethodName) : Cond) ∈ TB := TB_t 1193 (by decide +kernel) (by decide +kernel)
theorem tw_1194 : (Cond.code ({ cls := "AnyOrderModel", name := "multiplyOut", desc := "(I)V" } : Jvm.MethodName) prog_14_method_53_code (3 : Nat) (Option.none : Option Jvm.ClassFile.FieldType) : Cond) ∈ TB := TB_t 1194 (by decide +kernel) (by decide +kernel)
theorem tw_1195 : (Cond.methodLink "AnyOrderLaw" (101 : Nat) ({ cls := "AnyOrderModel", name := "size", desc := "(II)J" } : Jvm.MethodName) : Cond) ∈ TB := TB_t 1195 (by decide +kernel) (by decide +kernel)
theorem tw_1196 : (Cond.instanceMethod ({ cls := "AnyOrderModel", name := "size", desc := "(II)J" } : Jvm.MethodName) : Cond) ∈ TB := TB_t 1196 (by decide +kernel) (by decide +kernel)
theorem tw_1197 : (Cond.selects "AnyOrderModel" ({ cls := "AnyOrderModel", name := "size", desc := "(II)J" } : Jvm.MethodName) ({ cls := "AnyOrderModel", name := "size", desc := "(II)J" } : Jvm.MethodName) : Cond) ∈ TB := TB_t 1197 (by decide +kernel) (by decide +kernel)
theorem tw_1198 : (Cond.code ({ cls := "AnyOrderModel", name := "size", desc := "(II)J" } : Jvm.MethodName) prog_14_method_55_code (3 : Nat) (Option.some Jvm.ClassFile.FieldType.long) : Cond) ∈ TB := TB_t 1198 (by decide +kernel) (by decide +kernel)
theorem tw_1199 : (Cond.methodLink "AnyOrderLaw" (105 : Nat) ({ cls := "AnyOrderModel", name := "sheet", desc := "(III)I" } : Jvm.MethodName) : Cond) ∈ TB := TB_t 1199 (by decide +kernel) (by decide +kernel)
theorem tw_1200 : (Cond.instanceMethod ({ cls := "AnyOrderModel", name := "sheet", desc := "(III)I" } : Jvm.MethodName) : Cond) ∈ TB := TB_t 1200 (by decide +kernel) (by decide +kernel)
theorem tw_1201 : (Cond.selects "AnyOrderModel" ({ cls := "AnyOrderModel", name := "sheet", desc := "(III)I" } : Jvm.MethodName) ({ cls := "AnyOrderModel", name := "sheet", desc := "(III)I" } : Jvm.MethodName) : Cond) ∈ TB := TB_t 1201 (by decide +kernel) (by decide +kernel)
theorem tw_1202 : (Cond.code ({ cls := "AnyOrderModel", name := "sheet", desc := "(III)I" } : Jvm.MethodName) prog_14_method_56_code (5 : Nat) (Option.some Jvm.ClassFile.FieldType.int) : Cond) ∈ TB := TB_t 1202 (by decide +kernel) (by decide +kernel)
theorem tw_1203 : (Cond.methodLink "AnyOrderLaw" (109 : Nat) ({ cls := "AnyOrderModel", name := "lose", desc := "(I)I" } : Jvm.MethodName) : Cond) ∈ TB := TB_t 1203 (by decide +kernel) (by decide +kernel)
theorem tw_1204 : (Cond.instanceMethod ({ cls := "AnyOrderModel", name := "lose", desc := "(I)I" } : Jvm.MethodName) : Cond) ∈ TB := TB_t 1204 (by decide +kernel) (by decide +kernel)
theorem tw_1205 : (Cond.selects "AnyOrderModel" ({ cls := "AnyOrderModel", name := "lose", desc := "(I)I" } : Jvm.MethodName) ({ cls := "AnyOrderModel", name := "lose", desc := "(I)I" } : Jvm.MethodName) : Cond) ∈ TB := TB_t 1205 (by decide +kernel) (by decide +kernel)
theorem tw_1206 : (Cond.code ({ cls := "AnyOrderModel", name := "lose", desc := "(I)I" } : Jvm.MethodName) prog_14_method_57_code (3 : Nat) (Option.some Jvm.ClassFile.FieldType.int) : Cond) ∈ TB := TB_t 1206 (by decide +kernel) (by decide +kernel)
theorem tw_1207 : (Cond.methodLink "AnyOrderLaw" (113 : Nat) ({ cls := "AnyOrderModel", name := "put", desc := "(III)I" } : Jvm.MethodName) : Cond) ∈ TB := TB_t 1207 (by decide +kernel) (by decide +kernel)
theorem tw_1208 : (Cond.instanceMethod ({ cls := "AnyOrderModel", name := "put", desc := "(III)I" } : Jvm.MethodName) : Cond) ∈ TB := TB_t 1208 (by decide +kernel) (by decide +kernel)
theorem tw_1209 : (Cond.selects "AnyOrderModel" ({ cls := "AnyOrderModel", name := "put", desc := "(III)I" } : Jvm.MethodName) ({ cls := "AnyOrderModel", name := "put", desc := "(III)I" } : Jvm.MethodName) : Cond) ∈ TB := TB_t 1209 (by decide +kernel) (by decide +kernel)
theorem tw_1210 : (Cond.code ({ cls := "AnyOrderModel", name := "put", desc := "(III)I" } : Jvm.MethodName) prog_14_method_58_code (4 : Nat) (Option.some Jvm.ClassFile.FieldType.int) : Cond) ∈ TB := TB_t 1210 (by decide +kernel) (by decide +kernel)
theorem tw_1211 : (Cond.methodLink "AnyOrderLaw" (117 : Nat) ({ cls := "AnyOrderModel", name := "at", desc := "(III)J" } : Jvm.MethodName) : Cond) ∈ TB := TB_t 1211 (by decide +kernel) (by decide +kernel)
theorem tw_1212 : (Cond.instanceMethod ({ cls := "AnyOrderModel", name := "at", desc := "(III)J" } : Jvm.MethodName) : Cond) ∈ TB := TB_t 1212 (by decide +kernel) (by decide +kernel)
theorem tw_1213 : (Cond.selects "AnyOrderModel" ({ cls := "AnyOrderModel", name := "at", desc := "(III)J" } : Jvm.MethodName) ({ cls := "AnyOrderModel", name := "at", desc := "(III)J" } : Jvm.MethodName) : Cond) ∈ TB := TB_t 1213 (by decide +kernel) (by decide +kernel)
theorem tw_1214 : (Cond.code ({ cls := "AnyOrderModel", name := "at", desc := "(III)J" } : Jvm.MethodName) prog_14_method_59_code (4 : Nat) (Option.some Jvm.ClassFile.FieldType.long) : Cond) ∈ TB := TB_t 1214 (by decide +kernel) (by decide +kernel)
theorem tw_1215 : (Cond.methodLink "AnyOrderModel" (246 : Nat) ({ cls := "AnyOrderModel", name := "lost", desc := "(I)J" } : Jvm.MethodName) : Cond) ∈ TB := TB_t 1215 (by decide +kernel) (by decide +kernel)
theorem tw_1217 : (Cond.instanceMethod ({ cls := "AnyOrderModel", name := "lost", desc := "(I)J" } : Jvm.MethodName) : Cond) ∈ TB := TB_t 1217 (by decide +kernel) (by decide +kernel)
theorem tw_1218 : (Cond.code ({ cls := "AnyOrderModel", name := "lost", desc := "(I)J" } : Jvm.MethodName) prog_14_method_4_code (2 : Nat) (Option.some Jvm.ClassFile.FieldType.long) : Cond) ∈ TB := TB_t 1218 (by decide +kernel) (by decide +kernel)
theorem tw_1219 : (Cond.methodLink "AnyOrderLaw" (121 : Nat) ({ cls := "AnyOrderModel", name := "tell", desc := "(I)I" } : Jvm.MethodName) : Cond) ∈ TB := TB_t 1219 (by decide +kernel) (by decide +kernel)
theorem tw_1220 : (Cond.instanceMethod ({ cls := "AnyOrderModel", name := "tell", desc := "(I)I" } : Jvm.MethodName) : Cond) ∈ TB := TB_t 1220 (by decide +kernel) (by decide +kernel)
theorem tw_1221 : (Cond.selects "AnyOrderModel" ({ cls := "AnyOrderModel", name := "tell", desc := "(I)I" } : Jvm.MethodName) ({ cls := "AnyOrderModel", name := "tell", desc := "(I)I" } : Jvm.MethodName) : Cond) ∈ TB := TB_t 1221 (by decide +kernel) (by decide +kernel)
theorem tw_1222 : (Cond.code ({ cls := "AnyOrderModel", name := "tell", desc := "(I)I" } : Jvm.MethodName) prog_14_method_64_code (3 : Nat) (Option.some Jvm.ClassFile.FieldType.int) : Cond) ∈ TB := TB_t 1222 (by decide +kernel) (by decide +kernel)
theorem tw_1223 : (Cond.methodLink "AnyOrderModel" (252 : Nat) ({ cls := "AnyOrderModel", name := "kindOf", desc := "(I)I" } : Jvm.MethodName) : Cond) ∈ TB := TB_t 1223 (by decide +kernel) (by decide +kernel)
theorem tw_1225 : (Cond.instanceMethod ({ cls := "AnyOrderModel", name := "kindOf", desc := "(I)I" } : Jvm.MethodName) : Cond) ∈ TB := TB_t 1225 (by decide +kernel) (by decide +kernel)
theorem tw_1226 : (Cond.code ({ cls := "AnyOrderModel", name := "kindOf", desc := "(I)I" } : Jvm.MethodName) prog_14_method_63_code (9 : Nat) (Option.some Jvm.ClassFile.FieldType.int) : Cond) ∈ TB := TB_t 1226 (by decide +kernel) (by decide +kernel)
theorem tw_1227 : (Cond.methodLink "AnyOrderModel" (255 : Nat) ({ cls := "AnyOrderModel", name := "begins", desc := "(I)V" } : Jvm.MethodName) : Cond) ∈ TB := TB_t 1227 (by decide +kernel) (by decide +kernel)
theorem tw_1229 : (Cond.instanceMethod ({ cls := "AnyOrderModel", name := "begins", desc := "(I)V" } : Jvm.MethodName) : Cond) ∈ TB := TB_t 1229 (by decide +kernel) (by decide +kernel)
theorem tw_1230 : (Cond.code ({ cls := "AnyOrderModel", name := "begins", desc := "(I)V" } : Jvm.MethodName) prog_14_method_60_code (2 : Nat) (Option.none : Option Jvm.ClassFile.FieldType) : Cond) ∈ TB := TB_t 1230 (by decide +kernel) (by decide +kernel)
theorem tw_1231 : (Cond.methodLink "AnyOrderModel" (258 : Nat) ({ cls := "AnyOrderModel", name := "trackOf", desc := "(I)I" } : Jvm.MethodName) : Cond) ∈ TB := TB_t 1231 (by decide +kernel) (by decide +kernel)
theorem tw_1233 : (Cond.instanceMethod ({ cls := "AnyOrderModel", name := "trackOf", desc := "(I)I" } : Jvm.MethodName) : Cond) ∈ TB := TB_t 1233 (by decide +kernel) (by decide +kernel)
theorem tw_1234 : (Cond.code ({ cls := "AnyOrderModel", name := "trackOf", desc := "(I)I" } : Jvm.MethodName) prog_14_method_62_code (4 : Nat) (Option.some Jvm.ClassFile.FieldType.int) : Cond) ∈ TB := TB_t 1234 (by decide +kernel) (by decide +kernel)
theorem tw_1235 : (Cond.methodLink "AnyOrderModel" (261 : Nat) ({ cls := "AnyOrderModel", name := "greatestOf", desc := "(I)I" } : Jvm.MethodName) : Cond) ∈ TB := TB_t 1235 (by decide +kernel) (by decide +kernel)
theorem tw_1237 : (Cond.instanceMethod ({ cls := "AnyOrderModel", name := "greatestOf", desc := "(I)I" } : Jvm.MethodName) : Cond) ∈ TB := TB_t 1237 (by decide +kernel) (by decide +kernel)
theorem tw_1238 : (Cond.code ({ cls := "AnyOrderModel", name := "greatestOf", desc := "(I)I" } : Jvm.MethodName) prog_14_method_61_code (4 : Nat) (Option.some Jvm.ClassFile.FieldType.int) : Cond) ∈ TB := TB_t 1238 (by decide +kernel) (by decide +kernel)
theorem tw_1239 : (Cond.methodLink "AnyOrderLaw" (125 : Nat) ({ cls := "AnyOrderModel", name := "weigh", desc := "(I)I" } : Jvm.MethodName) : Cond) ∈ TB := TB_t 1239 (by decide +kernel) (by decide +kernel)
theorem tw_1240 : (Cond.instanceMethod ({ cls := "AnyOrderModel", name := "weigh", desc := "(I)I" } : Jvm.MethodName) : Cond) ∈ TB := TB_t 1240 (by decide +kernel) (by decide +kernel)
theorem tw_1241 : (Cond.selects "AnyOrderModel" ({ cls := "AnyOrderModel", name := "weigh", desc := "(I)I" } : Jvm.MethodName) ({ cls := "AnyOrderModel", name := "weigh", desc := "(I)I" } : Jvm.MethodName) : Cond) ∈ TB := TB_t 1241 (by decide +kernel) (by decide +kernel)
theorem tw_1242 : (Cond.code ({ cls := "AnyOrderModel", name := "weigh", desc := "(I)I" } : Jvm.MethodName) prog_14_method_65_code (3 : Nat) (Option.some Jvm.ClassFile.FieldType.int) : Cond) ∈ TB := TB_t 1242 (by decide +kernel) (by decide +kernel)
theorem tw_1243 : (Cond.methodLink "AnyOrderLaw" (129 : Nat) ({ cls := "AnyOrderModel", name := "as", desc := "(II)I" } : Jvm.MethodName) : Cond) ∈ TB := TB_t 1243 (by decide +kernel) (by decide +kernel)
theorem tw_1244 : (Cond.instanceMethod ({ cls := "AnyOrderModel", name := "as", desc := "(II)I" } : Jvm.MethodName) : Cond) ∈ TB := TB_t 1244 (by decide +kernel) (by decide +kernel)
theorem tw_1245 : (Cond.selects "AnyOrderModel" ({ cls := "AnyOrderModel", name := "as", desc := "(II)I" } : Jvm.MethodName) ({ cls := "AnyOrderModel", name := "as", desc := "(II)I" } : Jvm.MethodName) : Cond) ∈ TB := TB_t 1245 (by decide +kernel) (by decide +kernel)
theorem tw_1246 : (Cond.code ({ cls := "AnyOrderModel", name := "as", desc := "(II)I" } : Jvm.MethodName) prog_14_method_66_code (3 : Nat) (Option.some Jvm.ClassFile.FieldType.int) : Cond) ∈ TB := TB_t 1246 (by decide +kernel) (by decide +kernel)
theorem tw_1247 : (Cond.methodLink "AnyOrderLaw" (133 : Nat) ({ cls := "AnyOrderModel", name := "history", desc := "()I" } : Jvm.MethodName) : Cond) ∈ TB := TB_t 1247 (by decide +kernel) (by decide +kernel)
theorem tw_1248 : (Cond.instanceMethod ({ cls := "AnyOrderModel", name := "history", desc := "()I" } : Jvm.MethodName) : Cond) ∈ TB := TB_t 1248 (by decide +kernel) (by decide +kernel)
theorem tw_1249 : (Cond.selects "AnyOrderModel" ({ cls := "AnyOrderModel", name := "history", desc := "()I" } : Jvm.MethodName) ({ cls := "AnyOrderModel", name := "history", desc := "()I" } : Jvm.MethodName) : Cond) ∈ TB := TB_t 1249 (by decide +kernel) (by decide +kernel)
theorem tw_1250 : (Cond.code ({ cls := "AnyOrderModel", name := "history", desc := "()I" } : Jvm.MethodName) prog_14_method_67_code (1 : Nat) (Option.some Jvm.ClassFile.FieldType.int) : Cond) ∈ TB := TB_t 1250 (by decide +kernel) (by decide +kernel)
theorem tw_1251 : (Cond.methodLink "AnyOrderLaw" (137 : Nat) ({ cls := "AnyOrderModel", name := "fault", desc := "()I" } : Jvm.MethodName) : Cond) ∈ TB := TB_t 1251 (by decide +kernel) (by decide +kernel)
theorem tw_1252 : (Cond.instanceMethod ({ cls := "AnyOrderModel", name := "fault", desc := "()I" } : Jvm.MethodName) : Cond) ∈ TB := TB_t 1252 (by decide +kernel) (by decide +kernel)
theorem tw_1253 : (Cond.selects "AnyOrderModel" ({ cls := "AnyOrderModel", name := "fault", desc := "()I" } : Jvm.MethodName) ({ cls := "AnyOrderModel", name := "fault", desc := "()I" } : Jvm.MethodName) : Cond) ∈ TB := TB_t 1253 (by decide +kernel) (by decide +kernel)
theorem tw_1254 : (Cond.code ({ cls := "AnyOrderModel", name := "fault", desc := "()I" } : Jvm.MethodName) prog_14_method_68_code (1 : Nat) (Option.some Jvm.ClassFile.FieldType.int) : Cond) ∈ TB := TB_t 1254 (by decide +kernel) (by decide +kernel)
theorem tw_1255 : (Cond.methodLink "AnyOrderLaw" (141 : Nat) ({ cls := "AnyOrderModel", name := "told", desc := "(I)I" } : Jvm.MethodName) : Cond) ∈ TB := TB_t 1255 (by decide +kernel) (by decide +kernel)
theorem tw_1256 : (Cond.instanceMethod ({ cls := "AnyOrderModel", name := "told", desc := "(I)I" } : Jvm.MethodName) : Cond) ∈ TB := TB_t 1256 (by decide +kernel) (by decide +kernel)
theorem tw_1257 : (Cond.selects "AnyOrderModel" ({ cls := "AnyOrderModel", name := "told", desc := "(I)I" } : Jvm.MethodName) ({ cls := "AnyOrderModel", name := "told", desc := "(I)I" } : Jvm.MethodName) : Cond) ∈ TB := TB_t 1257 (by decide +kernel) (by decide +kernel)
theorem tw_1258 : (Cond.code ({ cls := "AnyOrderModel", name := "told", desc := "(I)I" } : Jvm.MethodName) prog_14_method_69_code (5 : Nat) (Option.some Jvm.ClassFile.FieldType.int) : Cond) ∈ TB := TB_t 1258 (by decide +kernel) (by decide +kernel)
theorem tw_1259 : (Cond.sameMethod "AnyOrder$EvenTable" "AnyOrder$EvenTable" "telling" "(LAnyOrder$Trail;)I" : Cond) ∈ TB := TB_t 1259 (by decide +kernel) (by decide +kernel)
theorem tw_1260 : (Cond.sameMethod "AnyOrder$Table" "AnyOrder$Table" "plainTelling" "(LAnyOrder$Trail;)I" : Cond) ∈ TB := TB_t 1260 (by decide +kernel) (by decide +kernel)
theorem tw_1261 : (Cond.selects "AnyOrder$EvenTable" ({ cls := "AnyOrder$Table", name := "plainTelling", desc := "(LAnyOrder$Trail;)I" } : Jvm.MethodName) ({ cls := "AnyOrder$Table", name := "plainTelling", desc := "(LAnyOrder$Trail;)I" } : Jvm.MethodName) : Cond) ∈ TB := TB_t 1261 (by decide +kernel) (by decide +kernel)
theorem tw_1262 : (Cond.selects "AnyOrder$ShuffleTable" ({ cls := "AnyOrder$Table", name := "plainTelling", desc := "(LAnyOrder$Trail;)I" } : Jvm.MethodName) ({ cls := "AnyOrder$Table", name := "plainTelling", desc := "(LAnyOrder$Trail;)I" } : Jvm.MethodName) : Cond) ∈ TB := TB_t 1262 (by decide +kernel) (by decide +kernel)
theorem tw_1263 : (Cond.selects "AnyOrder$Table" ({ cls := "AnyOrder$Table", name := "plainTelling", desc := "(LAnyOrder$Trail;)I" } : Jvm.MethodName) ({ cls := "AnyOrder$Table", name := "plainTelling", desc := "(LAnyOrder$Trail;)I" } : Jvm.MethodName) : Cond) ∈ TB := TB_t 1263 (by decide +kernel) (by decide +kernel)
theorem tw_1264 : (Cond.sameMethod "AnyOrder$EvenTable" "AnyOrder$EvenTable" "isOfKind" "(I)Z" : Cond) ∈ TB := TB_t 1264 (by decide +kernel) (by decide +kernel)
theorem ts_0 : (Cond.selects "AnyOrder$Tables" ⟨"AnyOrder$Tables", "allowAll", "()V"⟩ ⟨"AnyOrder$Tables", "allowAll", "()V"⟩) ∈ TB := TB_of (List.mem_append_left _ (by decide +kernel)) (by decide +kernel)
theorem ts_1 : (Cond.selects "AnyOrder" ⟨"AnyOrder", "addTable", "(III)I"⟩ ⟨"AnyOrder", "addTable", "(III)I"⟩) ∈ TB := TB_of (List.mem_append_left _ (by decide +kernel)) (by decide +kernel)
theorem ts_2 : (Cond.selects "AnyOrder" ⟨"AnyOrder", "lookAtCells", "(IIII)I"⟩ ⟨"AnyOrder", "lookAtCells", "(IIII)I"⟩) ∈ TB := TB_of (List.mem_append_left _ (by decide +kernel)) (by decide +kernel)
theorem ts_3 : (Cond.selects "AnyOrder$Tables" ⟨"AnyOrder$Tables", "restOf", "(J)J"⟩ ⟨"AnyOrder$Tables", "restOf", "(J)J"⟩) ∈ TB := TB_of (List.mem_append_left _ (by decide +kernel)) (by decide +kernel)
theorem ts_4 : (Cond.selects "AnyOrder$Tables" ⟨"AnyOrder$Tables", "makeTable", "(I[I)LAnyOrder$Table;"⟩ ⟨"AnyOrder$Tables", "makeTable", "(I[I)LAnyOrder$Table;"⟩) ∈ TB := TB_of (List.mem_append_left _ (by decide +kernel)) (by decide +kernel)
theorem ts_5 : (Cond.selects "AnyOrder$Tables" ⟨"AnyOrder$Tables", "isShuffle", "([I)Z"⟩ ⟨"AnyOrder$Tables", "isShuffle", "([I)Z"⟩) ∈ TB := TB_of (List.mem_append_left _ (by decide +kernel)) (by decide +kernel)
theorem ts_6 : (Cond.selects "AnyOrder$Tables" ⟨"AnyOrder$Tables", "isEven", "([I)Z"⟩ ⟨"AnyOrder$Tables", "isEven", "([I)Z"⟩) ∈ TB := TB_of (List.mem_append_left _ (by decide +kernel)) (by decide +kernel)
theorem ts_7 : (Cond.selects "AnyOrder" ⟨"AnyOrder", "settle", "(I)I"⟩ ⟨"AnyOrder", "settle", "(I)I"⟩) ∈ TB := TB_of (List.mem_append_left _ (by decide +kernel)) (by decide +kernel)
theorem ts_8 : (Cond.selects "AnyOrder$Lengths" ⟨"AnyOrder$Lengths", "findWays", "()V"⟩ ⟨"AnyOrder$Lengths", "findWays", "()V"⟩) ∈ TB := TB_of (List.mem_append_left _ (by decide +kernel)) (by decide +kernel)
theorem ts_9 : (Cond.selects "AnyOrder$Lengths" ⟨"AnyOrder$Lengths", "countWays", "(II)I"⟩ ⟨"AnyOrder$Lengths", "countWays", "(II)I"⟩) ∈ TB := TB_of (List.mem_append_left _ (by decide +kernel)) (by decide +kernel)
theorem ts_10 : (Cond.selects "AnyOrder$Lengths" ⟨"AnyOrder$Lengths", "noteWord", "(LAnyOrder$Survey;I)V"⟩ ⟨"AnyOrder$Lengths", "noteWord", "(LAnyOrder$Survey;I)V"⟩) ∈ TB := TB_of (List.mem_append_left _ (by decide +kernel)) (by decide +kernel)
theorem ts_11 : (Cond.selects "AnyOrder$Lengths" ⟨"AnyOrder$Lengths", "leadsOn", "(III)Z"⟩ ⟨"AnyOrder$Lengths", "leadsOn", "(III)Z"⟩) ∈ TB := TB_of (List.mem_append_left _ (by decide +kernel)) (by decide +kernel)
theorem ts_12 : (Cond.selects "AnyOrder$Lengths" ⟨"AnyOrder$Lengths", "extendPrefix", "(II)V"⟩ ⟨"AnyOrder$Lengths", "extendPrefix", "(II)V"⟩) ∈ TB := TB_of (List.mem_append_left _ (by decide +kernel)) (by decide +kernel)
theorem ts_13 : (Cond.selects "AnyOrder$Closure" ⟨"AnyOrder$Closure", "findAll", "()Z"⟩ ⟨"AnyOrder$Closure", "findAll", "()Z"⟩) ∈ TB := TB_of (List.mem_append_left _ (by decide +kernel)) (by decide +kernel)
theorem ts_14 : (Cond.selects "AnyOrder$Closure" ⟨"AnyOrder$Closure", "prepareRows", "()V"⟩ ⟨"AnyOrder$Closure", "prepareRows", "()V"⟩) ∈ TB := TB_of (List.mem_append_left _ (by decide +kernel)) (by decide +kernel)
theorem ts_15 : (Cond.selects "AnyOrder$Closure" ⟨"AnyOrder$Closure", "take", "([JI)Z"⟩ ⟨"AnyOrder$Closure", "take", "([JI)Z"⟩) ∈ TB := TB_of (List.mem_append_left _ (by decide +kernel)) (by decide +kernel)
theorem ts_16 : (Cond.selects "AnyOrder$Closure" ⟨"AnyOrder$Closure", "isBeyond", "([J)Z"⟩ ⟨"AnyOrder$Closure", "isBeyond", "([J)Z"⟩) ∈ TB := TB_of (List.mem_append_left _ (by decide +kernel)) (by decide +kernel)
theorem ts_17 : (Cond.selects "AnyOrder$Closure" ⟨"AnyOrder$Closure", "slotOf", "([J)I"⟩ ⟨"AnyOrder$Closure", "slotOf", "([J)I"⟩) ∈ TB := TB_of (List.mem_append_left _ (by decide +kernel)) (by decide +kernel)
theorem ts_18 : (Cond.selects "AnyOrder$Closure" ⟨"AnyOrder$Closure", "firstSlotOf", "([J)I"⟩ ⟨"AnyOrder$Closure", "firstSlotOf", "([J)I"⟩) ∈ TB := TB_of (List.mem_append_left _ (by decide +kernel)) (by decide +kernel)
theorem ts_19 : (Cond.selects "AnyOrder$Closure" ⟨"AnyOrder$Closure", "isSame", "(I[J)Z"⟩ ⟨"AnyOrder$Closure", "isSame", "(I[J)Z"⟩) ∈ TB := TB_of (List.mem_append_left _ (by decide +kernel)) (by decide +kernel)
theorem ts_20 : (Cond.selects "AnyOrder$Closure" ⟨"AnyOrder$Closure", "extendByLetters", "(I)Z"⟩ ⟨"AnyOrder$Closure", "extendByLetters", "(I)Z"⟩) ∈ TB := TB_of (List.mem_append_left _ (by decide +kernel)) (by decide +kernel)
theorem ts_21 : (Cond.selects "AnyOrder$Closure" ⟨"AnyOrder$Closure", "load", "(I[J)V"⟩ ⟨"AnyOrder$Closure", "load", "(I[J)V"⟩) ∈ TB := TB_of (List.mem_append_left _ (by decide +kernel)) (by decide +kernel)
theorem ts_22 : (Cond.selects "AnyOrder$Closure" ⟨"AnyOrder$Closure", "sumUp", "()V"⟩ ⟨"AnyOrder$Closure", "sumUp", "()V"⟩) ∈ TB := TB_of (List.mem_append_left _ (by decide +kernel)) (by decide +kernel)
theorem ts_23 : (Cond.selects "AnyOrder$Closure" ⟨"AnyOrder$Closure", "multiplyNumbered", "(II)V"⟩ ⟨"AnyOrder$Closure", "multiplyNumbered", "(II)V"⟩) ∈ TB := TB_of (List.mem_append_left _ (by decide +kernel)) (by decide +kernel)
theorem ts_24 : (Cond.selects "AnyOrder" ⟨"AnyOrder", "keepWord", "(IIII)I"⟩ ⟨"AnyOrder", "keepWord", "(IIII)I"⟩) ∈ TB := TB_of (List.mem_append_left _ (by decide +kernel)) (by decide +kernel)
theorem ts_25 : (Cond.selects "AnyOrder" ⟨"AnyOrder", "finishWord", "()I"⟩ ⟨"AnyOrder", "finishWord", "()I"⟩) ∈ TB := TB_of (List.mem_append_left _ (by decide +kernel)) (by decide +kernel)
theorem ts_26 : (Cond.selects "AnyOrder" ⟨"AnyOrder", "hasWord", "(I)Z"⟩ ⟨"AnyOrder", "hasWord", "(I)Z"⟩) ∈ TB := TB_of (List.mem_append_left _ (by decide +kernel)) (by decide +kernel)
theorem ts_27 : (Cond.selects "AnyOrder" ⟨"AnyOrder", "isRing", "(LAnyOrder$Word;)Z"⟩ ⟨"AnyOrder", "isRing", "(LAnyOrder$Word;)Z"⟩) ∈ TB := TB_of (List.mem_append_left _ (by decide +kernel)) (by decide +kernel)
theorem ts_28 : (Cond.selects "AnyOrder" ⟨"AnyOrder", "renewSheet", "(III)I"⟩ ⟨"AnyOrder", "renewSheet", "(III)I"⟩) ∈ TB := TB_of (List.mem_append_left _ (by decide +kernel)) (by decide +kernel)
theorem ts_29 : (Cond.selects "AnyOrder" ⟨"AnyOrder", "putCell", "(III)I"⟩ ⟨"AnyOrder", "putCell", "(III)I"⟩) ∈ TB := TB_of (List.mem_append_left _ (by decide +kernel)) (by decide +kernel)
theorem ts_30 : (Cond.selects "AnyOrder" ⟨"AnyOrder", "takeAs", "(II)I"⟩ ⟨"AnyOrder", "takeAs", "(II)I"⟩) ∈ TB := TB_of (List.mem_append_left _ (by decide +kernel)) (by decide +kernel)
theorem ts_31 : (Cond.selects "AnyOrderModel" ⟨"AnyOrderModel", "against", "(II)I"⟩ ⟨"AnyOrderModel", "against", "(II)I"⟩) ∈ TB := TB_of (List.mem_append_left _ (by decide +kernel)) (by decide +kernel)
theorem ts_32 : (Cond.selects "AnyOrderModel" ⟨"AnyOrderModel", "fails", "(I)I"⟩ ⟨"AnyOrderModel", "fails", "(I)I"⟩) ∈ TB := TB_of (List.mem_append_left _ (by decide +kernel)) (by decide +kernel)
theorem ts_33 : (Cond.selects "AnyOrderModel" ⟨"AnyOrderModel", "isTable", "(I)Z"⟩ ⟨"AnyOrderModel", "isTable", "(I)Z"⟩) ∈ TB := TB_of (List.mem_append_left _ (by decide +kernel)) (by decide +kernel)
theorem ts_34 : (Cond.selects "AnyOrderModel" ⟨"AnyOrderModel", "isPlace", "(II)Z"⟩ ⟨"AnyOrderModel", "isPlace", "(II)Z"⟩) ∈ TB := TB_of (List.mem_append_left _ (by decide +kernel)) (by decide +kernel)
theorem ts_35 : (Cond.selects "AnyOrderModel" ⟨"AnyOrderModel", "isSpent", "(I)Z"⟩ ⟨"AnyOrderModel", "isSpent", "(I)Z"⟩) ∈ TB := TB_of (List.mem_append_left _ (by decide +kernel)) (by decide +kernel)
theorem ts_36 : (Cond.selects "AnyOrderModel" ⟨"AnyOrderModel", "mayFollow", "(II)Z"⟩ ⟨"AnyOrderModel", "mayFollow", "(II)Z"⟩) ∈ TB := TB_of (List.mem_append_left _ (by decide +kernel)) (by decide +kernel)
theorem ts_37 : (Cond.selects "AnyOrderModel" ⟨"AnyOrderModel", "goThrough", "(I)V"⟩ ⟨"AnyOrderModel", "goThrough", "(I)V"⟩) ∈ TB := TB_of (List.mem_append_left _ (by decide +kernel)) (by decide +kernel)
theorem ts_38 : (Cond.selects "AnyOrderModel" ⟨"AnyOrderModel", "beginWords", "()V"⟩ ⟨"AnyOrderModel", "beginWords", "()V"⟩) ∈ TB := TB_of (List.mem_append_left _ (by decide +kernel)) (by decide +kernel)
theorem ts_39 : (Cond.selects "AnyOrderModel" ⟨"AnyOrderModel", "beginLevels", "()V"⟩ ⟨"AnyOrderModel", "beginLevels", "()V"⟩) ∈ TB := TB_of (List.mem_append_left _ (by decide +kernel)) (by decide +kernel)
theorem ts_40 : (Cond.selects "AnyOrderModel" ⟨"AnyOrderModel", "next", "(I)Z"⟩ ⟨"AnyOrderModel", "next", "(I)Z"⟩) ∈ TB := TB_of (List.mem_append_left _ (by decide +kernel)) (by decide +kernel)
theorem ts_41 : (Cond.selects "AnyOrderModel" ⟨"AnyOrderModel", "goOn", "(II)V"⟩ ⟨"AnyOrderModel", "goOn", "(II)V"⟩) ∈ TB := TB_of (List.mem_append_left _ (by decide +kernel)) (by decide +kernel)
theorem ts_42 : (Cond.selects "AnyOrderModel" ⟨"AnyOrderModel", "rest", "(J)J"⟩ ⟨"AnyOrderModel", "rest", "(J)J"⟩) ∈ TB := TB_of (List.mem_append_left _ (by decide +kernel)) (by decide +kernel)
theorem ts_43 : (Cond.selects "AnyOrderModel" ⟨"AnyOrderModel", "normAt", "(I)J"⟩ ⟨"AnyOrderModel", "normAt", "(I)J"⟩) ∈ TB := TB_of (List.mem_append_left _ (by decide +kernel)) (by decide +kernel)
theorem ts_44 : (Cond.selects "AnyOrderModel" ⟨"AnyOrderModel", "findRings", "(I)V"⟩ ⟨"AnyOrderModel", "findRings", "(I)V"⟩) ∈ TB := TB_of (List.mem_append_left _ (by decide +kernel)) (by decide +kernel)
theorem ts_45 : (Cond.selects "AnyOrderModel" ⟨"AnyOrderModel", "isRing", "(I)Z"⟩ ⟨"AnyOrderModel", "isRing", "(I)Z"⟩) ∈ TB := TB_of (List.mem_append_left _ (by decide +kernel)) (by decide +kernel)
theorem ts_46 : (Cond.selects "AnyOrderModel" ⟨"AnyOrderModel", "isAllowed", "(I)Z"⟩ ⟨"AnyOrderModel", "isAllowed", "(I)Z"⟩) ∈ TB := TB_of (List.mem_append_left _ (by decide +kernel)) (by decide +kernel)
theorem ts_47 : (Cond.selects "AnyOrderModel" ⟨"AnyOrderModel", "timesOf", "(I)I"⟩ ⟨"AnyOrderModel", "timesOf", "(I)I"⟩) ∈ TB := TB_of (List.mem_append_left _ (by decide +kernel)) (by decide +kernel)
theorem ts_48 : (Cond.selects "AnyOrderModel" ⟨"AnyOrderModel", "isFirstTurn", "(I)Z"⟩ ⟨"AnyOrderModel", "isFirstTurn", "(I)Z"⟩) ∈ TB := TB_of (List.mem_append_left _ (by decide +kernel)) (by decide +kernel)
theorem ts_49 : (Cond.selects "AnyOrderModel" ⟨"AnyOrderModel", "trackAt", "(I)J"⟩ ⟨"AnyOrderModel", "trackAt", "(I)J"⟩) ∈ TB := TB_of (List.mem_append_left _ (by decide +kernel)) (by decide +kernel)
theorem ts_50 : (Cond.selects "AnyOrderModel" ⟨"AnyOrderModel", "comes", "(II)Z"⟩ ⟨"AnyOrderModel", "comes", "(II)Z"⟩) ∈ TB := TB_of (List.mem_append_left _ (by decide +kernel)) (by decide +kernel)
theorem ts_51 : (Cond.selects "AnyOrderModel" ⟨"AnyOrderModel", "findAt", "(I)I"⟩ ⟨"AnyOrderModel", "findAt", "(I)I"⟩) ∈ TB := TB_of (List.mem_append_left _ (by decide +kernel)) (by decide +kernel)
theorem ts_52 : (Cond.selects "AnyOrderModel" ⟨"AnyOrderModel", "chainOf", "(I)I"⟩ ⟨"AnyOrderModel", "chainOf", "(I)I"⟩) ∈ TB := TB_of (List.mem_append_left _ (by decide +kernel)) (by decide +kernel)
theorem ts_53 : (Cond.selects "AnyOrderModel" ⟨"AnyOrderModel", "layProduct", "(II)V"⟩ ⟨"AnyOrderModel", "layProduct", "(II)V"⟩) ∈ TB := TB_of (List.mem_append_left _ (by decide +kernel)) (by decide +kernel)
theorem ts_54 : (Cond.selects "AnyOrderModel" ⟨"AnyOrderModel", "isNought", "(I)Z"⟩ ⟨"AnyOrderModel", "isNought", "(I)Z"⟩) ∈ TB := TB_of (List.mem_append_left _ (by decide +kernel)) (by decide +kernel)
theorem ts_55 : (Cond.selects "AnyOrderModel" ⟨"AnyOrderModel", "isOne", "(I)Z"⟩ ⟨"AnyOrderModel", "isOne", "(I)Z"⟩) ∈ TB := TB_of (List.mem_append_left _ (by decide +kernel)) (by decide +kernel)
theorem ts_56 : (Cond.selects "AnyOrderModel" ⟨"AnyOrderModel", "multiply", "(II)V"⟩ ⟨"AnyOrderModel", "multiply", "(II)V"⟩) ∈ TB := TB_of (List.mem_append_left _ (by decide +kernel)) (by decide +kernel)
theorem ts_57 : (Cond.selects "AnyOrderModel" ⟨"AnyOrderModel", "isProduct", "(I)Z"⟩ ⟨"AnyOrderModel", "isProduct", "(I)Z"⟩) ∈ TB := TB_of (List.mem_append_left _ (by decide +kernel)) (by decide +kernel)
theorem ts_58 : (Cond.selects "AnyOrderModel" ⟨"AnyOrderModel", "isWord", "(I)Z"⟩ ⟨"AnyOrderModel", "isWord", "(I)Z"⟩) ∈ TB := TB_of (List.mem_append_left _ (by decide +kernel)) (by decide +kernel)
theorem ts_59 : (Cond.selects "AnyOrderModel" ⟨"AnyOrderModel", "multiplyOut", "(I)V"⟩ ⟨"AnyOrderModel", "multiplyOut", "(I)V"⟩) ∈ TB := TB_of (List.mem_append_left _ (by decide +kernel)) (by decide +kernel)
theorem ts_60 : (Cond.selects "AnyOrderModel" ⟨"AnyOrderModel", "lost", "(I)J"⟩ ⟨"AnyOrderModel", "lost", "(I)J"⟩) ∈ TB := TB_of (List.mem_append_left _ (by decide +kernel)) (by decide +kernel)
theorem ts_61 : (Cond.selects "AnyOrderModel" ⟨"AnyOrderModel", "kindOf", "(I)I"⟩ ⟨"AnyOrderModel", "kindOf", "(I)I"⟩) ∈ TB := TB_of (List.mem_append_left _ (by decide +kernel)) (by decide +kernel)
theorem ts_62 : (Cond.selects "AnyOrderModel" ⟨"AnyOrderModel", "begins", "(I)V"⟩ ⟨"AnyOrderModel", "begins", "(I)V"⟩) ∈ TB := TB_of (List.mem_append_left _ (by decide +kernel)) (by decide +kernel)
theorem ts_63 : (Cond.selects "AnyOrderModel" ⟨"AnyOrderModel", "trackOf", "(I)I"⟩ ⟨"AnyOrderModel", "trackOf", "(I)I"⟩) ∈ TB := TB_of (List.mem_append_left _ (by decide +kernel)) (by decide +kernel)
theorem ts_64 : (Cond.selects "AnyOrderModel" ⟨"AnyOrderModel", "greatestOf", "(I)I"⟩ ⟨"AnyOrderModel", "greatestOf", "(I)I"⟩) ∈ TB := TB_of (List.mem_append_left _ (by decide +kernel)) (by decide +kernel)
end
section
theorem ix0 : ∀ w ∈ wsX00, w ∈ TB := by decide +kernel
theorem ix1 : ∀ w ∈ wsX10, w ∈ TB := by decide +kernel
theorem ix2 : ∀ w ∈ wsX20, w ∈ TB := by decide +kernel
theorem ix3 : ∀ w ∈ wsX30, w ∈ TB := by decide +kernel
theorem ix4 : ∀ w ∈ wsX40, w ∈ TB := by decide +kernel
theorem ix6 : ∀ w ∈ wsX60, w ∈ TB := by decide +kernel
theorem ix7 : ∀ w ∈ wsX70, w ∈ TB := by decide +kernel
theorem ix8 : ∀ w ∈ wsX80, w ∈ TB := by decide +kernel
theorem ix9 : ∀ w ∈ wsX90, w ∈ TB := by decide +kernel
theorem ix10 : ∀ w ∈ wsX100, w ∈ TB := by decide +kernel
theorem ix11 : ∀ w ∈ wsX110, w ∈ TB := by decide +kernel
theorem ix12 : ∀ w ∈ wsX120, w ∈ TB := by decide +kernel
theorem t_mna : True := by
  have h := @Jvm.Stand.multianewarray2F
  trivial
end
section
theorem dJ7_fill_53178_0 : decode cJ7_fill_53178 0 = .ok (.iconst 0, 1) := by decide +kernel
theorem dJ7_fill_53178_1 : decode cJ7_fill_53178 1 = .ok (.istore_n 2, 1) := by decide +kernel
theorem dJ7_fill_53178_2 : decode cJ7_fill_53178 2 = .ok (.aload_n 0, 1) := by decide +kernel
theorem dJ7_fill_53178_3 : decode cJ7_fill_53178 3 = .ok (.arraylength, 1) := by decide +kernel
theorem dJ7_fill_53178_4 : decode cJ7_fill_53178 4 = .ok (.istore_n 3, 1) := by decide +kernel
theorem dJ7_fill_53178_5 : decode cJ7_fill_53178 5 = .ok (.iload_n 2, 1) := by decide +kernel
theorem dJ7_fill_53178_6 : decode cJ7_fill_53178 6 = .ok (.iload_n 3, 1) := by decide +kernel
theorem dJ7_fill_53178_7 : decode cJ7_fill_53178 7 = .ok (.if_icmp .ge 13, 3) := by decide +kernel
theorem dJ7_fill_53178_10 : decode cJ7_fill_53178 10 = .ok (.aload_n 0, 1) := by decide +kernel
theorem dJ7_fill_53178_11 : decode cJ7_fill_53178 11 = .ok (.iload_n 2, 1) := by decide +kernel
theorem dJ7_fill_53178_12 : decode cJ7_fill_53178 12 = .ok (.iload_n 1, 1) := by decide +kernel
theorem dJ7_fill_53178_13 : decode cJ7_fill_53178 13 = .ok (.iastore, 1) := by decide +kernel
theorem dJ7_fill_53178_14 : decode cJ7_fill_53178 14 = .ok (.iinc 2 1, 3) := by decide +kernel
theorem dJ7_fill_53178_17 : decode cJ7_fill_53178 17 = .ok (.goto (-12), 3) := by decide +kernel
theorem dJ7_fill_53178_20 : decode cJ7_fill_53178 20 = .ok (.return_, 1) := by decide +kernel
theorem dJ7_checkLength_df160_0 : decode cJ7_checkLength_df160 0 = .ok (.iload_n 1, 1) := by decide +kernel
theorem dJ7_checkLength_df160_1 : decode cJ7_checkLength_df160 1 = .ok (.iload_n 0, 1) := by decide +kernel
theorem dJ7_checkLength_df160_2 : decode cJ7_checkLength_df160 2 = .ok (.if_icmp .ge 35, 3) := by decide +kernel
theorem dJ7_checkLength_df160_5 : decode cJ7_checkLength_df160 5 = .ok (.new 43, 3) := by decide +kernel
theorem dJ7_checkLength_df160_8 : decode cJ7_checkLength_df160 8 = .ok (.dup, 1) := by decide +kernel
theorem dJ7_checkLength_df160_9 : decode cJ7_checkLength_df160 9 = .ok (.new 45, 3) := by decide +kernel
theorem dJ7_checkLength_df160_12 : decode cJ7_checkLength_df160 12 = .ok (.dup, 1) := by decide +kernel
theorem dJ7_checkLength_df160_13 : decode cJ7_checkLength_df160 13 = .ok (.invokespecial 47, 3) := by decide +kernel
theorem dJ7_checkLength_df160_16 : decode cJ7_checkLength_df160 16 = .ok (.iload_n 0, 1) := by decide +kernel
theorem dJ7_checkLength_df160_17 : decode cJ7_checkLength_df160 17 = .ok (.invokevirtual 54, 3) := by decide +kernel
theorem dJ7_checkLength_df160_20 : decode cJ7_checkLength_df160 20 = .ok (.ldc_w 337, 3) := by decide +kernel
theorem dJ7_checkLength_df160_23 : decode cJ7_checkLength_df160 23 = .ok (.invokevirtual 50, 3) := by decide +kernel
theorem dJ7_checkLength_df160_26 : decode cJ7_checkLength_df160 26 = .ok (.iload_n 1, 1) := by decide +kernel
theorem dJ7_checkLength_df160_27 : decode cJ7_checkLength_df160 27 = .ok (.invokevirtual 54, 3) := by decide +kernel
theorem dJ7_checkLength_df160_30 : decode cJ7_checkLength_df160 30 = .ok (.invokevirtual 61, 3) := by decide +kernel
theorem dJ7_checkLength_df160_33 : decode cJ7_checkLength_df160 33 = .ok (.invokespecial 65, 3) := by decide +kernel
theorem dJ7_checkLength_df160_36 : decode cJ7_checkLength_df160 36 = .ok (.athrow, 1) := by decide +kernel
theorem dJ7_checkLength_df160_37 : decode cJ7_checkLength_df160 37 = .ok (.return_, 1) := by decide +kernel
theorem dJ7_copyOfRange_feecc_0 : decode cJ7_copyOfRange_feecc 0 = .ok (.iload_n 1, 1) := by decide +kernel
theorem dJ7_copyOfRange_feecc_1 : decode cJ7_copyOfRange_feecc 1 = .ok (.ifCond .ne 9, 3) := by decide +kernel
theorem dJ7_copyOfRange_feecc_4 : decode cJ7_copyOfRange_feecc 4 = .ok (.iload_n 2, 1) := by decide +kernel
theorem dJ7_copyOfRange_feecc_5 : decode cJ7_copyOfRange_feecc 5 = .ok (.aload_n 0, 1) := by decide +kernel
theorem dJ7_copyOfRange_feecc_6 : decode cJ7_copyOfRange_feecc 6 = .ok (.arraylength, 1) := by decide +kernel
theorem dJ7_copyOfRange_feecc_7 : decode cJ7_copyOfRange_feecc 7 = .ok (.if_icmp .eq 10, 3) := by decide +kernel
theorem dJ7_copyOfRange_feecc_10 : decode cJ7_copyOfRange_feecc 10 = .ok (.aload_n 0, 1) := by decide +kernel
theorem dJ7_copyOfRange_feecc_11 : decode cJ7_copyOfRange_feecc 11 = .ok (.iload_n 1, 1) := by decide +kernel
theorem dJ7_copyOfRange_feecc_12 : decode cJ7_copyOfRange_feecc 12 = .ok (.iload_n 2, 1) := by decide +kernel
theorem dJ7_copyOfRange_feecc_13 : decode cJ7_copyOfRange_feecc 13 = .ok (.invokestatic 351, 3) := by decide +kernel
theorem dJ7_copyOfRange_feecc_16 : decode cJ7_copyOfRange_feecc 16 = .ok (.areturn, 1) := by decide +kernel
theorem dJ7_copyOfRange_feecc_17 : decode cJ7_copyOfRange_feecc 17 = .ok (.aload_n 0, 1) := by decide +kernel
theorem dJ7_copyOfRange_feecc_18 : decode cJ7_copyOfRange_feecc 18 = .ok (.invokevirtual 316, 3) := by decide +kernel
theorem dJ7_copyOfRange_feecc_21 : decode cJ7_copyOfRange_feecc 21 = .ok (.checkcast 317, 3) := by decide +kernel
theorem dJ7_copyOfRange_feecc_24 : decode cJ7_copyOfRange_feecc 24 = .ok (.areturn, 1) := by decide +kernel
theorem dJ7_copyOfRangeInt_feecc_0 : decode cJ7_copyOfRangeInt_feecc 0 = .ok (.iload_n 1, 1) := by decide +kernel
theorem dJ7_copyOfRangeInt_feecc_1 : decode cJ7_copyOfRangeInt_feecc 1 = .ok (.iload_n 2, 1) := by decide +kernel
theorem dJ7_copyOfRangeInt_feecc_2 : decode cJ7_copyOfRangeInt_feecc 2 = .ok (.invokestatic 343, 3) := by decide +kernel
theorem dJ7_copyOfRangeInt_feecc_5 : decode cJ7_copyOfRangeInt_feecc 5 = .ok (.iload_n 2, 1) := by decide +kernel
theorem dJ7_copyOfRangeInt_feecc_6 : decode cJ7_copyOfRangeInt_feecc 6 = .ok (.iload_n 1, 1) := by decide +kernel
theorem dJ7_copyOfRangeInt_feecc_7 : decode cJ7_copyOfRangeInt_feecc 7 = .ok (.isub, 1) := by decide +kernel
theorem dJ7_copyOfRangeInt_feecc_8 : decode cJ7_copyOfRangeInt_feecc 8 = .ok (.istore_n 3, 1) := by decide +kernel
theorem dJ7_copyOfRangeInt_feecc_9 : decode cJ7_copyOfRangeInt_feecc 9 = .ok (.iload_n 3, 1) := by decide +kernel
theorem dJ7_copyOfRangeInt_feecc_10 : decode cJ7_copyOfRangeInt_feecc 10 = .ok (.newarray .int, 2) := by decide +kernel
theorem dJ7_copyOfRangeInt_feecc_12 : decode cJ7_copyOfRangeInt_feecc 12 = .ok (.astore 4, 2) := by decide +kernel
theorem dJ7_copyOfRangeInt_feecc_14 : decode cJ7_copyOfRangeInt_feecc 14 = .ok (.aload_n 0, 1) := by decide +kernel
theorem dJ7_copyOfRangeInt_feecc_15 : decode cJ7_copyOfRangeInt_feecc 15 = .ok (.iload_n 1, 1) := by decide +kernel
theorem dJ7_copyOfRangeInt_feecc_16 : decode cJ7_copyOfRangeInt_feecc 16 = .ok (.aload 4, 2) := by decide +kernel
theorem dJ7_copyOfRangeInt_feecc_18 : decode cJ7_copyOfRangeInt_feecc 18 = .ok (.iconst 0, 1) := by decide +kernel
theorem dJ7_copyOfRangeInt_feecc_19 : decode cJ7_copyOfRangeInt_feecc 19 = .ok (.aload_n 0, 1) := by decide +kernel
theorem dJ7_copyOfRangeInt_feecc_20 : decode cJ7_copyOfRangeInt_feecc 20 = .ok (.arraylength, 1) := by decide +kernel
theorem dJ7_copyOfRangeInt_feecc_21 : decode cJ7_copyOfRangeInt_feecc 21 = .ok (.iload_n 1, 1) := by decide +kernel
theorem dJ7_copyOfRangeInt_feecc_22 : decode cJ7_copyOfRangeInt_feecc 22 = .ok (.isub, 1) := by decide +kernel
theorem dJ7_copyOfRangeInt_feecc_23 : decode cJ7_copyOfRangeInt_feecc 23 = .ok (.iload_n 3, 1) := by decide +kernel
theorem dJ7_copyOfRangeInt_feecc_24 : decode cJ7_copyOfRangeInt_feecc 24 = .ok (.invokestatic 304, 3) := by decide +kernel
theorem dJ7_copyOfRangeInt_feecc_27 : decode cJ7_copyOfRangeInt_feecc 27 = .ok (.invokestatic 150, 3) := by decide +kernel
theorem dJ7_copyOfRangeInt_feecc_30 : decode cJ7_copyOfRangeInt_feecc 30 = .ok (.aload 4, 2) := by decide +kernel
theorem dJ7_copyOfRangeInt_feecc_32 : decode cJ7_copyOfRangeInt_feecc 32 = .ok (.areturn, 1) := by decide +kernel
end
section
theorem dJ9_abs_067f4_0 : decode cJ9_abs_067f4 0 = .ok (.lload_n 0, 1) := by decide +kernel
theorem dJ9_abs_067f4_1 : decode cJ9_abs_067f4 1 = .ok (.lconst 0, 1) := by decide +kernel
theorem dJ9_abs_067f4_2 : decode cJ9_abs_067f4 2 = .ok (.lcmp, 1) := by decide +kernel
theorem dJ9_abs_067f4_3 : decode cJ9_abs_067f4 3 = .ok (.ifCond .ge 8, 3) := by decide +kernel
theorem dJ9_abs_067f4_6 : decode cJ9_abs_067f4 6 = .ok (.lload_n 0, 1) := by decide +kernel
theorem dJ9_abs_067f4_7 : decode cJ9_abs_067f4 7 = .ok (.lneg, 1) := by decide +kernel
theorem dJ9_abs_067f4_8 : decode cJ9_abs_067f4 8 = .ok (.goto 4, 3) := by decide +kernel
theorem dJ9_abs_067f4_11 : decode cJ9_abs_067f4 11 = .ok (.lload_n 0, 1) := by decide +kernel
theorem dJ9_abs_067f4_12 : decode cJ9_abs_067f4 12 = .ok (.lreturn, 1) := by decide +kernel
theorem dJ9_max_7cf53_0 : decode cJ9_max_7cf53 0 = .ok (.iload_n 0, 1) := by decide +kernel
theorem dJ9_max_7cf53_1 : decode cJ9_max_7cf53 1 = .ok (.iload_n 1, 1) := by decide +kernel
theorem dJ9_max_7cf53_2 : decode cJ9_max_7cf53 2 = .ok (.if_icmp .lt 7, 3) := by decide +kernel
theorem dJ9_max_7cf53_5 : decode cJ9_max_7cf53 5 = .ok (.iload_n 0, 1) := by decide +kernel
theorem dJ9_max_7cf53_6 : decode cJ9_max_7cf53 6 = .ok (.goto 4, 3) := by decide +kernel
theorem dJ9_max_7cf53_9 : decode cJ9_max_7cf53 9 = .ok (.iload_n 1, 1) := by decide +kernel
theorem dJ9_max_7cf53_10 : decode cJ9_max_7cf53 10 = .ok (.ireturn, 1) := by decide +kernel
theorem dJ9_max_f86c9_0 : decode cJ9_max_f86c9 0 = .ok (.lload_n 0, 1) := by decide +kernel
theorem dJ9_max_f86c9_1 : decode cJ9_max_f86c9 1 = .ok (.lload_n 2, 1) := by decide +kernel
theorem dJ9_max_f86c9_2 : decode cJ9_max_f86c9 2 = .ok (.lcmp, 1) := by decide +kernel
theorem dJ9_max_f86c9_3 : decode cJ9_max_f86c9 3 = .ok (.ifCond .lt 7, 3) := by decide +kernel
theorem dJ9_max_f86c9_6 : decode cJ9_max_f86c9 6 = .ok (.lload_n 0, 1) := by decide +kernel
theorem dJ9_max_f86c9_7 : decode cJ9_max_f86c9 7 = .ok (.goto 4, 3) := by decide +kernel
theorem dJ9_max_f86c9_10 : decode cJ9_max_f86c9 10 = .ok (.lload_n 2, 1) := by decide +kernel
theorem dJ9_max_f86c9_11 : decode cJ9_max_f86c9 11 = .ok (.lreturn, 1) := by decide +kernel
theorem dJ9_min_7cf53_0 : decode cJ9_min_7cf53 0 = .ok (.iload_n 0, 1) := by decide +kernel
theorem dJ9_min_7cf53_1 : decode cJ9_min_7cf53 1 = .ok (.iload_n 1, 1) := by decide +kernel
theorem dJ9_min_7cf53_2 : decode cJ9_min_7cf53 2 = .ok (.if_icmp .gt 7, 3) := by decide +kernel
theorem dJ9_min_7cf53_5 : decode cJ9_min_7cf53 5 = .ok (.iload_n 0, 1) := by decide +kernel
theorem dJ9_min_7cf53_6 : decode cJ9_min_7cf53 6 = .ok (.goto 4, 3) := by decide +kernel
theorem dJ9_min_7cf53_9 : decode cJ9_min_7cf53 9 = .ok (.iload_n 1, 1) := by decide +kernel
theorem dJ9_min_7cf53_10 : decode cJ9_min_7cf53 10 = .ok (.ireturn, 1) := by decide +kernel
end
section
theorem dL_law_0 : decode cL_law 0 = .ok (.new 7, 3) := by decide +kernel
theorem dL_law_3 : decode cL_law 3 = .ok (.dup, 1) := by decide +kernel
theorem dL_law_4 : decode cL_law 4 = .ok (.invokespecial 9, 3) := by decide +kernel
theorem dL_law_7 : decode cL_law 7 = .ok (.astore_n 1, 1) := by decide +kernel
theorem dL_law_8 : decode cL_law 8 = .ok (.new 10, 3) := by decide +kernel
theorem dL_law_11 : decode cL_law 11 = .ok (.dup, 1) := by decide +kernel
theorem dL_law_12 : decode cL_law 12 = .ok (.invokespecial 12, 3) := by decide +kernel
theorem dL_law_15 : decode cL_law 15 = .ok (.astore_n 2, 1) := by decide +kernel
theorem dL_law_16 : decode cL_law 16 = .ok (.iconst 0, 1) := by decide +kernel
theorem dL_law_17 : decode cL_law 17 = .ok (.istore_n 3, 1) := by decide +kernel
theorem dL_law_18 : decode cL_law 18 = .ok (.iload_n 3, 1) := by decide +kernel
theorem dL_law_19 : decode cL_law 19 = .ok (.aload_n 0, 1) := by decide +kernel
theorem dL_law_20 : decode cL_law 20 = .ok (.arraylength, 1) := by decide +kernel
theorem dL_law_21 : decode cL_law 21 = .ok (.iconst 5, 1) := by decide +kernel
theorem dL_law_22 : decode cL_law 22 = .ok (.isub, 1) := by decide +kernel
theorem dL_law_23 : decode cL_law 23 = .ok (.if_icmp .gt 1154, 3) := by decide +kernel
theorem dL_law_26 : decode cL_law 26 = .ok (.aload_n 0, 1) := by decide +kernel
theorem dL_law_27 : decode cL_law 27 = .ok (.iload_n 3, 1) := by decide +kernel
theorem dL_law_28 : decode cL_law 28 = .ok (.iaload, 1) := by decide +kernel
theorem dL_law_29 : decode cL_law 29 = .ok (.bipush 31, 2) := by decide +kernel
theorem dL_law_31 : decode cL_law 31 = .ok (.iand, 1) := by decide +kernel
theorem dL_law_32 : decode cL_law 32 = .ok (.tableswitch 1139 0 29 #[136, 169, 212, 256, 315, 349, 392, 415, 439, 472, 515, 528, 551, 595, 628, 681, 714, 747, 780, 824, 858, 901, 924, 967, 1011, 1034, 1057, 1090, 1103, 1116], 136) := by decide +kernel
theorem dL_law_168 : decode cL_law 168 = .ok (.aload_n 1, 1) := by decide +kernel
theorem dL_law_169 : decode cL_law 169 = .ok (.aload_n 0, 1) := by decide +kernel
theorem dL_law_170 : decode cL_law 170 = .ok (.iload_n 3, 1) := by decide +kernel
theorem dL_law_171 : decode cL_law 171 = .ok (.iconst 1, 1) := by decide +kernel
theorem dL_law_172 : decode cL_law 172 = .ok (.iadd, 1) := by decide +kernel
theorem dL_law_173 : decode cL_law 173 = .ok (.iaload, 1) := by decide +kernel
theorem dL_law_174 : decode cL_law 174 = .ok (.aload_n 0, 1) := by decide +kernel
theorem dL_law_175 : decode cL_law 175 = .ok (.iload_n 3, 1) := by decide +kernel
theorem dL_law_176 : decode cL_law 176 = .ok (.iconst 2, 1) := by decide +kernel
theorem dL_law_177 : decode cL_law 177 = .ok (.iadd, 1) := by decide +kernel
theorem dL_law_178 : decode cL_law 178 = .ok (.iaload, 1) := by decide +kernel
theorem dL_law_179 : decode cL_law 179 = .ok (.invokevirtual 13, 3) := by decide +kernel
theorem dL_law_182 : decode cL_law 182 = .ok (.aload_n 2, 1) := by decide +kernel
theorem dL_law_183 : decode cL_law 183 = .ok (.aload_n 0, 1) := by decide +kernel
theorem dL_law_184 : decode cL_law 184 = .ok (.iload_n 3, 1) := by decide +kernel
theorem dL_law_185 : decode cL_law 185 = .ok (.iconst 1, 1) := by decide +kernel
theorem dL_law_186 : decode cL_law 186 = .ok (.iadd, 1) := by decide +kernel
theorem dL_law_187 : decode cL_law 187 = .ok (.iaload, 1) := by decide +kernel
theorem dL_law_188 : decode cL_law 188 = .ok (.aload_n 0, 1) := by decide +kernel
theorem dL_law_189 : decode cL_law 189 = .ok (.iload_n 3, 1) := by decide +kernel
theorem dL_law_190 : decode cL_law 190 = .ok (.iconst 2, 1) := by decide +kernel
theorem dL_law_191 : decode cL_law 191 = .ok (.iadd, 1) := by decide +kernel
theorem dL_law_192 : decode cL_law 192 = .ok (.iaload, 1) := by decide +kernel
theorem dL_law_193 : decode cL_law 193 = .ok (.invokevirtual 17, 3) := by decide +kernel
theorem dL_law_196 : decode cL_law 196 = .ok (.if_icmp .eq 975, 3) := by decide +kernel
theorem dL_law_199 : decode cL_law 199 = .ok (.iconst 0, 1) := by decide +kernel
theorem dL_law_200 : decode cL_law 200 = .ok (.ireturn, 1) := by decide +kernel
theorem dL_law_201 : decode cL_law 201 = .ok (.aload_n 1, 1) := by decide +kernel
theorem dL_law_202 : decode cL_law 202 = .ok (.aload_n 0, 1) := by decide +kernel
theorem dL_law_203 : decode cL_law 203 = .ok (.iload_n 3, 1) := by decide +kernel
theorem dL_law_204 : decode cL_law 204 = .ok (.iconst 1, 1) := by decide +kernel
theorem dL_law_205 : decode cL_law 205 = .ok (.iadd, 1) := by decide +kernel
theorem dL_law_206 : decode cL_law 206 = .ok (.iaload, 1) := by decide +kernel
theorem dL_law_207 : decode cL_law 207 = .ok (.aload_n 0, 1) := by decide +kernel
theorem dL_law_208 : decode cL_law 208 = .ok (.iload_n 3, 1) := by decide +kernel
theorem dL_law_209 : decode cL_law 209 = .ok (.iconst 2, 1) := by decide +kernel
theorem dL_law_210 : decode cL_law 210 = .ok (.iadd, 1) := by decide +kernel
theorem dL_law_211 : decode cL_law 211 = .ok (.iaload, 1) := by decide +kernel
theorem dL_law_212 : decode cL_law 212 = .ok (.aload_n 0, 1) := by decide +kernel
theorem dL_law_213 : decode cL_law 213 = .ok (.iload_n 3, 1) := by decide +kernel
theorem dL_law_214 : decode cL_law 214 = .ok (.iconst 3, 1) := by decide +kernel
theorem dL_law_215 : decode cL_law 215 = .ok (.iadd, 1) := by decide +kernel
theorem dL_law_216 : decode cL_law 216 = .ok (.iaload, 1) := by decide +kernel
theorem dL_law_217 : decode cL_law 217 = .ok (.invokevirtual 18, 3) := by decide +kernel
theorem dL_law_220 : decode cL_law 220 = .ok (.aload_n 2, 1) := by decide +kernel
theorem dL_law_221 : decode cL_law 221 = .ok (.aload_n 0, 1) := by decide +kernel
theorem dL_law_222 : decode cL_law 222 = .ok (.iload_n 3, 1) := by decide +kernel
theorem dL_law_223 : decode cL_law 223 = .ok (.iconst 1, 1) := by decide +kernel
theorem dL_law_224 : decode cL_law 224 = .ok (.iadd, 1) := by decide +kernel
theorem dL_law_225 : decode cL_law 225 = .ok (.iaload, 1) := by decide +kernel
theorem dL_law_226 : decode cL_law 226 = .ok (.aload_n 0, 1) := by decide +kernel
theorem dL_law_227 : decode cL_law 227 = .ok (.iload_n 3, 1) := by decide +kernel
theorem dL_law_228 : decode cL_law 228 = .ok (.iconst 2, 1) := by decide +kernel
theorem dL_law_229 : decode cL_law 229 = .ok (.iadd, 1) := by decide +kernel
theorem dL_law_230 : decode cL_law 230 = .ok (.iaload, 1) := by decide +kernel
theorem dL_law_231 : decode cL_law 231 = .ok (.aload_n 0, 1) := by decide +kernel
theorem dL_law_232 : decode cL_law 232 = .ok (.iload_n 3, 1) := by decide +kernel
theorem dL_law_233 : decode cL_law 233 = .ok (.iconst 3, 1) := by decide +kernel
theorem dL_law_234 : decode cL_law 234 = .ok (.iadd, 1) := by decide +kernel
theorem dL_law_235 : decode cL_law 235 = .ok (.iaload, 1) := by decide +kernel
theorem dL_law_236 : decode cL_law 236 = .ok (.invokevirtual 22, 3) := by decide +kernel
theorem dL_law_239 : decode cL_law 239 = .ok (.if_icmp .eq 932, 3) := by decide +kernel
theorem dL_law_242 : decode cL_law 242 = .ok (.iconst 0, 1) := by decide +kernel
theorem dL_law_243 : decode cL_law 243 = .ok (.ireturn, 1) := by decide +kernel
theorem dL_law_244 : decode cL_law 244 = .ok (.aload_n 1, 1) := by decide +kernel
theorem dL_law_245 : decode cL_law 245 = .ok (.aload_n 0, 1) := by decide +kernel
theorem dL_law_246 : decode cL_law 246 = .ok (.iload_n 3, 1) := by decide +kernel
theorem dL_law_247 : decode cL_law 247 = .ok (.iconst 1, 1) := by decide +kernel
theorem dL_law_248 : decode cL_law 248 = .ok (.iadd, 1) := by decide +kernel
theorem dL_law_249 : decode cL_law 249 = .ok (.iaload, 1) := by decide +kernel
theorem dL_law_250 : decode cL_law 250 = .ok (.aload_n 0, 1) := by decide +kernel
theorem dL_law_251 : decode cL_law 251 = .ok (.iload_n 3, 1) := by decide +kernel
theorem dL_law_252 : decode cL_law 252 = .ok (.iconst 2, 1) := by decide +kernel
theorem dL_law_253 : decode cL_law 253 = .ok (.iadd, 1) := by decide +kernel
theorem dL_law_254 : decode cL_law 254 = .ok (.iaload, 1) := by decide +kernel
theorem dL_law_255 : decode cL_law 255 = .ok (.aload_n 0, 1) := by decide +kernel
theorem dL_law_256 : decode cL_law 256 = .ok (.iload_n 3, 1) := by decide +kernel
theorem dL_law_257 : decode cL_law 257 = .ok (.iconst 3, 1) := by decide +kernel
theorem dL_law_258 : decode cL_law 258 = .ok (.iadd, 1) := by decide +kernel
theorem dL_law_259 : decode cL_law 259 = .ok (.iaload, 1) := by decide +kernel
theorem dL_law_260 : decode cL_law 260 = .ok (.invokevirtual 23, 3) := by decide +kernel
theorem dL_law_263 : decode cL_law 263 = .ok (.aload_n 2, 1) := by decide +kernel
theorem dL_law_264 : decode cL_law 264 = .ok (.aload_n 0, 1) := by decide +kernel
theorem dL_law_265 : decode cL_law 265 = .ok (.iload_n 3, 1) := by decide +kernel
theorem dL_law_266 : decode cL_law 266 = .ok (.iconst 1, 1) := by decide +kernel
theorem dL_law_267 : decode cL_law 267 = .ok (.iadd, 1) := by decide +kernel
theorem dL_law_268 : decode cL_law 268 = .ok (.iaload, 1) := by decide +kernel
theorem dL_law_269 : decode cL_law 269 = .ok (.aload_n 0, 1) := by decide +kernel
theorem dL_law_270 : decode cL_law 270 = .ok (.iload_n 3, 1) := by decide +kernel
theorem dL_law_271 : decode cL_law 271 = .ok (.iconst 2, 1) := by decide +kernel
theorem dL_law_272 : decode cL_law 272 = .ok (.iadd, 1) := by decide +kernel
theorem dL_law_273 : decode cL_law 273 = .ok (.iaload, 1) := by decide +kernel
theorem dL_law_274 : decode cL_law 274 = .ok (.aload_n 0, 1) := by decide +kernel
theorem dL_law_275 : decode cL_law 275 = .ok (.iload_n 3, 1) := by decide +kernel
theorem dL_law_276 : decode cL_law 276 = .ok (.iconst 3, 1) := by decide +kernel
theorem dL_law_277 : decode cL_law 277 = .ok (.iadd, 1) := by decide +kernel
theorem dL_law_278 : decode cL_law 278 = .ok (.iaload, 1) := by decide +kernel
theorem dL_law_279 : decode cL_law 279 = .ok (.invokevirtual 27, 3) := by decide +kernel
theorem dL_law_282 : decode cL_law 282 = .ok (.lcmp, 1) := by decide +kernel
theorem dL_law_283 : decode cL_law 283 = .ok (.ifCond .eq 888, 3) := by decide +kernel
theorem dL_law_286 : decode cL_law 286 = .ok (.iconst 0, 1) := by decide +kernel
theorem dL_law_287 : decode cL_law 287 = .ok (.ireturn, 1) := by decide +kernel
theorem dL_law_288 : decode cL_law 288 = .ok (.aload_n 1, 1) := by decide +kernel
theorem dL_law_289 : decode cL_law 289 = .ok (.aload_n 0, 1) := by decide +kernel
theorem dL_law_290 : decode cL_law 290 = .ok (.iload_n 3, 1) := by decide +kernel
theorem dL_law_291 : decode cL_law 291 = .ok (.iconst 1, 1) := by decide +kernel
theorem dL_law_292 : decode cL_law 292 = .ok (.iadd, 1) := by decide +kernel
theorem dL_law_293 : decode cL_law 293 = .ok (.iaload, 1) := by decide +kernel
theorem dL_law_294 : decode cL_law 294 = .ok (.aload_n 0, 1) := by decide +kernel
theorem dL_law_295 : decode cL_law 295 = .ok (.iload_n 3, 1) := by decide +kernel
theorem dL_law_296 : decode cL_law 296 = .ok (.iconst 2, 1) := by decide +kernel
theorem dL_law_297 : decode cL_law 297 = .ok (.iadd, 1) := by decide +kernel
theorem dL_law_298 : decode cL_law 298 = .ok (.iaload, 1) := by decide +kernel
theorem dL_law_299 : decode cL_law 299 = .ok (.aload_n 0, 1) := by decide +kernel
theorem dL_law_300 : decode cL_law 300 = .ok (.iload_n 3, 1) := by decide +kernel
theorem dL_law_301 : decode cL_law 301 = .ok (.iconst 3, 1) := by decide +kernel
theorem dL_law_302 : decode cL_law 302 = .ok (.iadd, 1) := by decide +kernel
theorem dL_law_303 : decode cL_law 303 = .ok (.iaload, 1) := by decide +kernel
theorem dL_law_304 : decode cL_law 304 = .ok (.ifCond .eq 7, 3) := by decide +kernel
theorem dL_law_307 : decode cL_law 307 = .ok (.iconst 1, 1) := by decide +kernel
theorem dL_law_308 : decode cL_law 308 = .ok (.goto 4, 3) := by decide +kernel
theorem dL_law_311 : decode cL_law 311 = .ok (.iconst 0, 1) := by decide +kernel
theorem dL_law_312 : decode cL_law 312 = .ok (.invokevirtual 28, 3) := by decide +kernel
theorem dL_law_315 : decode cL_law 315 = .ok (.aload_n 2, 1) := by decide +kernel
theorem dL_law_316 : decode cL_law 316 = .ok (.aload_n 0, 1) := by decide +kernel
theorem dL_law_317 : decode cL_law 317 = .ok (.iload_n 3, 1) := by decide +kernel
theorem dL_law_318 : decode cL_law 318 = .ok (.iconst 1, 1) := by decide +kernel
theorem dL_law_319 : decode cL_law 319 = .ok (.iadd, 1) := by decide +kernel
theorem dL_law_320 : decode cL_law 320 = .ok (.iaload, 1) := by decide +kernel
theorem dL_law_321 : decode cL_law 321 = .ok (.aload_n 0, 1) := by decide +kernel
theorem dL_law_322 : decode cL_law 322 = .ok (.iload_n 3, 1) := by decide +kernel
theorem dL_law_323 : decode cL_law 323 = .ok (.iconst 2, 1) := by decide +kernel
theorem dL_law_324 : decode cL_law 324 = .ok (.iadd, 1) := by decide +kernel
theorem dL_law_325 : decode cL_law 325 = .ok (.iaload, 1) := by decide +kernel
theorem dL_law_326 : decode cL_law 326 = .ok (.aload_n 0, 1) := by decide +kernel
theorem dL_law_327 : decode cL_law 327 = .ok (.iload_n 3, 1) := by decide +kernel
theorem dL_law_328 : decode cL_law 328 = .ok (.iconst 3, 1) := by decide +kernel
theorem dL_law_329 : decode cL_law 329 = .ok (.iadd, 1) := by decide +kernel
theorem dL_law_330 : decode cL_law 330 = .ok (.iaload, 1) := by decide +kernel
theorem dL_law_331 : decode cL_law 331 = .ok (.ifCond .eq 7, 3) := by decide +kernel
theorem dL_law_334 : decode cL_law 334 = .ok (.iconst 1, 1) := by decide +kernel
theorem dL_law_335 : decode cL_law 335 = .ok (.goto 4, 3) := by decide +kernel
theorem dL_law_338 : decode cL_law 338 = .ok (.iconst 0, 1) := by decide +kernel
theorem dL_law_339 : decode cL_law 339 = .ok (.invokevirtual 32, 3) := by decide +kernel
theorem dL_law_342 : decode cL_law 342 = .ok (.if_icmp .eq 829, 3) := by decide +kernel
theorem dL_law_345 : decode cL_law 345 = .ok (.iconst 0, 1) := by decide +kernel
theorem dL_law_346 : decode cL_law 346 = .ok (.ireturn, 1) := by decide +kernel
theorem dL_law_347 : decode cL_law 347 = .ok (.aload_n 1, 1) := by decide +kernel
theorem dL_law_348 : decode cL_law 348 = .ok (.aload_n 0, 1) := by decide +kernel
theorem dL_law_349 : decode cL_law 349 = .ok (.iload_n 3, 1) := by decide +kernel
theorem dL_law_350 : decode cL_law 350 = .ok (.iconst 1, 1) := by decide +kernel
theorem dL_law_351 : decode cL_law 351 = .ok (.iadd, 1) := by decide +kernel
theorem dL_law_352 : decode cL_law 352 = .ok (.iaload, 1) := by decide +kernel
theorem dL_law_353 : decode cL_law 353 = .ok (.aload_n 0, 1) := by decide +kernel
theorem dL_law_354 : decode cL_law 354 = .ok (.iload_n 3, 1) := by decide +kernel
theorem dL_law_355 : decode cL_law 355 = .ok (.iconst 2, 1) := by decide +kernel
theorem dL_law_356 : decode cL_law 356 = .ok (.iadd, 1) := by decide +kernel
theorem dL_law_357 : decode cL_law 357 = .ok (.iaload, 1) := by decide +kernel
theorem dL_law_358 : decode cL_law 358 = .ok (.invokevirtual 33, 3) := by decide +kernel
theorem dL_law_361 : decode cL_law 361 = .ok (.aload_n 2, 1) := by decide +kernel
theorem dL_law_362 : decode cL_law 362 = .ok (.aload_n 0, 1) := by decide +kernel
theorem dL_law_363 : decode cL_law 363 = .ok (.iload_n 3, 1) := by decide +kernel
theorem dL_law_364 : decode cL_law 364 = .ok (.iconst 1, 1) := by decide +kernel
theorem dL_law_365 : decode cL_law 365 = .ok (.iadd, 1) := by decide +kernel
theorem dL_law_366 : decode cL_law 366 = .ok (.iaload, 1) := by decide +kernel
theorem dL_law_367 : decode cL_law 367 = .ok (.aload_n 0, 1) := by decide +kernel
theorem dL_law_368 : decode cL_law 368 = .ok (.iload_n 3, 1) := by decide +kernel
theorem dL_law_369 : decode cL_law 369 = .ok (.iconst 2, 1) := by decide +kernel
theorem dL_law_370 : decode cL_law 370 = .ok (.iadd, 1) := by decide +kernel
theorem dL_law_371 : decode cL_law 371 = .ok (.iaload, 1) := by decide +kernel
theorem dL_law_372 : decode cL_law 372 = .ok (.invokevirtual 37, 3) := by decide +kernel
theorem dL_law_375 : decode cL_law 375 = .ok (.lcmp, 1) := by decide +kernel
theorem dL_law_376 : decode cL_law 376 = .ok (.ifCond .eq 795, 3) := by decide +kernel
theorem dL_law_379 : decode cL_law 379 = .ok (.iconst 0, 1) := by decide +kernel
theorem dL_law_380 : decode cL_law 380 = .ok (.ireturn, 1) := by decide +kernel
theorem dL_law_381 : decode cL_law 381 = .ok (.aload_n 1, 1) := by decide +kernel
theorem dL_law_382 : decode cL_law 382 = .ok (.aload_n 0, 1) := by decide +kernel
theorem dL_law_383 : decode cL_law 383 = .ok (.iload_n 3, 1) := by decide +kernel
theorem dL_law_384 : decode cL_law 384 = .ok (.iconst 1, 1) := by decide +kernel
theorem dL_law_385 : decode cL_law 385 = .ok (.iadd, 1) := by decide +kernel
theorem dL_law_386 : decode cL_law 386 = .ok (.iaload, 1) := by decide +kernel
theorem dL_law_387 : decode cL_law 387 = .ok (.aload_n 0, 1) := by decide +kernel
theorem dL_law_388 : decode cL_law 388 = .ok (.iload_n 3, 1) := by decide +kernel
theorem dL_law_389 : decode cL_law 389 = .ok (.iconst 2, 1) := by decide +kernel
theorem dL_law_390 : decode cL_law 390 = .ok (.iadd, 1) := by decide +kernel
theorem dL_law_391 : decode cL_law 391 = .ok (.iaload, 1) := by decide +kernel
theorem dL_law_392 : decode cL_law 392 = .ok (.aload_n 0, 1) := by decide +kernel
theorem dL_law_393 : decode cL_law 393 = .ok (.iload_n 3, 1) := by decide +kernel
theorem dL_law_394 : decode cL_law 394 = .ok (.iconst 3, 1) := by decide +kernel
theorem dL_law_395 : decode cL_law 395 = .ok (.iadd, 1) := by decide +kernel
theorem dL_law_396 : decode cL_law 396 = .ok (.iaload, 1) := by decide +kernel
theorem dL_law_397 : decode cL_law 397 = .ok (.invokevirtual 38, 3) := by decide +kernel
theorem dL_law_400 : decode cL_law 400 = .ok (.aload_n 2, 1) := by decide +kernel
theorem dL_law_401 : decode cL_law 401 = .ok (.aload_n 0, 1) := by decide +kernel
theorem dL_law_402 : decode cL_law 402 = .ok (.iload_n 3, 1) := by decide +kernel
theorem dL_law_403 : decode cL_law 403 = .ok (.iconst 1, 1) := by decide +kernel
theorem dL_law_404 : decode cL_law 404 = .ok (.iadd, 1) := by decide +kernel
theorem dL_law_405 : decode cL_law 405 = .ok (.iaload, 1) := by decide +kernel
theorem dL_law_406 : decode cL_law 406 = .ok (.aload_n 0, 1) := by decide +kernel
theorem dL_law_407 : decode cL_law 407 = .ok (.iload_n 3, 1) := by decide +kernel
theorem dL_law_408 : decode cL_law 408 = .ok (.iconst 2, 1) := by decide +kernel
theorem dL_law_409 : decode cL_law 409 = .ok (.iadd, 1) := by decide +kernel
theorem dL_law_410 : decode cL_law 410 = .ok (.iaload, 1) := by decide +kernel
theorem dL_law_411 : decode cL_law 411 = .ok (.aload_n 0, 1) := by decide +kernel
theorem dL_law_412 : decode cL_law 412 = .ok (.iload_n 3, 1) := by decide +kernel
theorem dL_law_413 : decode cL_law 413 = .ok (.iconst 3, 1) := by decide +kernel
theorem dL_law_414 : decode cL_law 414 = .ok (.iadd, 1) := by decide +kernel
theorem dL_law_415 : decode cL_law 415 = .ok (.iaload, 1) := by decide +kernel
theorem dL_law_416 : decode cL_law 416 = .ok (.invokevirtual 41, 3) := by decide +kernel
theorem dL_law_419 : decode cL_law 419 = .ok (.if_icmp .eq 752, 3) := by decide +kernel
theorem dL_law_422 : decode cL_law 422 = .ok (.iconst 0, 1) := by decide +kernel
theorem dL_law_423 : decode cL_law 423 = .ok (.ireturn, 1) := by decide +kernel
theorem dL_law_424 : decode cL_law 424 = .ok (.aload_n 1, 1) := by decide +kernel
theorem dL_law_425 : decode cL_law 425 = .ok (.aload_n 0, 1) := by decide +kernel
theorem dL_law_426 : decode cL_law 426 = .ok (.iload_n 3, 1) := by decide +kernel
theorem dL_law_427 : decode cL_law 427 = .ok (.iconst 1, 1) := by decide +kernel
theorem dL_law_428 : decode cL_law 428 = .ok (.iadd, 1) := by decide +kernel
theorem dL_law_429 : decode cL_law 429 = .ok (.iaload, 1) := by decide +kernel
theorem dL_law_430 : decode cL_law 430 = .ok (.invokevirtual 42, 3) := by decide +kernel
theorem dL_law_433 : decode cL_law 433 = .ok (.aload_n 2, 1) := by decide +kernel
theorem dL_law_434 : decode cL_law 434 = .ok (.aload_n 0, 1) := by decide +kernel
theorem dL_law_435 : decode cL_law 435 = .ok (.iload_n 3, 1) := by decide +kernel
theorem dL_law_436 : decode cL_law 436 = .ok (.iconst 1, 1) := by decide +kernel
theorem dL_law_437 : decode cL_law 437 = .ok (.iadd, 1) := by decide +kernel
theorem dL_law_438 : decode cL_law 438 = .ok (.iaload, 1) := by decide +kernel
theorem dL_law_439 : decode cL_law 439 = .ok (.invokevirtual 46, 3) := by decide +kernel
theorem dL_law_442 : decode cL_law 442 = .ok (.if_icmp .eq 729, 3) := by decide +kernel
theorem dL_law_445 : decode cL_law 445 = .ok (.iconst 0, 1) := by decide +kernel
theorem dL_law_446 : decode cL_law 446 = .ok (.ireturn, 1) := by decide +kernel
theorem dL_law_447 : decode cL_law 447 = .ok (.aload_n 1, 1) := by decide +kernel
theorem dL_law_448 : decode cL_law 448 = .ok (.aload_n 0, 1) := by decide +kernel
theorem dL_law_449 : decode cL_law 449 = .ok (.iload_n 3, 1) := by decide +kernel
theorem dL_law_450 : decode cL_law 450 = .ok (.iconst 1, 1) := by decide +kernel
theorem dL_law_451 : decode cL_law 451 = .ok (.iadd, 1) := by decide +kernel
theorem dL_law_452 : decode cL_law 452 = .ok (.iaload, 1) := by decide +kernel
theorem dL_law_453 : decode cL_law 453 = .ok (.invokevirtual 47, 3) := by decide +kernel
theorem dL_law_456 : decode cL_law 456 = .ok (.aload_n 2, 1) := by decide +kernel
theorem dL_law_457 : decode cL_law 457 = .ok (.aload_n 0, 1) := by decide +kernel
theorem dL_law_458 : decode cL_law 458 = .ok (.iload_n 3, 1) := by decide +kernel
theorem dL_law_459 : decode cL_law 459 = .ok (.iconst 1, 1) := by decide +kernel
theorem dL_law_460 : decode cL_law 460 = .ok (.iadd, 1) := by decide +kernel
theorem dL_law_461 : decode cL_law 461 = .ok (.iaload, 1) := by decide +kernel
theorem dL_law_462 : decode cL_law 462 = .ok (.invokevirtual 51, 3) := by decide +kernel
theorem dL_law_465 : decode cL_law 465 = .ok (.lcmp, 1) := by decide +kernel
theorem dL_law_466 : decode cL_law 466 = .ok (.ifCond .eq 705, 3) := by decide +kernel
theorem dL_law_469 : decode cL_law 469 = .ok (.iconst 0, 1) := by decide +kernel
theorem dL_law_470 : decode cL_law 470 = .ok (.ireturn, 1) := by decide +kernel
theorem dL_law_471 : decode cL_law 471 = .ok (.aload_n 1, 1) := by decide +kernel
theorem dL_law_472 : decode cL_law 472 = .ok (.aload_n 0, 1) := by decide +kernel
theorem dL_law_473 : decode cL_law 473 = .ok (.iload_n 3, 1) := by decide +kernel
theorem dL_law_474 : decode cL_law 474 = .ok (.iconst 1, 1) := by decide +kernel
theorem dL_law_475 : decode cL_law 475 = .ok (.iadd, 1) := by decide +kernel
theorem dL_law_476 : decode cL_law 476 = .ok (.iaload, 1) := by decide +kernel
theorem dL_law_477 : decode cL_law 477 = .ok (.aload_n 0, 1) := by decide +kernel
theorem dL_law_478 : decode cL_law 478 = .ok (.iload_n 3, 1) := by decide +kernel
theorem dL_law_479 : decode cL_law 479 = .ok (.iconst 2, 1) := by decide +kernel
theorem dL_law_480 : decode cL_law 480 = .ok (.iadd, 1) := by decide +kernel
theorem dL_law_481 : decode cL_law 481 = .ok (.iaload, 1) := by decide +kernel
theorem dL_law_482 : decode cL_law 482 = .ok (.invokevirtual 52, 3) := by decide +kernel
theorem dL_law_485 : decode cL_law 485 = .ok (.aload_n 2, 1) := by decide +kernel
theorem dL_law_486 : decode cL_law 486 = .ok (.aload_n 0, 1) := by decide +kernel
theorem dL_law_487 : decode cL_law 487 = .ok (.iload_n 3, 1) := by decide +kernel
theorem dL_law_488 : decode cL_law 488 = .ok (.iconst 1, 1) := by decide +kernel
theorem dL_law_489 : decode cL_law 489 = .ok (.iadd, 1) := by decide +kernel
theorem dL_law_490 : decode cL_law 490 = .ok (.iaload, 1) := by decide +kernel
theorem dL_law_491 : decode cL_law 491 = .ok (.aload_n 0, 1) := by decide +kernel
theorem dL_law_492 : decode cL_law 492 = .ok (.iload_n 3, 1) := by decide +kernel
theorem dL_law_493 : decode cL_law 493 = .ok (.iconst 2, 1) := by decide +kernel
theorem dL_law_494 : decode cL_law 494 = .ok (.iadd, 1) := by decide +kernel
theorem dL_law_495 : decode cL_law 495 = .ok (.iaload, 1) := by decide +kernel
theorem dL_law_496 : decode cL_law 496 = .ok (.invokevirtual 55, 3) := by decide +kernel
theorem dL_law_499 : decode cL_law 499 = .ok (.if_icmp .eq 672, 3) := by decide +kernel
theorem dL_law_502 : decode cL_law 502 = .ok (.iconst 0, 1) := by decide +kernel
theorem dL_law_503 : decode cL_law 503 = .ok (.ireturn, 1) := by decide +kernel
theorem dL_law_504 : decode cL_law 504 = .ok (.aload_n 1, 1) := by decide +kernel
theorem dL_law_505 : decode cL_law 505 = .ok (.aload_n 0, 1) := by decide +kernel
theorem dL_law_506 : decode cL_law 506 = .ok (.iload_n 3, 1) := by decide +kernel
theorem dL_law_507 : decode cL_law 507 = .ok (.iconst 1, 1) := by decide +kernel
theorem dL_law_508 : decode cL_law 508 = .ok (.iadd, 1) := by decide +kernel
theorem dL_law_509 : decode cL_law 509 = .ok (.iaload, 1) := by decide +kernel
theorem dL_law_510 : decode cL_law 510 = .ok (.aload_n 0, 1) := by decide +kernel
theorem dL_law_511 : decode cL_law 511 = .ok (.iload_n 3, 1) := by decide +kernel
theorem dL_law_512 : decode cL_law 512 = .ok (.iconst 2, 1) := by decide +kernel
theorem dL_law_513 : decode cL_law 513 = .ok (.iadd, 1) := by decide +kernel
theorem dL_law_514 : decode cL_law 514 = .ok (.iaload, 1) := by decide +kernel
theorem dL_law_515 : decode cL_law 515 = .ok (.aload_n 0, 1) := by decide +kernel
theorem dL_law_516 : decode cL_law 516 = .ok (.iload_n 3, 1) := by decide +kernel
theorem dL_law_517 : decode cL_law 517 = .ok (.iconst 3, 1) := by decide +kernel
theorem dL_law_518 : decode cL_law 518 = .ok (.iadd, 1) := by decide +kernel
theorem dL_law_519 : decode cL_law 519 = .ok (.iaload, 1) := by decide +kernel
theorem dL_law_520 : decode cL_law 520 = .ok (.invokevirtual 56, 3) := by decide +kernel
theorem dL_law_523 : decode cL_law 523 = .ok (.aload_n 2, 1) := by decide +kernel
theorem dL_law_524 : decode cL_law 524 = .ok (.aload_n 0, 1) := by decide +kernel
theorem dL_law_525 : decode cL_law 525 = .ok (.iload_n 3, 1) := by decide +kernel
theorem dL_law_526 : decode cL_law 526 = .ok (.iconst 1, 1) := by decide +kernel
theorem dL_law_527 : decode cL_law 527 = .ok (.iadd, 1) := by decide +kernel
theorem dL_law_528 : decode cL_law 528 = .ok (.iaload, 1) := by decide +kernel
theorem dL_law_529 : decode cL_law 529 = .ok (.aload_n 0, 1) := by decide +kernel
theorem dL_law_530 : decode cL_law 530 = .ok (.iload_n 3, 1) := by decide +kernel
theorem dL_law_531 : decode cL_law 531 = .ok (.iconst 2, 1) := by decide +kernel
theorem dL_law_532 : decode cL_law 532 = .ok (.iadd, 1) := by decide +kernel
theorem dL_law_533 : decode cL_law 533 = .ok (.iaload, 1) := by decide +kernel
theorem dL_law_534 : decode cL_law 534 = .ok (.aload_n 0, 1) := by decide +kernel
theorem dL_law_535 : decode cL_law 535 = .ok (.iload_n 3, 1) := by decide +kernel
theorem dL_law_536 : decode cL_law 536 = .ok (.iconst 3, 1) := by decide +kernel
theorem dL_law_537 : decode cL_law 537 = .ok (.iadd, 1) := by decide +kernel
theorem dL_law_538 : decode cL_law 538 = .ok (.iaload, 1) := by decide +kernel
theorem dL_law_539 : decode cL_law 539 = .ok (.invokevirtual 59, 3) := by decide +kernel
theorem dL_law_542 : decode cL_law 542 = .ok (.if_icmp .eq 629, 3) := by decide +kernel
theorem dL_law_545 : decode cL_law 545 = .ok (.iconst 0, 1) := by decide +kernel
theorem dL_law_546 : decode cL_law 546 = .ok (.ireturn, 1) := by decide +kernel
theorem dL_law_547 : decode cL_law 547 = .ok (.aload_n 1, 1) := by decide +kernel
theorem dL_law_548 : decode cL_law 548 = .ok (.invokevirtual 60, 3) := by decide +kernel
theorem dL_law_551 : decode cL_law 551 = .ok (.aload_n 2, 1) := by decide +kernel
theorem dL_law_552 : decode cL_law 552 = .ok (.invokevirtual 64, 3) := by decide +kernel
theorem dL_law_555 : decode cL_law 555 = .ok (.if_icmp .eq 616, 3) := by decide +kernel
theorem dL_law_558 : decode cL_law 558 = .ok (.iconst 0, 1) := by decide +kernel
theorem dL_law_559 : decode cL_law 559 = .ok (.ireturn, 1) := by decide +kernel
theorem dL_law_560 : decode cL_law 560 = .ok (.aload_n 1, 1) := by decide +kernel
theorem dL_law_561 : decode cL_law 561 = .ok (.aload_n 0, 1) := by decide +kernel
theorem dL_law_562 : decode cL_law 562 = .ok (.iload_n 3, 1) := by decide +kernel
theorem dL_law_563 : decode cL_law 563 = .ok (.iconst 1, 1) := by decide +kernel
theorem dL_law_564 : decode cL_law 564 = .ok (.iadd, 1) := by decide +kernel
theorem dL_law_565 : decode cL_law 565 = .ok (.iaload, 1) := by decide +kernel
theorem dL_law_566 : decode cL_law 566 = .ok (.invokevirtual 65, 3) := by decide +kernel
theorem dL_law_569 : decode cL_law 569 = .ok (.aload_n 2, 1) := by decide +kernel
theorem dL_law_570 : decode cL_law 570 = .ok (.aload_n 0, 1) := by decide +kernel
theorem dL_law_571 : decode cL_law 571 = .ok (.iload_n 3, 1) := by decide +kernel
theorem dL_law_572 : decode cL_law 572 = .ok (.iconst 1, 1) := by decide +kernel
theorem dL_law_573 : decode cL_law 573 = .ok (.iadd, 1) := by decide +kernel
theorem dL_law_574 : decode cL_law 574 = .ok (.iaload, 1) := by decide +kernel
theorem dL_law_575 : decode cL_law 575 = .ok (.invokevirtual 68, 3) := by decide +kernel
theorem dL_law_578 : decode cL_law 578 = .ok (.if_icmp .eq 593, 3) := by decide +kernel
theorem dL_law_581 : decode cL_law 581 = .ok (.iconst 0, 1) := by decide +kernel
theorem dL_law_582 : decode cL_law 582 = .ok (.ireturn, 1) := by decide +kernel
theorem dL_law_583 : decode cL_law 583 = .ok (.aload_n 1, 1) := by decide +kernel
theorem dL_law_584 : decode cL_law 584 = .ok (.aload_n 0, 1) := by decide +kernel
theorem dL_law_585 : decode cL_law 585 = .ok (.iload_n 3, 1) := by decide +kernel
theorem dL_law_586 : decode cL_law 586 = .ok (.iconst 1, 1) := by decide +kernel
theorem dL_law_587 : decode cL_law 587 = .ok (.iadd, 1) := by decide +kernel
theorem dL_law_588 : decode cL_law 588 = .ok (.iaload, 1) := by decide +kernel
theorem dL_law_589 : decode cL_law 589 = .ok (.aload_n 0, 1) := by decide +kernel
theorem dL_law_590 : decode cL_law 590 = .ok (.iload_n 3, 1) := by decide +kernel
theorem dL_law_591 : decode cL_law 591 = .ok (.iconst 2, 1) := by decide +kernel
theorem dL_law_592 : decode cL_law 592 = .ok (.iadd, 1) := by decide +kernel
theorem dL_law_593 : decode cL_law 593 = .ok (.iaload, 1) := by decide +kernel
theorem dL_law_594 : decode cL_law 594 = .ok (.aload_n 0, 1) := by decide +kernel
theorem dL_law_595 : decode cL_law 595 = .ok (.iload_n 3, 1) := by decide +kernel
theorem dL_law_596 : decode cL_law 596 = .ok (.iconst 3, 1) := by decide +kernel
theorem dL_law_597 : decode cL_law 597 = .ok (.iadd, 1) := by decide +kernel
theorem dL_law_598 : decode cL_law 598 = .ok (.iaload, 1) := by decide +kernel
theorem dL_law_599 : decode cL_law 599 = .ok (.invokevirtual 69, 3) := by decide +kernel
theorem dL_law_602 : decode cL_law 602 = .ok (.aload_n 2, 1) := by decide +kernel
theorem dL_law_603 : decode cL_law 603 = .ok (.aload_n 0, 1) := by decide +kernel
theorem dL_law_604 : decode cL_law 604 = .ok (.iload_n 3, 1) := by decide +kernel
theorem dL_law_605 : decode cL_law 605 = .ok (.iconst 1, 1) := by decide +kernel
theorem dL_law_606 : decode cL_law 606 = .ok (.iadd, 1) := by decide +kernel
theorem dL_law_607 : decode cL_law 607 = .ok (.iaload, 1) := by decide +kernel
theorem dL_law_608 : decode cL_law 608 = .ok (.aload_n 0, 1) := by decide +kernel
theorem dL_law_609 : decode cL_law 609 = .ok (.iload_n 3, 1) := by decide +kernel
theorem dL_law_610 : decode cL_law 610 = .ok (.iconst 2, 1) := by decide +kernel
theorem dL_law_611 : decode cL_law 611 = .ok (.iadd, 1) := by decide +kernel
theorem dL_law_612 : decode cL_law 612 = .ok (.iaload, 1) := by decide +kernel
theorem dL_law_613 : decode cL_law 613 = .ok (.aload_n 0, 1) := by decide +kernel
theorem dL_law_614 : decode cL_law 614 = .ok (.iload_n 3, 1) := by decide +kernel
theorem dL_law_615 : decode cL_law 615 = .ok (.iconst 3, 1) := by decide +kernel
theorem dL_law_616 : decode cL_law 616 = .ok (.iadd, 1) := by decide +kernel
theorem dL_law_617 : decode cL_law 617 = .ok (.iaload, 1) := by decide +kernel
theorem dL_law_618 : decode cL_law 618 = .ok (.invokevirtual 72, 3) := by decide +kernel
theorem dL_law_621 : decode cL_law 621 = .ok (.lcmp, 1) := by decide +kernel
theorem dL_law_622 : decode cL_law 622 = .ok (.ifCond .eq 549, 3) := by decide +kernel
theorem dL_law_625 : decode cL_law 625 = .ok (.iconst 0, 1) := by decide +kernel
theorem dL_law_626 : decode cL_law 626 = .ok (.ireturn, 1) := by decide +kernel
theorem dL_law_627 : decode cL_law 627 = .ok (.aload_n 1, 1) := by decide +kernel
theorem dL_law_628 : decode cL_law 628 = .ok (.aload_n 0, 1) := by decide +kernel
theorem dL_law_629 : decode cL_law 629 = .ok (.iload_n 3, 1) := by decide +kernel
theorem dL_law_630 : decode cL_law 630 = .ok (.iconst 1, 1) := by decide +kernel
theorem dL_law_631 : decode cL_law 631 = .ok (.iadd, 1) := by decide +kernel
end
section
theorem dL_law_632 : decode cL_law 632 = .ok (.iaload, 1) := by decide +kernel
theorem dL_law_633 : decode cL_law 633 = .ok (.aload_n 0, 1) := by decide +kernel
theorem dL_law_634 : decode cL_law 634 = .ok (.iload_n 3, 1) := by decide +kernel
theorem dL_law_635 : decode cL_law 635 = .ok (.iconst 2, 1) := by decide +kernel
theorem dL_law_636 : decode cL_law 636 = .ok (.iadd, 1) := by decide +kernel
theorem dL_law_637 : decode cL_law 637 = .ok (.iaload, 1) := by decide +kernel
theorem dL_law_638 : decode cL_law 638 = .ok (.invokevirtual 73, 3) := by decide +kernel
theorem dL_law_641 : decode cL_law 641 = .ok (.aload_n 2, 1) := by decide +kernel
theorem dL_law_642 : decode cL_law 642 = .ok (.aload_n 0, 1) := by decide +kernel
theorem dL_law_643 : decode cL_law 643 = .ok (.iload_n 3, 1) := by decide +kernel
theorem dL_law_644 : decode cL_law 644 = .ok (.iconst 1, 1) := by decide +kernel
theorem dL_law_645 : decode cL_law 645 = .ok (.iadd, 1) := by decide +kernel
theorem dL_law_646 : decode cL_law 646 = .ok (.iaload, 1) := by decide +kernel
theorem dL_law_647 : decode cL_law 647 = .ok (.aload_n 0, 1) := by decide +kernel
theorem dL_law_648 : decode cL_law 648 = .ok (.iload_n 3, 1) := by decide +kernel
theorem dL_law_649 : decode cL_law 649 = .ok (.iconst 2, 1) := by decide +kernel
theorem dL_law_650 : decode cL_law 650 = .ok (.iadd, 1) := by decide +kernel
theorem dL_law_651 : decode cL_law 651 = .ok (.iaload, 1) := by decide +kernel
theorem dL_law_652 : decode cL_law 652 = .ok (.invokevirtual 76, 3) := by decide +kernel
theorem dL_law_655 : decode cL_law 655 = .ok (.if_icmp .eq 516, 3) := by decide +kernel
theorem dL_law_658 : decode cL_law 658 = .ok (.iconst 0, 1) := by decide +kernel
theorem dL_law_659 : decode cL_law 659 = .ok (.ireturn, 1) := by decide +kernel
theorem dL_law_660 : decode cL_law 660 = .ok (.aload_n 1, 1) := by decide +kernel
theorem dL_law_661 : decode cL_law 661 = .ok (.aload_n 0, 1) := by decide +kernel
theorem dL_law_662 : decode cL_law 662 = .ok (.iload_n 3, 1) := by decide +kernel
theorem dL_law_663 : decode cL_law 663 = .ok (.iconst 1, 1) := by decide +kernel
theorem dL_law_664 : decode cL_law 664 = .ok (.iadd, 1) := by decide +kernel
theorem dL_law_665 : decode cL_law 665 = .ok (.iaload, 1) := by decide +kernel
theorem dL_law_666 : decode cL_law 666 = .ok (.aload_n 0, 1) := by decide +kernel
theorem dL_law_667 : decode cL_law 667 = .ok (.iload_n 3, 1) := by decide +kernel
theorem dL_law_668 : decode cL_law 668 = .ok (.iconst 2, 1) := by decide +kernel
theorem dL_law_669 : decode cL_law 669 = .ok (.iadd, 1) := by decide +kernel
theorem dL_law_670 : decode cL_law 670 = .ok (.iaload, 1) := by decide +kernel
theorem dL_law_671 : decode cL_law 671 = .ok (.aload_n 0, 1) := by decide +kernel
theorem dL_law_672 : decode cL_law 672 = .ok (.iload_n 3, 1) := by decide +kernel
theorem dL_law_673 : decode cL_law 673 = .ok (.iconst 3, 1) := by decide +kernel
theorem dL_law_674 : decode cL_law 674 = .ok (.iadd, 1) := by decide +kernel
theorem dL_law_675 : decode cL_law 675 = .ok (.iaload, 1) := by decide +kernel
theorem dL_law_676 : decode cL_law 676 = .ok (.aload_n 0, 1) := by decide +kernel
theorem dL_law_677 : decode cL_law 677 = .ok (.iload_n 3, 1) := by decide +kernel
theorem dL_law_678 : decode cL_law 678 = .ok (.iconst 4, 1) := by decide +kernel
theorem dL_law_679 : decode cL_law 679 = .ok (.iadd, 1) := by decide +kernel
theorem dL_law_680 : decode cL_law 680 = .ok (.iaload, 1) := by decide +kernel
theorem dL_law_681 : decode cL_law 681 = .ok (.invokevirtual 77, 3) := by decide +kernel
theorem dL_law_684 : decode cL_law 684 = .ok (.aload_n 2, 1) := by decide +kernel
theorem dL_law_685 : decode cL_law 685 = .ok (.aload_n 0, 1) := by decide +kernel
theorem dL_law_686 : decode cL_law 686 = .ok (.iload_n 3, 1) := by decide +kernel
theorem dL_law_687 : decode cL_law 687 = .ok (.iconst 1, 1) := by decide +kernel
theorem dL_law_688 : decode cL_law 688 = .ok (.iadd, 1) := by decide +kernel
theorem dL_law_689 : decode cL_law 689 = .ok (.iaload, 1) := by decide +kernel
theorem dL_law_690 : decode cL_law 690 = .ok (.aload_n 0, 1) := by decide +kernel
theorem dL_law_691 : decode cL_law 691 = .ok (.iload_n 3, 1) := by decide +kernel
theorem dL_law_692 : decode cL_law 692 = .ok (.iconst 2, 1) := by decide +kernel
theorem dL_law_693 : decode cL_law 693 = .ok (.iadd, 1) := by decide +kernel
theorem dL_law_694 : decode cL_law 694 = .ok (.iaload, 1) := by decide +kernel
theorem dL_law_695 : decode cL_law 695 = .ok (.aload_n 0, 1) := by decide +kernel
theorem dL_law_696 : decode cL_law 696 = .ok (.iload_n 3, 1) := by decide +kernel
theorem dL_law_697 : decode cL_law 697 = .ok (.iconst 3, 1) := by decide +kernel
theorem dL_law_698 : decode cL_law 698 = .ok (.iadd, 1) := by decide +kernel
theorem dL_law_699 : decode cL_law 699 = .ok (.iaload, 1) := by decide +kernel
theorem dL_law_700 : decode cL_law 700 = .ok (.aload_n 0, 1) := by decide +kernel
theorem dL_law_701 : decode cL_law 701 = .ok (.iload_n 3, 1) := by decide +kernel
theorem dL_law_702 : decode cL_law 702 = .ok (.iconst 4, 1) := by decide +kernel
theorem dL_law_703 : decode cL_law 703 = .ok (.iadd, 1) := by decide +kernel
theorem dL_law_704 : decode cL_law 704 = .ok (.iaload, 1) := by decide +kernel
theorem dL_law_705 : decode cL_law 705 = .ok (.invokevirtual 81, 3) := by decide +kernel
theorem dL_law_708 : decode cL_law 708 = .ok (.if_icmp .eq 463, 3) := by decide +kernel
theorem dL_law_711 : decode cL_law 711 = .ok (.iconst 0, 1) := by decide +kernel
theorem dL_law_712 : decode cL_law 712 = .ok (.ireturn, 1) := by decide +kernel
theorem dL_law_713 : decode cL_law 713 = .ok (.aload_n 1, 1) := by decide +kernel
theorem dL_law_714 : decode cL_law 714 = .ok (.aload_n 0, 1) := by decide +kernel
theorem dL_law_715 : decode cL_law 715 = .ok (.iload_n 3, 1) := by decide +kernel
theorem dL_law_716 : decode cL_law 716 = .ok (.iconst 1, 1) := by decide +kernel
theorem dL_law_717 : decode cL_law 717 = .ok (.iadd, 1) := by decide +kernel
theorem dL_law_718 : decode cL_law 718 = .ok (.iaload, 1) := by decide +kernel
theorem dL_law_719 : decode cL_law 719 = .ok (.aload_n 0, 1) := by decide +kernel
theorem dL_law_720 : decode cL_law 720 = .ok (.iload_n 3, 1) := by decide +kernel
theorem dL_law_721 : decode cL_law 721 = .ok (.iconst 2, 1) := by decide +kernel
theorem dL_law_722 : decode cL_law 722 = .ok (.iadd, 1) := by decide +kernel
theorem dL_law_723 : decode cL_law 723 = .ok (.iaload, 1) := by decide +kernel
theorem dL_law_724 : decode cL_law 724 = .ok (.invokevirtual 82, 3) := by decide +kernel
theorem dL_law_727 : decode cL_law 727 = .ok (.aload_n 2, 1) := by decide +kernel
theorem dL_law_728 : decode cL_law 728 = .ok (.aload_n 0, 1) := by decide +kernel
theorem dL_law_729 : decode cL_law 729 = .ok (.iload_n 3, 1) := by decide +kernel
theorem dL_law_730 : decode cL_law 730 = .ok (.iconst 1, 1) := by decide +kernel
theorem dL_law_731 : decode cL_law 731 = .ok (.iadd, 1) := by decide +kernel
theorem dL_law_732 : decode cL_law 732 = .ok (.iaload, 1) := by decide +kernel
theorem dL_law_733 : decode cL_law 733 = .ok (.aload_n 0, 1) := by decide +kernel
theorem dL_law_734 : decode cL_law 734 = .ok (.iload_n 3, 1) := by decide +kernel
theorem dL_law_735 : decode cL_law 735 = .ok (.iconst 2, 1) := by decide +kernel
theorem dL_law_736 : decode cL_law 736 = .ok (.iadd, 1) := by decide +kernel
theorem dL_law_737 : decode cL_law 737 = .ok (.iaload, 1) := by decide +kernel
theorem dL_law_738 : decode cL_law 738 = .ok (.invokevirtual 85, 3) := by decide +kernel
theorem dL_law_741 : decode cL_law 741 = .ok (.if_icmp .eq 430, 3) := by decide +kernel
theorem dL_law_744 : decode cL_law 744 = .ok (.iconst 0, 1) := by decide +kernel
theorem dL_law_745 : decode cL_law 745 = .ok (.ireturn, 1) := by decide +kernel
theorem dL_law_746 : decode cL_law 746 = .ok (.aload_n 1, 1) := by decide +kernel
theorem dL_law_747 : decode cL_law 747 = .ok (.aload_n 0, 1) := by decide +kernel
theorem dL_law_748 : decode cL_law 748 = .ok (.iload_n 3, 1) := by decide +kernel
theorem dL_law_749 : decode cL_law 749 = .ok (.iconst 1, 1) := by decide +kernel
theorem dL_law_750 : decode cL_law 750 = .ok (.iadd, 1) := by decide +kernel
theorem dL_law_751 : decode cL_law 751 = .ok (.iaload, 1) := by decide +kernel
theorem dL_law_752 : decode cL_law 752 = .ok (.aload_n 0, 1) := by decide +kernel
theorem dL_law_753 : decode cL_law 753 = .ok (.iload_n 3, 1) := by decide +kernel
theorem dL_law_754 : decode cL_law 754 = .ok (.iconst 2, 1) := by decide +kernel
theorem dL_law_755 : decode cL_law 755 = .ok (.iadd, 1) := by decide +kernel
theorem dL_law_756 : decode cL_law 756 = .ok (.iaload, 1) := by decide +kernel
theorem dL_law_757 : decode cL_law 757 = .ok (.invokevirtual 86, 3) := by decide +kernel
theorem dL_law_760 : decode cL_law 760 = .ok (.aload_n 2, 1) := by decide +kernel
theorem dL_law_761 : decode cL_law 761 = .ok (.aload_n 0, 1) := by decide +kernel
theorem dL_law_762 : decode cL_law 762 = .ok (.iload_n 3, 1) := by decide +kernel
theorem dL_law_763 : decode cL_law 763 = .ok (.iconst 1, 1) := by decide +kernel
theorem dL_law_764 : decode cL_law 764 = .ok (.iadd, 1) := by decide +kernel
theorem dL_law_765 : decode cL_law 765 = .ok (.iaload, 1) := by decide +kernel
theorem dL_law_766 : decode cL_law 766 = .ok (.aload_n 0, 1) := by decide +kernel
theorem dL_law_767 : decode cL_law 767 = .ok (.iload_n 3, 1) := by decide +kernel
theorem dL_law_768 : decode cL_law 768 = .ok (.iconst 2, 1) := by decide +kernel
theorem dL_law_769 : decode cL_law 769 = .ok (.iadd, 1) := by decide +kernel
theorem dL_law_770 : decode cL_law 770 = .ok (.iaload, 1) := by decide +kernel
theorem dL_law_771 : decode cL_law 771 = .ok (.invokevirtual 89, 3) := by decide +kernel
theorem dL_law_774 : decode cL_law 774 = .ok (.if_icmp .eq 397, 3) := by decide +kernel
theorem dL_law_777 : decode cL_law 777 = .ok (.iconst 0, 1) := by decide +kernel
theorem dL_law_778 : decode cL_law 778 = .ok (.ireturn, 1) := by decide +kernel
theorem dL_law_779 : decode cL_law 779 = .ok (.aload_n 1, 1) := by decide +kernel
theorem dL_law_780 : decode cL_law 780 = .ok (.aload_n 0, 1) := by decide +kernel
theorem dL_law_781 : decode cL_law 781 = .ok (.iload_n 3, 1) := by decide +kernel
theorem dL_law_782 : decode cL_law 782 = .ok (.iconst 1, 1) := by decide +kernel
theorem dL_law_783 : decode cL_law 783 = .ok (.iadd, 1) := by decide +kernel
theorem dL_law_784 : decode cL_law 784 = .ok (.iaload, 1) := by decide +kernel
theorem dL_law_785 : decode cL_law 785 = .ok (.aload_n 0, 1) := by decide +kernel
theorem dL_law_786 : decode cL_law 786 = .ok (.iload_n 3, 1) := by decide +kernel
theorem dL_law_787 : decode cL_law 787 = .ok (.iconst 2, 1) := by decide +kernel
theorem dL_law_788 : decode cL_law 788 = .ok (.iadd, 1) := by decide +kernel
theorem dL_law_789 : decode cL_law 789 = .ok (.iaload, 1) := by decide +kernel
theorem dL_law_790 : decode cL_law 790 = .ok (.invokevirtual 90, 3) := by decide +kernel
theorem dL_law_793 : decode cL_law 793 = .ok (.aload_n 2, 1) := by decide +kernel
theorem dL_law_794 : decode cL_law 794 = .ok (.aload_n 0, 1) := by decide +kernel
theorem dL_law_795 : decode cL_law 795 = .ok (.iload_n 3, 1) := by decide +kernel
theorem dL_law_796 : decode cL_law 796 = .ok (.iconst 1, 1) := by decide +kernel
theorem dL_law_797 : decode cL_law 797 = .ok (.iadd, 1) := by decide +kernel
theorem dL_law_798 : decode cL_law 798 = .ok (.iaload, 1) := by decide +kernel
theorem dL_law_799 : decode cL_law 799 = .ok (.aload_n 0, 1) := by decide +kernel
theorem dL_law_800 : decode cL_law 800 = .ok (.iload_n 3, 1) := by decide +kernel
theorem dL_law_801 : decode cL_law 801 = .ok (.iconst 2, 1) := by decide +kernel
theorem dL_law_802 : decode cL_law 802 = .ok (.iadd, 1) := by decide +kernel
theorem dL_law_803 : decode cL_law 803 = .ok (.iaload, 1) := by decide +kernel
theorem dL_law_804 : decode cL_law 804 = .ok (.invokevirtual 93, 3) := by decide +kernel
theorem dL_law_807 : decode cL_law 807 = .ok (.if_icmp .eq 364, 3) := by decide +kernel
theorem dL_law_810 : decode cL_law 810 = .ok (.iconst 0, 1) := by decide +kernel
theorem dL_law_811 : decode cL_law 811 = .ok (.ireturn, 1) := by decide +kernel
theorem dL_law_812 : decode cL_law 812 = .ok (.aload_n 1, 1) := by decide +kernel
theorem dL_law_813 : decode cL_law 813 = .ok (.aload_n 0, 1) := by decide +kernel
theorem dL_law_814 : decode cL_law 814 = .ok (.iload_n 3, 1) := by decide +kernel
theorem dL_law_815 : decode cL_law 815 = .ok (.iconst 1, 1) := by decide +kernel
theorem dL_law_816 : decode cL_law 816 = .ok (.iadd, 1) := by decide +kernel
theorem dL_law_817 : decode cL_law 817 = .ok (.iaload, 1) := by decide +kernel
theorem dL_law_818 : decode cL_law 818 = .ok (.aload_n 0, 1) := by decide +kernel
theorem dL_law_819 : decode cL_law 819 = .ok (.iload_n 3, 1) := by decide +kernel
theorem dL_law_820 : decode cL_law 820 = .ok (.iconst 2, 1) := by decide +kernel
theorem dL_law_821 : decode cL_law 821 = .ok (.iadd, 1) := by decide +kernel
theorem dL_law_822 : decode cL_law 822 = .ok (.iaload, 1) := by decide +kernel
theorem dL_law_823 : decode cL_law 823 = .ok (.aload_n 0, 1) := by decide +kernel
theorem dL_law_824 : decode cL_law 824 = .ok (.iload_n 3, 1) := by decide +kernel
theorem dL_law_825 : decode cL_law 825 = .ok (.iconst 3, 1) := by decide +kernel
theorem dL_law_826 : decode cL_law 826 = .ok (.iadd, 1) := by decide +kernel
theorem dL_law_827 : decode cL_law 827 = .ok (.iaload, 1) := by decide +kernel
theorem dL_law_828 : decode cL_law 828 = .ok (.invokevirtual 94, 3) := by decide +kernel
theorem dL_law_831 : decode cL_law 831 = .ok (.aload_n 2, 1) := by decide +kernel
theorem dL_law_832 : decode cL_law 832 = .ok (.aload_n 0, 1) := by decide +kernel
theorem dL_law_833 : decode cL_law 833 = .ok (.iload_n 3, 1) := by decide +kernel
theorem dL_law_834 : decode cL_law 834 = .ok (.iconst 1, 1) := by decide +kernel
theorem dL_law_835 : decode cL_law 835 = .ok (.iadd, 1) := by decide +kernel
theorem dL_law_836 : decode cL_law 836 = .ok (.iaload, 1) := by decide +kernel
theorem dL_law_837 : decode cL_law 837 = .ok (.aload_n 0, 1) := by decide +kernel
theorem dL_law_838 : decode cL_law 838 = .ok (.iload_n 3, 1) := by decide +kernel
theorem dL_law_839 : decode cL_law 839 = .ok (.iconst 2, 1) := by decide +kernel
theorem dL_law_840 : decode cL_law 840 = .ok (.iadd, 1) := by decide +kernel
theorem dL_law_841 : decode cL_law 841 = .ok (.iaload, 1) := by decide +kernel
theorem dL_law_842 : decode cL_law 842 = .ok (.aload_n 0, 1) := by decide +kernel
theorem dL_law_843 : decode cL_law 843 = .ok (.iload_n 3, 1) := by decide +kernel
theorem dL_law_844 : decode cL_law 844 = .ok (.iconst 3, 1) := by decide +kernel
theorem dL_law_845 : decode cL_law 845 = .ok (.iadd, 1) := by decide +kernel
theorem dL_law_846 : decode cL_law 846 = .ok (.iaload, 1) := by decide +kernel
theorem dL_law_847 : decode cL_law 847 = .ok (.invokevirtual 97, 3) := by decide +kernel
theorem dL_law_850 : decode cL_law 850 = .ok (.lcmp, 1) := by decide +kernel
theorem dL_law_851 : decode cL_law 851 = .ok (.ifCond .eq 320, 3) := by decide +kernel
theorem dL_law_854 : decode cL_law 854 = .ok (.iconst 0, 1) := by decide +kernel
theorem dL_law_855 : decode cL_law 855 = .ok (.ireturn, 1) := by decide +kernel
theorem dL_law_856 : decode cL_law 856 = .ok (.aload_n 1, 1) := by decide +kernel
theorem dL_law_857 : decode cL_law 857 = .ok (.aload_n 0, 1) := by decide +kernel
theorem dL_law_858 : decode cL_law 858 = .ok (.iload_n 3, 1) := by decide +kernel
theorem dL_law_859 : decode cL_law 859 = .ok (.iconst 1, 1) := by decide +kernel
theorem dL_law_860 : decode cL_law 860 = .ok (.iadd, 1) := by decide +kernel
theorem dL_law_861 : decode cL_law 861 = .ok (.iaload, 1) := by decide +kernel
theorem dL_law_862 : decode cL_law 862 = .ok (.aload_n 0, 1) := by decide +kernel
theorem dL_law_863 : decode cL_law 863 = .ok (.iload_n 3, 1) := by decide +kernel
theorem dL_law_864 : decode cL_law 864 = .ok (.iconst 2, 1) := by decide +kernel
theorem dL_law_865 : decode cL_law 865 = .ok (.iadd, 1) := by decide +kernel
theorem dL_law_866 : decode cL_law 866 = .ok (.iaload, 1) := by decide +kernel
theorem dL_law_867 : decode cL_law 867 = .ok (.invokevirtual 98, 3) := by decide +kernel
theorem dL_law_870 : decode cL_law 870 = .ok (.aload_n 2, 1) := by decide +kernel
theorem dL_law_871 : decode cL_law 871 = .ok (.aload_n 0, 1) := by decide +kernel
theorem dL_law_872 : decode cL_law 872 = .ok (.iload_n 3, 1) := by decide +kernel
theorem dL_law_873 : decode cL_law 873 = .ok (.iconst 1, 1) := by decide +kernel
theorem dL_law_874 : decode cL_law 874 = .ok (.iadd, 1) := by decide +kernel
theorem dL_law_875 : decode cL_law 875 = .ok (.iaload, 1) := by decide +kernel
theorem dL_law_876 : decode cL_law 876 = .ok (.aload_n 0, 1) := by decide +kernel
theorem dL_law_877 : decode cL_law 877 = .ok (.iload_n 3, 1) := by decide +kernel
theorem dL_law_878 : decode cL_law 878 = .ok (.iconst 2, 1) := by decide +kernel
theorem dL_law_879 : decode cL_law 879 = .ok (.iadd, 1) := by decide +kernel
theorem dL_law_880 : decode cL_law 880 = .ok (.iaload, 1) := by decide +kernel
theorem dL_law_881 : decode cL_law 881 = .ok (.invokevirtual 101, 3) := by decide +kernel
theorem dL_law_884 : decode cL_law 884 = .ok (.lcmp, 1) := by decide +kernel
theorem dL_law_885 : decode cL_law 885 = .ok (.ifCond .eq 286, 3) := by decide +kernel
theorem dL_law_888 : decode cL_law 888 = .ok (.iconst 0, 1) := by decide +kernel
theorem dL_law_889 : decode cL_law 889 = .ok (.ireturn, 1) := by decide +kernel
theorem dL_law_890 : decode cL_law 890 = .ok (.aload_n 1, 1) := by decide +kernel
theorem dL_law_891 : decode cL_law 891 = .ok (.aload_n 0, 1) := by decide +kernel
theorem dL_law_892 : decode cL_law 892 = .ok (.iload_n 3, 1) := by decide +kernel
theorem dL_law_893 : decode cL_law 893 = .ok (.iconst 1, 1) := by decide +kernel
theorem dL_law_894 : decode cL_law 894 = .ok (.iadd, 1) := by decide +kernel
theorem dL_law_895 : decode cL_law 895 = .ok (.iaload, 1) := by decide +kernel
theorem dL_law_896 : decode cL_law 896 = .ok (.aload_n 0, 1) := by decide +kernel
theorem dL_law_897 : decode cL_law 897 = .ok (.iload_n 3, 1) := by decide +kernel
theorem dL_law_898 : decode cL_law 898 = .ok (.iconst 2, 1) := by decide +kernel
theorem dL_law_899 : decode cL_law 899 = .ok (.iadd, 1) := by decide +kernel
theorem dL_law_900 : decode cL_law 900 = .ok (.iaload, 1) := by decide +kernel
theorem dL_law_901 : decode cL_law 901 = .ok (.aload_n 0, 1) := by decide +kernel
theorem dL_law_902 : decode cL_law 902 = .ok (.iload_n 3, 1) := by decide +kernel
theorem dL_law_903 : decode cL_law 903 = .ok (.iconst 3, 1) := by decide +kernel
theorem dL_law_904 : decode cL_law 904 = .ok (.iadd, 1) := by decide +kernel
theorem dL_law_905 : decode cL_law 905 = .ok (.iaload, 1) := by decide +kernel
theorem dL_law_906 : decode cL_law 906 = .ok (.invokevirtual 102, 3) := by decide +kernel
theorem dL_law_909 : decode cL_law 909 = .ok (.aload_n 2, 1) := by decide +kernel
theorem dL_law_910 : decode cL_law 910 = .ok (.aload_n 0, 1) := by decide +kernel
theorem dL_law_911 : decode cL_law 911 = .ok (.iload_n 3, 1) := by decide +kernel
theorem dL_law_912 : decode cL_law 912 = .ok (.iconst 1, 1) := by decide +kernel
theorem dL_law_913 : decode cL_law 913 = .ok (.iadd, 1) := by decide +kernel
theorem dL_law_914 : decode cL_law 914 = .ok (.iaload, 1) := by decide +kernel
theorem dL_law_915 : decode cL_law 915 = .ok (.aload_n 0, 1) := by decide +kernel
theorem dL_law_916 : decode cL_law 916 = .ok (.iload_n 3, 1) := by decide +kernel
theorem dL_law_917 : decode cL_law 917 = .ok (.iconst 2, 1) := by decide +kernel
theorem dL_law_918 : decode cL_law 918 = .ok (.iadd, 1) := by decide +kernel
theorem dL_law_919 : decode cL_law 919 = .ok (.iaload, 1) := by decide +kernel
theorem dL_law_920 : decode cL_law 920 = .ok (.aload_n 0, 1) := by decide +kernel
theorem dL_law_921 : decode cL_law 921 = .ok (.iload_n 3, 1) := by decide +kernel
theorem dL_law_922 : decode cL_law 922 = .ok (.iconst 3, 1) := by decide +kernel
theorem dL_law_923 : decode cL_law 923 = .ok (.iadd, 1) := by decide +kernel
theorem dL_law_924 : decode cL_law 924 = .ok (.iaload, 1) := by decide +kernel
theorem dL_law_925 : decode cL_law 925 = .ok (.invokevirtual 105, 3) := by decide +kernel
theorem dL_law_928 : decode cL_law 928 = .ok (.if_icmp .eq 243, 3) := by decide +kernel
theorem dL_law_931 : decode cL_law 931 = .ok (.iconst 0, 1) := by decide +kernel
theorem dL_law_932 : decode cL_law 932 = .ok (.ireturn, 1) := by decide +kernel
theorem dL_law_933 : decode cL_law 933 = .ok (.aload_n 1, 1) := by decide +kernel
theorem dL_law_934 : decode cL_law 934 = .ok (.aload_n 0, 1) := by decide +kernel
theorem dL_law_935 : decode cL_law 935 = .ok (.iload_n 3, 1) := by decide +kernel
theorem dL_law_936 : decode cL_law 936 = .ok (.iconst 1, 1) := by decide +kernel
theorem dL_law_937 : decode cL_law 937 = .ok (.iadd, 1) := by decide +kernel
theorem dL_law_938 : decode cL_law 938 = .ok (.iaload, 1) := by decide +kernel
theorem dL_law_939 : decode cL_law 939 = .ok (.invokevirtual 106, 3) := by decide +kernel
theorem dL_law_942 : decode cL_law 942 = .ok (.aload_n 2, 1) := by decide +kernel
theorem dL_law_943 : decode cL_law 943 = .ok (.aload_n 0, 1) := by decide +kernel
theorem dL_law_944 : decode cL_law 944 = .ok (.iload_n 3, 1) := by decide +kernel
theorem dL_law_945 : decode cL_law 945 = .ok (.iconst 1, 1) := by decide +kernel
theorem dL_law_946 : decode cL_law 946 = .ok (.iadd, 1) := by decide +kernel
theorem dL_law_947 : decode cL_law 947 = .ok (.iaload, 1) := by decide +kernel
theorem dL_law_948 : decode cL_law 948 = .ok (.invokevirtual 109, 3) := by decide +kernel
theorem dL_law_951 : decode cL_law 951 = .ok (.if_icmp .eq 220, 3) := by decide +kernel
theorem dL_law_954 : decode cL_law 954 = .ok (.iconst 0, 1) := by decide +kernel
theorem dL_law_955 : decode cL_law 955 = .ok (.ireturn, 1) := by decide +kernel
theorem dL_law_956 : decode cL_law 956 = .ok (.aload_n 1, 1) := by decide +kernel
theorem dL_law_957 : decode cL_law 957 = .ok (.aload_n 0, 1) := by decide +kernel
theorem dL_law_958 : decode cL_law 958 = .ok (.iload_n 3, 1) := by decide +kernel
theorem dL_law_959 : decode cL_law 959 = .ok (.iconst 1, 1) := by decide +kernel
theorem dL_law_960 : decode cL_law 960 = .ok (.iadd, 1) := by decide +kernel
theorem dL_law_961 : decode cL_law 961 = .ok (.iaload, 1) := by decide +kernel
theorem dL_law_962 : decode cL_law 962 = .ok (.aload_n 0, 1) := by decide +kernel
theorem dL_law_963 : decode cL_law 963 = .ok (.iload_n 3, 1) := by decide +kernel
theorem dL_law_964 : decode cL_law 964 = .ok (.iconst 2, 1) := by decide +kernel
theorem dL_law_965 : decode cL_law 965 = .ok (.iadd, 1) := by decide +kernel
theorem dL_law_966 : decode cL_law 966 = .ok (.iaload, 1) := by decide +kernel
theorem dL_law_967 : decode cL_law 967 = .ok (.aload_n 0, 1) := by decide +kernel
theorem dL_law_968 : decode cL_law 968 = .ok (.iload_n 3, 1) := by decide +kernel
theorem dL_law_969 : decode cL_law 969 = .ok (.iconst 3, 1) := by decide +kernel
theorem dL_law_970 : decode cL_law 970 = .ok (.iadd, 1) := by decide +kernel
theorem dL_law_971 : decode cL_law 971 = .ok (.iaload, 1) := by decide +kernel
theorem dL_law_972 : decode cL_law 972 = .ok (.invokevirtual 110, 3) := by decide +kernel
theorem dL_law_975 : decode cL_law 975 = .ok (.aload_n 2, 1) := by decide +kernel
theorem dL_law_976 : decode cL_law 976 = .ok (.aload_n 0, 1) := by decide +kernel
theorem dL_law_977 : decode cL_law 977 = .ok (.iload_n 3, 1) := by decide +kernel
theorem dL_law_978 : decode cL_law 978 = .ok (.iconst 1, 1) := by decide +kernel
theorem dL_law_979 : decode cL_law 979 = .ok (.iadd, 1) := by decide +kernel
theorem dL_law_980 : decode cL_law 980 = .ok (.iaload, 1) := by decide +kernel
theorem dL_law_981 : decode cL_law 981 = .ok (.aload_n 0, 1) := by decide +kernel
theorem dL_law_982 : decode cL_law 982 = .ok (.iload_n 3, 1) := by decide +kernel
theorem dL_law_983 : decode cL_law 983 = .ok (.iconst 2, 1) := by decide +kernel
theorem dL_law_984 : decode cL_law 984 = .ok (.iadd, 1) := by decide +kernel
theorem dL_law_985 : decode cL_law 985 = .ok (.iaload, 1) := by decide +kernel
theorem dL_law_986 : decode cL_law 986 = .ok (.aload_n 0, 1) := by decide +kernel
theorem dL_law_987 : decode cL_law 987 = .ok (.iload_n 3, 1) := by decide +kernel
theorem dL_law_988 : decode cL_law 988 = .ok (.iconst 3, 1) := by decide +kernel
theorem dL_law_989 : decode cL_law 989 = .ok (.iadd, 1) := by decide +kernel
theorem dL_law_990 : decode cL_law 990 = .ok (.iaload, 1) := by decide +kernel
theorem dL_law_991 : decode cL_law 991 = .ok (.invokevirtual 113, 3) := by decide +kernel
theorem dL_law_994 : decode cL_law 994 = .ok (.if_icmp .eq 177, 3) := by decide +kernel
theorem dL_law_997 : decode cL_law 997 = .ok (.iconst 0, 1) := by decide +kernel
theorem dL_law_998 : decode cL_law 998 = .ok (.ireturn, 1) := by decide +kernel
theorem dL_law_999 : decode cL_law 999 = .ok (.aload_n 1, 1) := by decide +kernel
theorem dL_law_1000 : decode cL_law 1000 = .ok (.aload_n 0, 1) := by decide +kernel
theorem dL_law_1001 : decode cL_law 1001 = .ok (.iload_n 3, 1) := by decide +kernel
theorem dL_law_1002 : decode cL_law 1002 = .ok (.iconst 1, 1) := by decide +kernel
theorem dL_law_1003 : decode cL_law 1003 = .ok (.iadd, 1) := by decide +kernel
theorem dL_law_1004 : decode cL_law 1004 = .ok (.iaload, 1) := by decide +kernel
theorem dL_law_1005 : decode cL_law 1005 = .ok (.aload_n 0, 1) := by decide +kernel
theorem dL_law_1006 : decode cL_law 1006 = .ok (.iload_n 3, 1) := by decide +kernel
theorem dL_law_1007 : decode cL_law 1007 = .ok (.iconst 2, 1) := by decide +kernel
theorem dL_law_1008 : decode cL_law 1008 = .ok (.iadd, 1) := by decide +kernel
theorem dL_law_1009 : decode cL_law 1009 = .ok (.iaload, 1) := by decide +kernel
theorem dL_law_1010 : decode cL_law 1010 = .ok (.aload_n 0, 1) := by decide +kernel
theorem dL_law_1011 : decode cL_law 1011 = .ok (.iload_n 3, 1) := by decide +kernel
theorem dL_law_1012 : decode cL_law 1012 = .ok (.iconst 3, 1) := by decide +kernel
theorem dL_law_1013 : decode cL_law 1013 = .ok (.iadd, 1) := by decide +kernel
theorem dL_law_1014 : decode cL_law 1014 = .ok (.iaload, 1) := by decide +kernel
theorem dL_law_1015 : decode cL_law 1015 = .ok (.invokevirtual 114, 3) := by decide +kernel
theorem dL_law_1018 : decode cL_law 1018 = .ok (.aload_n 2, 1) := by decide +kernel
theorem dL_law_1019 : decode cL_law 1019 = .ok (.aload_n 0, 1) := by decide +kernel
theorem dL_law_1020 : decode cL_law 1020 = .ok (.iload_n 3, 1) := by decide +kernel
theorem dL_law_1021 : decode cL_law 1021 = .ok (.iconst 1, 1) := by decide +kernel
theorem dL_law_1022 : decode cL_law 1022 = .ok (.iadd, 1) := by decide +kernel
theorem dL_law_1023 : decode cL_law 1023 = .ok (.iaload, 1) := by decide +kernel
theorem dL_law_1024 : decode cL_law 1024 = .ok (.aload_n 0, 1) := by decide +kernel
theorem dL_law_1025 : decode cL_law 1025 = .ok (.iload_n 3, 1) := by decide +kernel
theorem dL_law_1026 : decode cL_law 1026 = .ok (.iconst 2, 1) := by decide +kernel
theorem dL_law_1027 : decode cL_law 1027 = .ok (.iadd, 1) := by decide +kernel
theorem dL_law_1028 : decode cL_law 1028 = .ok (.iaload, 1) := by decide +kernel
theorem dL_law_1029 : decode cL_law 1029 = .ok (.aload_n 0, 1) := by decide +kernel
theorem dL_law_1030 : decode cL_law 1030 = .ok (.iload_n 3, 1) := by decide +kernel
theorem dL_law_1031 : decode cL_law 1031 = .ok (.iconst 3, 1) := by decide +kernel
theorem dL_law_1032 : decode cL_law 1032 = .ok (.iadd, 1) := by decide +kernel
theorem dL_law_1033 : decode cL_law 1033 = .ok (.iaload, 1) := by decide +kernel
theorem dL_law_1034 : decode cL_law 1034 = .ok (.invokevirtual 117, 3) := by decide +kernel
theorem dL_law_1037 : decode cL_law 1037 = .ok (.lcmp, 1) := by decide +kernel
theorem dL_law_1038 : decode cL_law 1038 = .ok (.ifCond .eq 133, 3) := by decide +kernel
theorem dL_law_1041 : decode cL_law 1041 = .ok (.iconst 0, 1) := by decide +kernel
theorem dL_law_1042 : decode cL_law 1042 = .ok (.ireturn, 1) := by decide +kernel
theorem dL_law_1043 : decode cL_law 1043 = .ok (.aload_n 1, 1) := by decide +kernel
theorem dL_law_1044 : decode cL_law 1044 = .ok (.aload_n 0, 1) := by decide +kernel
theorem dL_law_1045 : decode cL_law 1045 = .ok (.iload_n 3, 1) := by decide +kernel
theorem dL_law_1046 : decode cL_law 1046 = .ok (.iconst 1, 1) := by decide +kernel
theorem dL_law_1047 : decode cL_law 1047 = .ok (.iadd, 1) := by decide +kernel
theorem dL_law_1048 : decode cL_law 1048 = .ok (.iaload, 1) := by decide +kernel
theorem dL_law_1049 : decode cL_law 1049 = .ok (.invokevirtual 118, 3) := by decide +kernel
theorem dL_law_1052 : decode cL_law 1052 = .ok (.aload_n 2, 1) := by decide +kernel
theorem dL_law_1053 : decode cL_law 1053 = .ok (.aload_n 0, 1) := by decide +kernel
theorem dL_law_1054 : decode cL_law 1054 = .ok (.iload_n 3, 1) := by decide +kernel
theorem dL_law_1055 : decode cL_law 1055 = .ok (.iconst 1, 1) := by decide +kernel
theorem dL_law_1056 : decode cL_law 1056 = .ok (.iadd, 1) := by decide +kernel
theorem dL_law_1057 : decode cL_law 1057 = .ok (.iaload, 1) := by decide +kernel
theorem dL_law_1058 : decode cL_law 1058 = .ok (.invokevirtual 121, 3) := by decide +kernel
theorem dL_law_1061 : decode cL_law 1061 = .ok (.if_icmp .eq 110, 3) := by decide +kernel
theorem dL_law_1064 : decode cL_law 1064 = .ok (.iconst 0, 1) := by decide +kernel
theorem dL_law_1065 : decode cL_law 1065 = .ok (.ireturn, 1) := by decide +kernel
theorem dL_law_1066 : decode cL_law 1066 = .ok (.aload_n 1, 1) := by decide +kernel
theorem dL_law_1067 : decode cL_law 1067 = .ok (.aload_n 0, 1) := by decide +kernel
theorem dL_law_1068 : decode cL_law 1068 = .ok (.iload_n 3, 1) := by decide +kernel
theorem dL_law_1069 : decode cL_law 1069 = .ok (.iconst 1, 1) := by decide +kernel
theorem dL_law_1070 : decode cL_law 1070 = .ok (.iadd, 1) := by decide +kernel
theorem dL_law_1071 : decode cL_law 1071 = .ok (.iaload, 1) := by decide +kernel
theorem dL_law_1072 : decode cL_law 1072 = .ok (.invokevirtual 122, 3) := by decide +kernel
theorem dL_law_1075 : decode cL_law 1075 = .ok (.aload_n 2, 1) := by decide +kernel
theorem dL_law_1076 : decode cL_law 1076 = .ok (.aload_n 0, 1) := by decide +kernel
theorem dL_law_1077 : decode cL_law 1077 = .ok (.iload_n 3, 1) := by decide +kernel
theorem dL_law_1078 : decode cL_law 1078 = .ok (.iconst 1, 1) := by decide +kernel
theorem dL_law_1079 : decode cL_law 1079 = .ok (.iadd, 1) := by decide +kernel
theorem dL_law_1080 : decode cL_law 1080 = .ok (.iaload, 1) := by decide +kernel
theorem dL_law_1081 : decode cL_law 1081 = .ok (.invokevirtual 125, 3) := by decide +kernel
theorem dL_law_1084 : decode cL_law 1084 = .ok (.if_icmp .eq 87, 3) := by decide +kernel
theorem dL_law_1087 : decode cL_law 1087 = .ok (.iconst 0, 1) := by decide +kernel
theorem dL_law_1088 : decode cL_law 1088 = .ok (.ireturn, 1) := by decide +kernel
theorem dL_law_1089 : decode cL_law 1089 = .ok (.aload_n 1, 1) := by decide +kernel
theorem dL_law_1090 : decode cL_law 1090 = .ok (.aload_n 0, 1) := by decide +kernel
theorem dL_law_1091 : decode cL_law 1091 = .ok (.iload_n 3, 1) := by decide +kernel
theorem dL_law_1092 : decode cL_law 1092 = .ok (.iconst 1, 1) := by decide +kernel
theorem dL_law_1093 : decode cL_law 1093 = .ok (.iadd, 1) := by decide +kernel
theorem dL_law_1094 : decode cL_law 1094 = .ok (.iaload, 1) := by decide +kernel
theorem dL_law_1095 : decode cL_law 1095 = .ok (.aload_n 0, 1) := by decide +kernel
theorem dL_law_1096 : decode cL_law 1096 = .ok (.iload_n 3, 1) := by decide +kernel
theorem dL_law_1097 : decode cL_law 1097 = .ok (.iconst 2, 1) := by decide +kernel
theorem dL_law_1098 : decode cL_law 1098 = .ok (.iadd, 1) := by decide +kernel
theorem dL_law_1099 : decode cL_law 1099 = .ok (.iaload, 1) := by decide +kernel
theorem dL_law_1100 : decode cL_law 1100 = .ok (.invokevirtual 126, 3) := by decide +kernel
theorem dL_law_1103 : decode cL_law 1103 = .ok (.aload_n 2, 1) := by decide +kernel
theorem dL_law_1104 : decode cL_law 1104 = .ok (.aload_n 0, 1) := by decide +kernel
theorem dL_law_1105 : decode cL_law 1105 = .ok (.iload_n 3, 1) := by decide +kernel
theorem dL_law_1106 : decode cL_law 1106 = .ok (.iconst 1, 1) := by decide +kernel
theorem dL_law_1107 : decode cL_law 1107 = .ok (.iadd, 1) := by decide +kernel
theorem dL_law_1108 : decode cL_law 1108 = .ok (.iaload, 1) := by decide +kernel
theorem dL_law_1109 : decode cL_law 1109 = .ok (.aload_n 0, 1) := by decide +kernel
theorem dL_law_1110 : decode cL_law 1110 = .ok (.iload_n 3, 1) := by decide +kernel
theorem dL_law_1111 : decode cL_law 1111 = .ok (.iconst 2, 1) := by decide +kernel
end
section
theorem dL_law_1112 : decode cL_law 1112 = .ok (.iadd, 1) := by decide +kernel
theorem dL_law_1113 : decode cL_law 1113 = .ok (.iaload, 1) := by decide +kernel
theorem dL_law_1114 : decode cL_law 1114 = .ok (.invokevirtual 129, 3) := by decide +kernel
theorem dL_law_1117 : decode cL_law 1117 = .ok (.if_icmp .eq 54, 3) := by decide +kernel
theorem dL_law_1120 : decode cL_law 1120 = .ok (.iconst 0, 1) := by decide +kernel
theorem dL_law_1121 : decode cL_law 1121 = .ok (.ireturn, 1) := by decide +kernel
theorem dL_law_1122 : decode cL_law 1122 = .ok (.aload_n 1, 1) := by decide +kernel
theorem dL_law_1123 : decode cL_law 1123 = .ok (.invokevirtual 130, 3) := by decide +kernel
theorem dL_law_1126 : decode cL_law 1126 = .ok (.aload_n 2, 1) := by decide +kernel
theorem dL_law_1127 : decode cL_law 1127 = .ok (.invokevirtual 133, 3) := by decide +kernel
theorem dL_law_1130 : decode cL_law 1130 = .ok (.if_icmp .eq 41, 3) := by decide +kernel
theorem dL_law_1133 : decode cL_law 1133 = .ok (.iconst 0, 1) := by decide +kernel
theorem dL_law_1134 : decode cL_law 1134 = .ok (.ireturn, 1) := by decide +kernel
theorem dL_law_1135 : decode cL_law 1135 = .ok (.aload_n 1, 1) := by decide +kernel
theorem dL_law_1136 : decode cL_law 1136 = .ok (.invokevirtual 134, 3) := by decide +kernel
theorem dL_law_1139 : decode cL_law 1139 = .ok (.aload_n 2, 1) := by decide +kernel
theorem dL_law_1140 : decode cL_law 1140 = .ok (.invokevirtual 137, 3) := by decide +kernel
theorem dL_law_1143 : decode cL_law 1143 = .ok (.if_icmp .eq 28, 3) := by decide +kernel
theorem dL_law_1146 : decode cL_law 1146 = .ok (.iconst 0, 1) := by decide +kernel
theorem dL_law_1147 : decode cL_law 1147 = .ok (.ireturn, 1) := by decide +kernel
theorem dL_law_1148 : decode cL_law 1148 = .ok (.aload_n 1, 1) := by decide +kernel
theorem dL_law_1149 : decode cL_law 1149 = .ok (.aload_n 0, 1) := by decide +kernel
theorem dL_law_1150 : decode cL_law 1150 = .ok (.iload_n 3, 1) := by decide +kernel
theorem dL_law_1151 : decode cL_law 1151 = .ok (.iconst 1, 1) := by decide +kernel
theorem dL_law_1152 : decode cL_law 1152 = .ok (.iadd, 1) := by decide +kernel
theorem dL_law_1153 : decode cL_law 1153 = .ok (.iaload, 1) := by decide +kernel
theorem dL_law_1154 : decode cL_law 1154 = .ok (.invokevirtual 138, 3) := by decide +kernel
theorem dL_law_1157 : decode cL_law 1157 = .ok (.aload_n 2, 1) := by decide +kernel
theorem dL_law_1158 : decode cL_law 1158 = .ok (.aload_n 0, 1) := by decide +kernel
theorem dL_law_1159 : decode cL_law 1159 = .ok (.iload_n 3, 1) := by decide +kernel
theorem dL_law_1160 : decode cL_law 1160 = .ok (.iconst 1, 1) := by decide +kernel
theorem dL_law_1161 : decode cL_law 1161 = .ok (.iadd, 1) := by decide +kernel
theorem dL_law_1162 : decode cL_law 1162 = .ok (.iaload, 1) := by decide +kernel
theorem dL_law_1163 : decode cL_law 1163 = .ok (.invokevirtual 141, 3) := by decide +kernel
theorem dL_law_1166 : decode cL_law 1166 = .ok (.if_icmp .eq 5, 3) := by decide +kernel
theorem dL_law_1169 : decode cL_law 1169 = .ok (.iconst 0, 1) := by decide +kernel
theorem dL_law_1170 : decode cL_law 1170 = .ok (.ireturn, 1) := by decide +kernel
theorem dL_law_1171 : decode cL_law 1171 = .ok (.iinc 3 5, 3) := by decide +kernel
theorem dL_law_1174 : decode cL_law 1174 = .ok (.goto (-1156), 3) := by decide +kernel
theorem dL_law_1177 : decode cL_law 1177 = .ok (.iconst 1, 1) := by decide +kernel
theorem dL_law_1178 : decode cL_law 1178 = .ok (.ireturn, 1) := by decide +kernel
end
section
theorem dX0_init_0 : decode cX0_init 0 = .ok (.aload_n 0, 1) := by decide +kernel
theorem dX0_init_1 : decode cX0_init 1 = .ok (.invokespecial 3, 3) := by decide +kernel
theorem dX0_init_4 : decode cX0_init 4 = .ok (.aload_n 0, 1) := by decide +kernel
theorem dX0_init_5 : decode cX0_init 5 = .ok (.bipush 9, 2) := by decide +kernel
theorem dX0_init_7 : decode cX0_init 7 = .ok (.newarray .long, 2) := by decide +kernel
theorem dX0_init_9 : decode cX0_init 9 = .ok (.putfield 9, 3) := by decide +kernel
theorem dX0_init_12 : decode cX0_init 12 = .ok (.aload_n 0, 1) := by decide +kernel
theorem dX0_init_13 : decode cX0_init 13 = .ok (.bipush 9, 2) := by decide +kernel
theorem dX0_init_15 : decode cX0_init 15 = .ok (.newarray .long, 2) := by decide +kernel
theorem dX0_init_17 : decode cX0_init 17 = .ok (.putfield 15, 3) := by decide +kernel
theorem dX0_init_20 : decode cX0_init 20 = .ok (.aload_n 0, 1) := by decide +kernel
theorem dX0_init_21 : decode cX0_init 21 = .ok (.bipush 9, 2) := by decide +kernel
theorem dX0_init_23 : decode cX0_init 23 = .ok (.newarray .long, 2) := by decide +kernel
theorem dX0_init_25 : decode cX0_init 25 = .ok (.putfield 18, 3) := by decide +kernel
theorem dX0_init_28 : decode cX0_init 28 = .ok (.aload_n 0, 1) := by decide +kernel
theorem dX0_init_29 : decode cX0_init 29 = .ok (.iconst 0, 1) := by decide +kernel
theorem dX0_init_30 : decode cX0_init 30 = .ok (.putfield 21, 3) := by decide +kernel
theorem dX0_init_33 : decode cX0_init 33 = .ok (.aload_n 0, 1) := by decide +kernel
theorem dX0_init_34 : decode cX0_init 34 = .ok (.aload_n 1, 1) := by decide +kernel
theorem dX0_init_35 : decode cX0_init 35 = .ok (.putfield 25, 3) := by decide +kernel
theorem dX0_init_38 : decode cX0_init 38 = .ok (.return_, 1) := by decide +kernel
theorem dX0_forget_0 : decode cX0_forget 0 = .ok (.aload_n 0, 1) := by decide +kernel
theorem dX0_forget_1 : decode cX0_forget 1 = .ok (.iconst 0, 1) := by decide +kernel
theorem dX0_forget_2 : decode cX0_forget 2 = .ok (.putfield 21, 3) := by decide +kernel
theorem dX0_forget_5 : decode cX0_forget 5 = .ok (.return_, 1) := by decide +kernel
theorem dX0_isFound_0 : decode cX0_isFound 0 = .ok (.aload_n 0, 1) := by decide +kernel
theorem dX0_isFound_1 : decode cX0_isFound 1 = .ok (.getfield 21, 3) := by decide +kernel
theorem dX0_isFound_4 : decode cX0_isFound 4 = .ok (.iconst 1, 1) := by decide +kernel
theorem dX0_isFound_5 : decode cX0_isFound 5 = .ok (.if_icmp .ne 7, 3) := by decide +kernel
theorem dX0_isFound_8 : decode cX0_isFound 8 = .ok (.iconst 1, 1) := by decide +kernel
theorem dX0_isFound_9 : decode cX0_isFound 9 = .ok (.goto 4, 3) := by decide +kernel
theorem dX0_isFound_12 : decode cX0_isFound 12 = .ok (.iconst 0, 1) := by decide +kernel
theorem dX0_isFound_13 : decode cX0_isFound 13 = .ok (.ireturn, 1) := by decide +kernel
theorem dX0_has_0 : decode cX0_has 0 = .ok (.aload_n 0, 1) := by decide +kernel
theorem dX0_has_1 : decode cX0_has 1 = .ok (.invokevirtual 29, 3) := by decide +kernel
theorem dX0_has_4 : decode cX0_has 4 = .ok (.ifCond .eq 19, 3) := by decide +kernel
theorem dX0_has_7 : decode cX0_has 7 = .ok (.iload_n 1, 1) := by decide +kernel
theorem dX0_has_8 : decode cX0_has 8 = .ok (.ifCond .lt 15, 3) := by decide +kernel
theorem dX0_has_11 : decode cX0_has 11 = .ok (.iload_n 1, 1) := by decide +kernel
theorem dX0_has_12 : decode cX0_has 12 = .ok (.aload_n 0, 1) := by decide +kernel
theorem dX0_has_13 : decode cX0_has 13 = .ok (.getfield 33, 3) := by decide +kernel
theorem dX0_has_16 : decode cX0_has 16 = .ok (.if_icmp .ge 7, 3) := by decide +kernel
theorem dX0_has_19 : decode cX0_has 19 = .ok (.iconst 1, 1) := by decide +kernel
theorem dX0_has_20 : decode cX0_has 20 = .ok (.goto 4, 3) := by decide +kernel
theorem dX0_has_23 : decode cX0_has 23 = .ok (.iconst 0, 1) := by decide +kernel
theorem dX0_has_24 : decode cX0_has 24 = .ok (.ireturn, 1) := by decide +kernel
theorem dX0_search_0 : decode cX0_search 0 = .ok (.aload_n 0, 1) := by decide +kernel
theorem dX0_search_1 : decode cX0_search 1 = .ok (.getfield 21, 3) := by decide +kernel
theorem dX0_search_4 : decode cX0_search 4 = .ok (.ifCond .ne 19, 3) := by decide +kernel
theorem dX0_search_7 : decode cX0_search 7 = .ok (.aload_n 0, 1) := by decide +kernel
theorem dX0_search_8 : decode cX0_search 8 = .ok (.aload_n 0, 1) := by decide +kernel
theorem dX0_search_9 : decode cX0_search 9 = .ok (.invokevirtual 36, 3) := by decide +kernel
theorem dX0_search_12 : decode cX0_search 12 = .ok (.ifCond .eq 7, 3) := by decide +kernel
theorem dX0_search_15 : decode cX0_search 15 = .ok (.iconst 1, 1) := by decide +kernel
theorem dX0_search_16 : decode cX0_search 16 = .ok (.goto 4, 3) := by decide +kernel
theorem dX0_search_19 : decode cX0_search 19 = .ok (.iconst 2, 1) := by decide +kernel
theorem dX0_search_20 : decode cX0_search 20 = .ok (.putfield 21, 3) := by decide +kernel
theorem dX0_search_23 : decode cX0_search 23 = .ok (.aload_n 0, 1) := by decide +kernel
theorem dX0_search_24 : decode cX0_search 24 = .ok (.getfield 21, 3) := by decide +kernel
theorem dX0_search_27 : decode cX0_search 27 = .ok (.iconst 1, 1) := by decide +kernel
theorem dX0_search_28 : decode cX0_search 28 = .ok (.if_icmp .ne 10, 3) := by decide +kernel
theorem dX0_search_31 : decode cX0_search 31 = .ok (.aload_n 0, 1) := by decide +kernel
theorem dX0_search_32 : decode cX0_search 32 = .ok (.getfield 33, 3) := by decide +kernel
theorem dX0_search_35 : decode cX0_search 35 = .ok (.goto 5, 3) := by decide +kernel
theorem dX0_search_38 : decode cX0_search 38 = .ok (.bipush (-6), 2) := by decide +kernel
theorem dX0_search_40 : decode cX0_search 40 = .ok (.ireturn, 1) := by decide +kernel
theorem dX0_entryAt_0 : decode cX0_entryAt 0 = .ok (.aload_n 0, 1) := by decide +kernel
theorem dX0_entryAt_1 : decode cX0_entryAt 1 = .ok (.getfield 39, 3) := by decide +kernel
theorem dX0_entryAt_4 : decode cX0_entryAt 4 = .ok (.iload_n 1, 1) := by decide +kernel
theorem dX0_entryAt_5 : decode cX0_entryAt 5 = .ok (.bipush 9, 2) := by decide +kernel
theorem dX0_entryAt_7 : decode cX0_entryAt 7 = .ok (.imul, 1) := by decide +kernel
theorem dX0_entryAt_8 : decode cX0_entryAt 8 = .ok (.iload_n 2, 1) := by decide +kernel
theorem dX0_entryAt_9 : decode cX0_entryAt 9 = .ok (.iadd, 1) := by decide +kernel
theorem dX0_entryAt_10 : decode cX0_entryAt 10 = .ok (.laload, 1) := by decide +kernel
theorem dX0_entryAt_11 : decode cX0_entryAt 11 = .ok (.lreturn, 1) := by decide +kernel
theorem dX0_lastWordLength_0 : decode cX0_lastWordLength 0 = .ok (.aload_n 0, 1) := by decide +kernel
theorem dX0_lastWordLength_1 : decode cX0_lastWordLength 1 = .ok (.getfield 33, 3) := by decide +kernel
theorem dX0_lastWordLength_4 : decode cX0_lastWordLength 4 = .ok (.ifCond .le 17, 3) := by decide +kernel
theorem dX0_lastWordLength_7 : decode cX0_lastWordLength 7 = .ok (.aload_n 0, 1) := by decide +kernel
theorem dX0_lastWordLength_8 : decode cX0_lastWordLength 8 = .ok (.getfield 42, 3) := by decide +kernel
theorem dX0_lastWordLength_11 : decode cX0_lastWordLength 11 = .ok (.aload_n 0, 1) := by decide +kernel
theorem dX0_lastWordLength_12 : decode cX0_lastWordLength 12 = .ok (.getfield 33, 3) := by decide +kernel
theorem dX0_lastWordLength_15 : decode cX0_lastWordLength 15 = .ok (.iconst 1, 1) := by decide +kernel
theorem dX0_lastWordLength_16 : decode cX0_lastWordLength 16 = .ok (.isub, 1) := by decide +kernel
theorem dX0_lastWordLength_17 : decode cX0_lastWordLength 17 = .ok (.iaload, 1) := by decide +kernel
theorem dX0_lastWordLength_18 : decode cX0_lastWordLength 18 = .ok (.goto 4, 3) := by decide +kernel
theorem dX0_lastWordLength_21 : decode cX0_lastWordLength 21 = .ok (.iconst 0, 1) := by decide +kernel
theorem dX0_lastWordLength_22 : decode cX0_lastWordLength 22 = .ok (.ireturn, 1) := by decide +kernel
theorem dX0_numberOfProduct_0 : decode cX0_numberOfProduct 0 = .ok (.aload_n 0, 1) := by decide +kernel
theorem dX0_numberOfProduct_1 : decode cX0_numberOfProduct 1 = .ok (.iload_n 1, 1) := by decide +kernel
theorem dX0_numberOfProduct_2 : decode cX0_numberOfProduct 2 = .ok (.iload_n 2, 1) := by decide +kernel
theorem dX0_numberOfProduct_3 : decode cX0_numberOfProduct 3 = .ok (.invokevirtual 46, 3) := by decide +kernel
theorem dX0_numberOfProduct_6 : decode cX0_numberOfProduct 6 = .ok (.aload_n 0, 1) := by decide +kernel
theorem dX0_numberOfProduct_7 : decode cX0_numberOfProduct 7 = .ok (.aload_n 0, 1) := by decide +kernel
theorem dX0_numberOfProduct_8 : decode cX0_numberOfProduct 8 = .ok (.getfield 18, 3) := by decide +kernel
theorem dX0_numberOfProduct_11 : decode cX0_numberOfProduct 11 = .ok (.invokevirtual 50, 3) := by decide +kernel
theorem dX0_numberOfProduct_14 : decode cX0_numberOfProduct 14 = .ok (.istore_n 3, 1) := by decide +kernel
theorem dX0_numberOfProduct_15 : decode cX0_numberOfProduct 15 = .ok (.aload_n 0, 1) := by decide +kernel
theorem dX0_numberOfProduct_16 : decode cX0_numberOfProduct 16 = .ok (.getfield 54, 3) := by decide +kernel
theorem dX0_numberOfProduct_19 : decode cX0_numberOfProduct 19 = .ok (.iload_n 3, 1) := by decide +kernel
theorem dX0_numberOfProduct_20 : decode cX0_numberOfProduct 20 = .ok (.iaload, 1) := by decide +kernel
theorem dX0_numberOfProduct_21 : decode cX0_numberOfProduct 21 = .ok (.ifCond .ne 7, 3) := by decide +kernel
theorem dX0_numberOfProduct_24 : decode cX0_numberOfProduct 24 = .ok (.iconst (-1), 1) := by decide +kernel
theorem dX0_numberOfProduct_25 : decode cX0_numberOfProduct 25 = .ok (.goto 11, 3) := by decide +kernel
theorem dX0_numberOfProduct_28 : decode cX0_numberOfProduct 28 = .ok (.aload_n 0, 1) := by decide +kernel
theorem dX0_numberOfProduct_29 : decode cX0_numberOfProduct 29 = .ok (.getfield 54, 3) := by decide +kernel
theorem dX0_numberOfProduct_32 : decode cX0_numberOfProduct 32 = .ok (.iload_n 3, 1) := by decide +kernel
theorem dX0_numberOfProduct_33 : decode cX0_numberOfProduct 33 = .ok (.iaload, 1) := by decide +kernel
theorem dX0_numberOfProduct_34 : decode cX0_numberOfProduct 34 = .ok (.iconst 1, 1) := by decide +kernel
theorem dX0_numberOfProduct_35 : decode cX0_numberOfProduct 35 = .ok (.isub, 1) := by decide +kernel
theorem dX0_numberOfProduct_36 : decode cX0_numberOfProduct 36 = .ok (.ireturn, 1) := by decide +kernel
theorem dX0_findAll_0 : decode cX0_findAll 0 = .ok (.aload_n 0, 1) := by decide +kernel
theorem dX0_findAll_1 : decode cX0_findAll 1 = .ok (.invokevirtual 57, 3) := by decide +kernel
theorem dX0_findAll_4 : decode cX0_findAll 4 = .ok (.iconst 0, 1) := by decide +kernel
theorem dX0_findAll_5 : decode cX0_findAll 5 = .ok (.istore_n 1, 1) := by decide +kernel
theorem dX0_findAll_6 : decode cX0_findAll 6 = .ok (.iload_n 1, 1) := by decide +kernel
theorem dX0_findAll_7 : decode cX0_findAll 7 = .ok (.aload_n 0, 1) := by decide +kernel
theorem dX0_findAll_8 : decode cX0_findAll 8 = .ok (.getfield 25, 3) := by decide +kernel
theorem dX0_findAll_11 : decode cX0_findAll 11 = .ok (.invokevirtual 60, 3) := by decide +kernel
theorem dX0_findAll_14 : decode cX0_findAll 14 = .ok (.if_icmp .ge 27, 3) := by decide +kernel
theorem dX0_findAll_17 : decode cX0_findAll 17 = .ok (.aload_n 0, 1) := by decide +kernel
theorem dX0_findAll_18 : decode cX0_findAll 18 = .ok (.aload_n 0, 1) := by decide +kernel
theorem dX0_findAll_19 : decode cX0_findAll 19 = .ok (.getfield 25, 3) := by decide +kernel
theorem dX0_findAll_22 : decode cX0_findAll 22 = .ok (.iload_n 1, 1) := by decide +kernel
theorem dX0_findAll_23 : decode cX0_findAll 23 = .ok (.invokevirtual 65, 3) := by decide +kernel
theorem dX0_findAll_26 : decode cX0_findAll 26 = .ok (.iconst 1, 1) := by decide +kernel
theorem dX0_findAll_27 : decode cX0_findAll 27 = .ok (.invokevirtual 69, 3) := by decide +kernel
theorem dX0_findAll_30 : decode cX0_findAll 30 = .ok (.ifCond .ne 5, 3) := by decide +kernel
theorem dX0_findAll_33 : decode cX0_findAll 33 = .ok (.iconst 0, 1) := by decide +kernel
theorem dX0_findAll_34 : decode cX0_findAll 34 = .ok (.ireturn, 1) := by decide +kernel
theorem dX0_findAll_35 : decode cX0_findAll 35 = .ok (.iinc 1 1, 3) := by decide +kernel
theorem dX0_findAll_38 : decode cX0_findAll 38 = .ok (.goto (-32), 3) := by decide +kernel
theorem dX0_findAll_41 : decode cX0_findAll 41 = .ok (.iconst 0, 1) := by decide +kernel
theorem dX0_findAll_42 : decode cX0_findAll 42 = .ok (.istore_n 1, 1) := by decide +kernel
theorem dX0_findAll_43 : decode cX0_findAll 43 = .ok (.iload_n 1, 1) := by decide +kernel
theorem dX0_findAll_44 : decode cX0_findAll 44 = .ok (.aload_n 0, 1) := by decide +kernel
theorem dX0_findAll_45 : decode cX0_findAll 45 = .ok (.getfield 33, 3) := by decide +kernel
theorem dX0_findAll_48 : decode cX0_findAll 48 = .ok (.if_icmp .ge 26, 3) := by decide +kernel
theorem dX0_findAll_51 : decode cX0_findAll 51 = .ok (.iload_n 1, 1) := by decide +kernel
theorem dX0_findAll_52 : decode cX0_findAll 52 = .ok (.sipush 2000, 3) := by decide +kernel
theorem dX0_findAll_55 : decode cX0_findAll 55 = .ok (.if_icmp .ge 19, 3) := by decide +kernel
theorem dX0_findAll_58 : decode cX0_findAll 58 = .ok (.aload_n 0, 1) := by decide +kernel
theorem dX0_findAll_59 : decode cX0_findAll 59 = .ok (.iload_n 1, 1) := by decide +kernel
theorem dX0_findAll_60 : decode cX0_findAll 60 = .ok (.invokevirtual 73, 3) := by decide +kernel
theorem dX0_findAll_63 : decode cX0_findAll 63 = .ok (.ifCond .ne 5, 3) := by decide +kernel
theorem dX0_findAll_66 : decode cX0_findAll 66 = .ok (.iconst 0, 1) := by decide +kernel
theorem dX0_findAll_67 : decode cX0_findAll 67 = .ok (.ireturn, 1) := by decide +kernel
theorem dX0_findAll_68 : decode cX0_findAll 68 = .ok (.iinc 1 1, 3) := by decide +kernel
theorem dX0_findAll_71 : decode cX0_findAll 71 = .ok (.goto (-28), 3) := by decide +kernel
theorem dX0_findAll_74 : decode cX0_findAll 74 = .ok (.aload_n 0, 1) := by decide +kernel
theorem dX0_findAll_75 : decode cX0_findAll 75 = .ok (.invokevirtual 77, 3) := by decide +kernel
theorem dX0_findAll_78 : decode cX0_findAll 78 = .ok (.iconst 1, 1) := by decide +kernel
theorem dX0_findAll_79 : decode cX0_findAll 79 = .ok (.ireturn, 1) := by decide +kernel
theorem dX0_prepareRows_0 : decode cX0_prepareRows 0 = .ok (.aload_n 0, 1) := by decide +kernel
theorem dX0_prepareRows_1 : decode cX0_prepareRows 1 = .ok (.getfield 39, 3) := by decide +kernel
theorem dX0_prepareRows_4 : decode cX0_prepareRows 4 = .ok (.ifnull 17, 3) := by decide +kernel
theorem dX0_prepareRows_7 : decode cX0_prepareRows 7 = .ok (.aload_n 0, 1) := by decide +kernel
theorem dX0_prepareRows_8 : decode cX0_prepareRows 8 = .ok (.getfield 42, 3) := by decide +kernel
theorem dX0_prepareRows_11 : decode cX0_prepareRows 11 = .ok (.ifnull 10, 3) := by decide +kernel
theorem dX0_prepareRows_14 : decode cX0_prepareRows 14 = .ok (.aload_n 0, 1) := by decide +kernel
theorem dX0_prepareRows_15 : decode cX0_prepareRows 15 = .ok (.getfield 54, 3) := by decide +kernel
theorem dX0_prepareRows_18 : decode cX0_prepareRows 18 = .ok (.ifnonnull 30, 3) := by decide +kernel
theorem dX0_prepareRows_21 : decode cX0_prepareRows 21 = .ok (.aload_n 0, 1) := by decide +kernel
theorem dX0_prepareRows_22 : decode cX0_prepareRows 22 = .ok (.sipush 18000, 3) := by decide +kernel
theorem dX0_prepareRows_25 : decode cX0_prepareRows 25 = .ok (.newarray .long, 2) := by decide +kernel
theorem dX0_prepareRows_27 : decode cX0_prepareRows 27 = .ok (.putfield 39, 3) := by decide +kernel
theorem dX0_prepareRows_30 : decode cX0_prepareRows 30 = .ok (.aload_n 0, 1) := by decide +kernel
theorem dX0_prepareRows_31 : decode cX0_prepareRows 31 = .ok (.sipush 2000, 3) := by decide +kernel
theorem dX0_prepareRows_34 : decode cX0_prepareRows 34 = .ok (.newarray .int, 2) := by decide +kernel
theorem dX0_prepareRows_36 : decode cX0_prepareRows 36 = .ok (.putfield 42, 3) := by decide +kernel
theorem dX0_prepareRows_39 : decode cX0_prepareRows 39 = .ok (.aload_n 0, 1) := by decide +kernel
theorem dX0_prepareRows_40 : decode cX0_prepareRows 40 = .ok (.sipush 4096, 3) := by decide +kernel
theorem dX0_prepareRows_43 : decode cX0_prepareRows 43 = .ok (.newarray .int, 2) := by decide +kernel
theorem dX0_prepareRows_45 : decode cX0_prepareRows 45 = .ok (.putfield 54, 3) := by decide +kernel
theorem dX0_prepareRows_48 : decode cX0_prepareRows 48 = .ok (.aload_n 0, 1) := by decide +kernel
theorem dX0_prepareRows_49 : decode cX0_prepareRows 49 = .ok (.getfield 54, 3) := by decide +kernel
theorem dX0_prepareRows_52 : decode cX0_prepareRows 52 = .ok (.iconst 0, 1) := by decide +kernel
theorem dX0_prepareRows_53 : decode cX0_prepareRows 53 = .ok (.invokestatic 80, 3) := by decide +kernel
theorem dX0_prepareRows_56 : decode cX0_prepareRows 56 = .ok (.aload_n 0, 1) := by decide +kernel
theorem dX0_prepareRows_57 : decode cX0_prepareRows 57 = .ok (.aload_n 0, 1) := by decide +kernel
theorem dX0_prepareRows_58 : decode cX0_prepareRows 58 = .ok (.getfield 25, 3) := by decide +kernel
theorem dX0_prepareRows_61 : decode cX0_prepareRows 61 = .ok (.invokevirtual 86, 3) := by decide +kernel
theorem dX0_prepareRows_64 : decode cX0_prepareRows 64 = .ok (.putfield 89, 3) := by decide +kernel
theorem dX0_prepareRows_67 : decode cX0_prepareRows 67 = .ok (.aload_n 0, 1) := by decide +kernel
theorem dX0_prepareRows_68 : decode cX0_prepareRows 68 = .ok (.iconst 0, 1) := by decide +kernel
theorem dX0_prepareRows_69 : decode cX0_prepareRows 69 = .ok (.putfield 33, 3) := by decide +kernel
theorem dX0_prepareRows_72 : decode cX0_prepareRows 72 = .ok (.return_, 1) := by decide +kernel
theorem dX0_extendByLetters_0 : decode cX0_extendByLetters 0 = .ok (.aload_n 0, 1) := by decide +kernel
theorem dX0_extendByLetters_1 : decode cX0_extendByLetters 1 = .ok (.iload_n 1, 1) := by decide +kernel
theorem dX0_extendByLetters_2 : decode cX0_extendByLetters 2 = .ok (.aload_n 0, 1) := by decide +kernel
theorem dX0_extendByLetters_3 : decode cX0_extendByLetters 3 = .ok (.getfield 9, 3) := by decide +kernel
theorem dX0_extendByLetters_6 : decode cX0_extendByLetters 6 = .ok (.invokevirtual 91, 3) := by decide +kernel
theorem dX0_extendByLetters_9 : decode cX0_extendByLetters 9 = .ok (.iconst 0, 1) := by decide +kernel
theorem dX0_extendByLetters_10 : decode cX0_extendByLetters 10 = .ok (.istore_n 2, 1) := by decide +kernel
theorem dX0_extendByLetters_11 : decode cX0_extendByLetters 11 = .ok (.iload_n 2, 1) := by decide +kernel
theorem dX0_extendByLetters_12 : decode cX0_extendByLetters 12 = .ok (.aload_n 0, 1) := by decide +kernel
theorem dX0_extendByLetters_13 : decode cX0_extendByLetters 13 = .ok (.getfield 25, 3) := by decide +kernel
theorem dX0_extendByLetters_16 : decode cX0_extendByLetters 16 = .ok (.invokevirtual 60, 3) := by decide +kernel
theorem dX0_extendByLetters_19 : decode cX0_extendByLetters 19 = .ok (.if_icmp .ge 53, 3) := by decide +kernel
theorem dX0_extendByLetters_22 : decode cX0_extendByLetters 22 = .ok (.aload_n 0, 1) := by decide +kernel
theorem dX0_extendByLetters_23 : decode cX0_extendByLetters 23 = .ok (.getfield 25, 3) := by decide +kernel
theorem dX0_extendByLetters_26 : decode cX0_extendByLetters 26 = .ok (.aload_n 0, 1) := by decide +kernel
theorem dX0_extendByLetters_27 : decode cX0_extendByLetters 27 = .ok (.getfield 9, 3) := by decide +kernel
theorem dX0_extendByLetters_30 : decode cX0_extendByLetters 30 = .ok (.aload_n 0, 1) := by decide +kernel
theorem dX0_extendByLetters_31 : decode cX0_extendByLetters 31 = .ok (.getfield 25, 3) := by decide +kernel
theorem dX0_extendByLetters_34 : decode cX0_extendByLetters 34 = .ok (.iload_n 2, 1) := by decide +kernel
theorem dX0_extendByLetters_35 : decode cX0_extendByLetters 35 = .ok (.invokevirtual 65, 3) := by decide +kernel
theorem dX0_extendByLetters_38 : decode cX0_extendByLetters 38 = .ok (.aload_n 0, 1) := by decide +kernel
theorem dX0_extendByLetters_39 : decode cX0_extendByLetters 39 = .ok (.getfield 18, 3) := by decide +kernel
theorem dX0_extendByLetters_42 : decode cX0_extendByLetters 42 = .ok (.invokevirtual 95, 3) := by decide +kernel
theorem dX0_extendByLetters_45 : decode cX0_extendByLetters 45 = .ok (.aload_n 0, 1) := by decide +kernel
theorem dX0_extendByLetters_46 : decode cX0_extendByLetters 46 = .ok (.aload_n 0, 1) := by decide +kernel
theorem dX0_extendByLetters_47 : decode cX0_extendByLetters 47 = .ok (.getfield 18, 3) := by decide +kernel
theorem dX0_extendByLetters_50 : decode cX0_extendByLetters 50 = .ok (.aload_n 0, 1) := by decide +kernel
theorem dX0_extendByLetters_51 : decode cX0_extendByLetters 51 = .ok (.getfield 42, 3) := by decide +kernel
theorem dX0_extendByLetters_54 : decode cX0_extendByLetters 54 = .ok (.iload_n 1, 1) := by decide +kernel
theorem dX0_extendByLetters_55 : decode cX0_extendByLetters 55 = .ok (.iaload, 1) := by decide +kernel
theorem dX0_extendByLetters_56 : decode cX0_extendByLetters 56 = .ok (.iconst 1, 1) := by decide +kernel
theorem dX0_extendByLetters_57 : decode cX0_extendByLetters 57 = .ok (.iadd, 1) := by decide +kernel
theorem dX0_extendByLetters_58 : decode cX0_extendByLetters 58 = .ok (.invokevirtual 69, 3) := by decide +kernel
theorem dX0_extendByLetters_61 : decode cX0_extendByLetters 61 = .ok (.ifCond .ne 5, 3) := by decide +kernel
theorem dX0_extendByLetters_64 : decode cX0_extendByLetters 64 = .ok (.iconst 0, 1) := by decide +kernel
theorem dX0_extendByLetters_65 : decode cX0_extendByLetters 65 = .ok (.ireturn, 1) := by decide +kernel
theorem dX0_extendByLetters_66 : decode cX0_extendByLetters 66 = .ok (.iinc 2 1, 3) := by decide +kernel
theorem dX0_extendByLetters_69 : decode cX0_extendByLetters 69 = .ok (.goto (-58), 3) := by decide +kernel
theorem dX0_extendByLetters_72 : decode cX0_extendByLetters 72 = .ok (.iconst 1, 1) := by decide +kernel
theorem dX0_extendByLetters_73 : decode cX0_extendByLetters 73 = .ok (.ireturn, 1) := by decide +kernel
theorem dX0_take_0 : decode cX0_take 0 = .ok (.aload_n 0, 1) := by decide +kernel
theorem dX0_take_1 : decode cX0_take 1 = .ok (.aload_n 1, 1) := by decide +kernel
theorem dX0_take_2 : decode cX0_take 2 = .ok (.invokevirtual 99, 3) := by decide +kernel
theorem dX0_take_5 : decode cX0_take 5 = .ok (.ifCond .eq 5, 3) := by decide +kernel
theorem dX0_take_8 : decode cX0_take 8 = .ok (.iconst 0, 1) := by decide +kernel
theorem dX0_take_9 : decode cX0_take 9 = .ok (.ireturn, 1) := by decide +kernel
theorem dX0_take_10 : decode cX0_take 10 = .ok (.aload_n 0, 1) := by decide +kernel
theorem dX0_take_11 : decode cX0_take 11 = .ok (.aload_n 1, 1) := by decide +kernel
theorem dX0_take_12 : decode cX0_take 12 = .ok (.invokevirtual 50, 3) := by decide +kernel
theorem dX0_take_15 : decode cX0_take 15 = .ok (.istore_n 3, 1) := by decide +kernel
theorem dX0_take_16 : decode cX0_take 16 = .ok (.aload_n 0, 1) := by decide +kernel
theorem dX0_take_17 : decode cX0_take 17 = .ok (.getfield 54, 3) := by decide +kernel
theorem dX0_take_20 : decode cX0_take 20 = .ok (.iload_n 3, 1) := by decide +kernel
theorem dX0_take_21 : decode cX0_take 21 = .ok (.iaload, 1) := by decide +kernel
theorem dX0_take_22 : decode cX0_take 22 = .ok (.ifCond .eq 5, 3) := by decide +kernel
theorem dX0_take_25 : decode cX0_take 25 = .ok (.iconst 1, 1) := by decide +kernel
theorem dX0_take_26 : decode cX0_take 26 = .ok (.ireturn, 1) := by decide +kernel
theorem dX0_take_27 : decode cX0_take 27 = .ok (.aload_n 0, 1) := by decide +kernel
theorem dX0_take_28 : decode cX0_take 28 = .ok (.getfield 33, 3) := by decide +kernel
theorem dX0_take_31 : decode cX0_take 31 = .ok (.sipush 2000, 3) := by decide +kernel
theorem dX0_take_34 : decode cX0_take 34 = .ok (.if_icmp .lt 5, 3) := by decide +kernel
theorem dX0_take_37 : decode cX0_take 37 = .ok (.iconst 0, 1) := by decide +kernel
theorem dX0_take_38 : decode cX0_take 38 = .ok (.ireturn, 1) := by decide +kernel
theorem dX0_take_39 : decode cX0_take 39 = .ok (.aload_n 1, 1) := by decide +kernel
theorem dX0_take_40 : decode cX0_take 40 = .ok (.iconst 0, 1) := by decide +kernel
theorem dX0_take_41 : decode cX0_take 41 = .ok (.aload_n 0, 1) := by decide +kernel
theorem dX0_take_42 : decode cX0_take 42 = .ok (.getfield 39, 3) := by decide +kernel
theorem dX0_take_45 : decode cX0_take 45 = .ok (.aload_n 0, 1) := by decide +kernel
theorem dX0_take_46 : decode cX0_take 46 = .ok (.getfield 33, 3) := by decide +kernel
theorem dX0_take_49 : decode cX0_take 49 = .ok (.bipush 9, 2) := by decide +kernel
theorem dX0_take_51 : decode cX0_take 51 = .ok (.imul, 1) := by decide +kernel
theorem dX0_take_52 : decode cX0_take 52 = .ok (.aload_n 0, 1) := by decide +kernel
theorem dX0_take_53 : decode cX0_take 53 = .ok (.getfield 89, 3) := by decide +kernel
theorem dX0_take_56 : decode cX0_take 56 = .ok (.invokestatic 103, 3) := by decide +kernel
theorem dX0_take_59 : decode cX0_take 59 = .ok (.aload_n 0, 1) := by decide +kernel
theorem dX0_take_60 : decode cX0_take 60 = .ok (.getfield 42, 3) := by decide +kernel
theorem dX0_take_63 : decode cX0_take 63 = .ok (.aload_n 0, 1) := by decide +kernel
theorem dX0_take_64 : decode cX0_take 64 = .ok (.getfield 33, 3) := by decide +kernel
theorem dX0_take_67 : decode cX0_take 67 = .ok (.iload_n 2, 1) := by decide +kernel
theorem dX0_take_68 : decode cX0_take 68 = .ok (.iastore, 1) := by decide +kernel
theorem dX0_take_69 : decode cX0_take 69 = .ok (.aload_n 0, 1) := by decide +kernel
theorem dX0_take_70 : decode cX0_take 70 = .ok (.dup, 1) := by decide +kernel
theorem dX0_take_71 : decode cX0_take 71 = .ok (.getfield 33, 3) := by decide +kernel
theorem dX0_take_74 : decode cX0_take 74 = .ok (.iconst 1, 1) := by decide +kernel
theorem dX0_take_75 : decode cX0_take 75 = .ok (.iadd, 1) := by decide +kernel
theorem dX0_take_76 : decode cX0_take 76 = .ok (.putfield 33, 3) := by decide +kernel
theorem dX0_take_79 : decode cX0_take 79 = .ok (.aload_n 0, 1) := by decide +kernel
theorem dX0_take_80 : decode cX0_take 80 = .ok (.getfield 54, 3) := by decide +kernel
theorem dX0_take_83 : decode cX0_take 83 = .ok (.iload_n 3, 1) := by decide +kernel
theorem dX0_take_84 : decode cX0_take 84 = .ok (.aload_n 0, 1) := by decide +kernel
theorem dX0_take_85 : decode cX0_take 85 = .ok (.getfield 33, 3) := by decide +kernel
theorem dX0_take_88 : decode cX0_take 88 = .ok (.iastore, 1) := by decide +kernel
theorem dX0_take_89 : decode cX0_take 89 = .ok (.iconst 1, 1) := by decide +kernel
theorem dX0_take_90 : decode cX0_take 90 = .ok (.ireturn, 1) := by decide +kernel
theorem dX0_isBeyond_0 : decode cX0_isBeyond 0 = .ok (.iconst 0, 1) := by decide +kernel
theorem dX0_isBeyond_1 : decode cX0_isBeyond 1 = .ok (.istore_n 2, 1) := by decide +kernel
theorem dX0_isBeyond_2 : decode cX0_isBeyond 2 = .ok (.iload_n 2, 1) := by decide +kernel
theorem dX0_isBeyond_3 : decode cX0_isBeyond 3 = .ok (.aload_n 0, 1) := by decide +kernel
theorem dX0_isBeyond_4 : decode cX0_isBeyond 4 = .ok (.getfield 89, 3) := by decide +kernel
theorem dX0_isBeyond_7 : decode cX0_isBeyond 7 = .ok (.if_icmp .ge 24, 3) := by decide +kernel
theorem dX0_isBeyond_10 : decode cX0_isBeyond 10 = .ok (.aload_n 1, 1) := by decide +kernel
theorem dX0_isBeyond_11 : decode cX0_isBeyond 11 = .ok (.iload_n 2, 1) := by decide +kernel
theorem dX0_isBeyond_12 : decode cX0_isBeyond 12 = .ok (.laload, 1) := by decide +kernel
theorem dX0_isBeyond_13 : decode cX0_isBeyond 13 = .ok (.invokestatic 109, 3) := by decide +kernel
theorem dX0_isBeyond_16 : decode cX0_isBeyond 16 = .ok (.ldc2_w 115, 3) := by decide +kernel
theorem dX0_isBeyond_19 : decode cX0_isBeyond 19 = .ok (.lcmp, 1) := by decide +kernel
theorem dX0_isBeyond_20 : decode cX0_isBeyond 20 = .ok (.ifCond .le 5, 3) := by decide +kernel
theorem dX0_isBeyond_23 : decode cX0_isBeyond 23 = .ok (.iconst 1, 1) := by decide +kernel
theorem dX0_isBeyond_24 : decode cX0_isBeyond 24 = .ok (.ireturn, 1) := by decide +kernel
theorem dX0_isBeyond_25 : decode cX0_isBeyond 25 = .ok (.iinc 2 1, 3) := by decide +kernel
theorem dX0_isBeyond_28 : decode cX0_isBeyond 28 = .ok (.goto (-26), 3) := by decide +kernel
theorem dX0_isBeyond_31 : decode cX0_isBeyond 31 = .ok (.iconst 0, 1) := by decide +kernel
theorem dX0_isBeyond_32 : decode cX0_isBeyond 32 = .ok (.ireturn, 1) := by decide +kernel
theorem dX0_slotOf_0 : decode cX0_slotOf 0 = .ok (.aload_n 0, 1) := by decide +kernel
theorem dX0_slotOf_1 : decode cX0_slotOf 1 = .ok (.aload_n 1, 1) := by decide +kernel
theorem dX0_slotOf_2 : decode cX0_slotOf 2 = .ok (.invokevirtual 117, 3) := by decide +kernel
theorem dX0_slotOf_5 : decode cX0_slotOf 5 = .ok (.istore_n 2, 1) := by decide +kernel
theorem dX0_slotOf_6 : decode cX0_slotOf 6 = .ok (.iconst 0, 1) := by decide +kernel
theorem dX0_slotOf_7 : decode cX0_slotOf 7 = .ok (.istore_n 3, 1) := by decide +kernel
theorem dX0_slotOf_8 : decode cX0_slotOf 8 = .ok (.iload_n 3, 1) := by decide +kernel
theorem dX0_slotOf_9 : decode cX0_slotOf 9 = .ok (.sipush 4096, 3) := by decide +kernel
theorem dX0_slotOf_12 : decode cX0_slotOf 12 = .ok (.if_icmp .ge 44, 3) := by decide +kernel
theorem dX0_slotOf_15 : decode cX0_slotOf 15 = .ok (.aload_n 0, 1) := by decide +kernel
theorem dX0_slotOf_16 : decode cX0_slotOf 16 = .ok (.getfield 54, 3) := by decide +kernel
theorem dX0_slotOf_19 : decode cX0_slotOf 19 = .ok (.iload_n 2, 1) := by decide +kernel
theorem dX0_slotOf_20 : decode cX0_slotOf 20 = .ok (.iaload, 1) := by decide +kernel
theorem dX0_slotOf_21 : decode cX0_slotOf 21 = .ok (.ifCond .eq 19, 3) := by decide +kernel
theorem dX0_slotOf_24 : decode cX0_slotOf 24 = .ok (.aload_n 0, 1) := by decide +kernel
theorem dX0_slotOf_25 : decode cX0_slotOf 25 = .ok (.aload_n 0, 1) := by decide +kernel
theorem dX0_slotOf_26 : decode cX0_slotOf 26 = .ok (.getfield 54, 3) := by decide +kernel
theorem dX0_slotOf_29 : decode cX0_slotOf 29 = .ok (.iload_n 2, 1) := by decide +kernel
theorem dX0_slotOf_30 : decode cX0_slotOf 30 = .ok (.iaload, 1) := by decide +kernel
theorem dX0_slotOf_31 : decode cX0_slotOf 31 = .ok (.iconst 1, 1) := by decide +kernel
theorem dX0_slotOf_32 : decode cX0_slotOf 32 = .ok (.isub, 1) := by decide +kernel
theorem dX0_slotOf_33 : decode cX0_slotOf 33 = .ok (.aload_n 1, 1) := by decide +kernel
theorem dX0_slotOf_34 : decode cX0_slotOf 34 = .ok (.invokevirtual 120, 3) := by decide +kernel
theorem dX0_slotOf_37 : decode cX0_slotOf 37 = .ok (.ifCond .eq 5, 3) := by decide +kernel
theorem dX0_slotOf_40 : decode cX0_slotOf 40 = .ok (.iload_n 2, 1) := by decide +kernel
theorem dX0_slotOf_41 : decode cX0_slotOf 41 = .ok (.ireturn, 1) := by decide +kernel
theorem dX0_slotOf_42 : decode cX0_slotOf 42 = .ok (.iload_n 2, 1) := by decide +kernel
theorem dX0_slotOf_43 : decode cX0_slotOf 43 = .ok (.iconst 1, 1) := by decide +kernel
theorem dX0_slotOf_44 : decode cX0_slotOf 44 = .ok (.iadd, 1) := by decide +kernel
theorem dX0_slotOf_45 : decode cX0_slotOf 45 = .ok (.sipush 4095, 3) := by decide +kernel
theorem dX0_slotOf_48 : decode cX0_slotOf 48 = .ok (.iand, 1) := by decide +kernel
theorem dX0_slotOf_49 : decode cX0_slotOf 49 = .ok (.istore_n 2, 1) := by decide +kernel
theorem dX0_slotOf_50 : decode cX0_slotOf 50 = .ok (.iinc 3 1, 3) := by decide +kernel
theorem dX0_slotOf_53 : decode cX0_slotOf 53 = .ok (.goto (-45), 3) := by decide +kernel
theorem dX0_slotOf_56 : decode cX0_slotOf 56 = .ok (.iload_n 2, 1) := by decide +kernel
theorem dX0_slotOf_57 : decode cX0_slotOf 57 = .ok (.ireturn, 1) := by decide +kernel
theorem dX0_firstSlotOf_0 : decode cX0_firstSlotOf 0 = .ok (.iconst 0, 1) := by decide +kernel
theorem dX0_firstSlotOf_1 : decode cX0_firstSlotOf 1 = .ok (.istore_n 2, 1) := by decide +kernel
theorem dX0_firstSlotOf_2 : decode cX0_firstSlotOf 2 = .ok (.iconst 0, 1) := by decide +kernel
theorem dX0_firstSlotOf_3 : decode cX0_firstSlotOf 3 = .ok (.istore_n 3, 1) := by decide +kernel
theorem dX0_firstSlotOf_4 : decode cX0_firstSlotOf 4 = .ok (.iload_n 3, 1) := by decide +kernel
theorem dX0_firstSlotOf_5 : decode cX0_firstSlotOf 5 = .ok (.aload_n 0, 1) := by decide +kernel
theorem dX0_firstSlotOf_6 : decode cX0_firstSlotOf 6 = .ok (.getfield 89, 3) := by decide +kernel
theorem dX0_firstSlotOf_9 : decode cX0_firstSlotOf 9 = .ok (.if_icmp .ge 19, 3) := by decide +kernel
theorem dX0_firstSlotOf_12 : decode cX0_firstSlotOf 12 = .ok (.iload_n 2, 1) := by decide +kernel
theorem dX0_firstSlotOf_13 : decode cX0_firstSlotOf 13 = .ok (.ldc 124, 2) := by decide +kernel
theorem dX0_firstSlotOf_15 : decode cX0_firstSlotOf 15 = .ok (.imul, 1) := by decide +kernel
theorem dX0_firstSlotOf_16 : decode cX0_firstSlotOf 16 = .ok (.aload_n 1, 1) := by decide +kernel
theorem dX0_firstSlotOf_17 : decode cX0_firstSlotOf 17 = .ok (.iload_n 3, 1) := by decide +kernel
theorem dX0_firstSlotOf_18 : decode cX0_firstSlotOf 18 = .ok (.laload, 1) := by decide +kernel
theorem dX0_firstSlotOf_19 : decode cX0_firstSlotOf 19 = .ok (.l2i, 1) := by decide +kernel
theorem dX0_firstSlotOf_20 : decode cX0_firstSlotOf 20 = .ok (.iadd, 1) := by decide +kernel
theorem dX0_firstSlotOf_21 : decode cX0_firstSlotOf 21 = .ok (.istore_n 2, 1) := by decide +kernel
theorem dX0_firstSlotOf_22 : decode cX0_firstSlotOf 22 = .ok (.iinc 3 1, 3) := by decide +kernel
theorem dX0_firstSlotOf_25 : decode cX0_firstSlotOf 25 = .ok (.goto (-21), 3) := by decide +kernel
theorem dX0_firstSlotOf_28 : decode cX0_firstSlotOf 28 = .ok (.iload_n 2, 1) := by decide +kernel
theorem dX0_firstSlotOf_29 : decode cX0_firstSlotOf 29 = .ok (.iload_n 2, 1) := by decide +kernel
theorem dX0_firstSlotOf_30 : decode cX0_firstSlotOf 30 = .ok (.bipush 15, 2) := by decide +kernel
theorem dX0_firstSlotOf_32 : decode cX0_firstSlotOf 32 = .ok (.iushr, 1) := by decide +kernel
theorem dX0_firstSlotOf_33 : decode cX0_firstSlotOf 33 = .ok (.ixor, 1) := by decide +kernel
theorem dX0_firstSlotOf_34 : decode cX0_firstSlotOf 34 = .ok (.istore_n 2, 1) := by decide +kernel
theorem dX0_firstSlotOf_35 : decode cX0_firstSlotOf 35 = .ok (.iload_n 2, 1) := by decide +kernel
theorem dX0_firstSlotOf_36 : decode cX0_firstSlotOf 36 = .ok (.iload_n 2, 1) := by decide +kernel
theorem dX0_firstSlotOf_37 : decode cX0_firstSlotOf 37 = .ok (.bipush 7, 2) := by decide +kernel
theorem dX0_firstSlotOf_39 : decode cX0_firstSlotOf 39 = .ok (.iushr, 1) := by decide +kernel
theorem dX0_firstSlotOf_40 : decode cX0_firstSlotOf 40 = .ok (.ixor, 1) := by decide +kernel
theorem dX0_firstSlotOf_41 : decode cX0_firstSlotOf 41 = .ok (.sipush 4095, 3) := by decide +kernel
theorem dX0_firstSlotOf_44 : decode cX0_firstSlotOf 44 = .ok (.iand, 1) := by decide +kernel
theorem dX0_firstSlotOf_45 : decode cX0_firstSlotOf 45 = .ok (.ireturn, 1) := by decide +kernel
theorem dX0_isSame_0 : decode cX0_isSame 0 = .ok (.iconst 0, 1) := by decide +kernel
theorem dX0_isSame_1 : decode cX0_isSame 1 = .ok (.istore_n 3, 1) := by decide +kernel
theorem dX0_isSame_2 : decode cX0_isSame 2 = .ok (.iload_n 3, 1) := by decide +kernel
theorem dX0_isSame_3 : decode cX0_isSame 3 = .ok (.aload_n 0, 1) := by decide +kernel
theorem dX0_isSame_4 : decode cX0_isSame 4 = .ok (.getfield 89, 3) := by decide +kernel
theorem dX0_isSame_7 : decode cX0_isSame 7 = .ok (.if_icmp .ge 29, 3) := by decide +kernel
theorem dX0_isSame_10 : decode cX0_isSame 10 = .ok (.aload_n 0, 1) := by decide +kernel
theorem dX0_isSame_11 : decode cX0_isSame 11 = .ok (.getfield 39, 3) := by decide +kernel
theorem dX0_isSame_14 : decode cX0_isSame 14 = .ok (.iload_n 1, 1) := by decide +kernel
theorem dX0_isSame_15 : decode cX0_isSame 15 = .ok (.bipush 9, 2) := by decide +kernel
theorem dX0_isSame_17 : decode cX0_isSame 17 = .ok (.imul, 1) := by decide +kernel
theorem dX0_isSame_18 : decode cX0_isSame 18 = .ok (.iload_n 3, 1) := by decide +kernel
theorem dX0_isSame_19 : decode cX0_isSame 19 = .ok (.iadd, 1) := by decide +kernel
theorem dX0_isSame_20 : decode cX0_isSame 20 = .ok (.laload, 1) := by decide +kernel
theorem dX0_isSame_21 : decode cX0_isSame 21 = .ok (.aload_n 2, 1) := by decide +kernel
theorem dX0_isSame_22 : decode cX0_isSame 22 = .ok (.iload_n 3, 1) := by decide +kernel
theorem dX0_isSame_23 : decode cX0_isSame 23 = .ok (.laload, 1) := by decide +kernel
theorem dX0_isSame_24 : decode cX0_isSame 24 = .ok (.lcmp, 1) := by decide +kernel
theorem dX0_isSame_25 : decode cX0_isSame 25 = .ok (.ifCond .eq 5, 3) := by decide +kernel
theorem dX0_isSame_28 : decode cX0_isSame 28 = .ok (.iconst 0, 1) := by decide +kernel
theorem dX0_isSame_29 : decode cX0_isSame 29 = .ok (.ireturn, 1) := by decide +kernel
theorem dX0_isSame_30 : decode cX0_isSame 30 = .ok (.iinc 3 1, 3) := by decide +kernel
theorem dX0_isSame_33 : decode cX0_isSame 33 = .ok (.goto (-31), 3) := by decide +kernel
theorem dX0_isSame_36 : decode cX0_isSame 36 = .ok (.iconst 1, 1) := by decide +kernel
theorem dX0_isSame_37 : decode cX0_isSame 37 = .ok (.ireturn, 1) := by decide +kernel
theorem dX0_load_0 : decode cX0_load 0 = .ok (.aload_n 0, 1) := by decide +kernel
theorem dX0_load_1 : decode cX0_load 1 = .ok (.getfield 39, 3) := by decide +kernel
theorem dX0_load_4 : decode cX0_load 4 = .ok (.iload_n 1, 1) := by decide +kernel
theorem dX0_load_5 : decode cX0_load 5 = .ok (.bipush 9, 2) := by decide +kernel
theorem dX0_load_7 : decode cX0_load 7 = .ok (.imul, 1) := by decide +kernel
theorem dX0_load_8 : decode cX0_load 8 = .ok (.aload_n 2, 1) := by decide +kernel
end
section
theorem dX0_load_9 : decode cX0_load 9 = .ok (.iconst 0, 1) := by decide +kernel
theorem dX0_load_10 : decode cX0_load 10 = .ok (.bipush 9, 2) := by decide +kernel
theorem dX0_load_12 : decode cX0_load 12 = .ok (.invokestatic 103, 3) := by decide +kernel
theorem dX0_load_15 : decode cX0_load 15 = .ok (.return_, 1) := by decide +kernel
theorem dX0_multiplyNumbered_0 : decode cX0_multiplyNumbered 0 = .ok (.aload_n 0, 1) := by decide +kernel
theorem dX0_multiplyNumbered_1 : decode cX0_multiplyNumbered 1 = .ok (.iload_n 1, 1) := by decide +kernel
theorem dX0_multiplyNumbered_2 : decode cX0_multiplyNumbered 2 = .ok (.aload_n 0, 1) := by decide +kernel
theorem dX0_multiplyNumbered_3 : decode cX0_multiplyNumbered 3 = .ok (.getfield 9, 3) := by decide +kernel
theorem dX0_multiplyNumbered_6 : decode cX0_multiplyNumbered 6 = .ok (.invokevirtual 91, 3) := by decide +kernel
theorem dX0_multiplyNumbered_9 : decode cX0_multiplyNumbered 9 = .ok (.aload_n 0, 1) := by decide +kernel
theorem dX0_multiplyNumbered_10 : decode cX0_multiplyNumbered 10 = .ok (.iload_n 2, 1) := by decide +kernel
theorem dX0_multiplyNumbered_11 : decode cX0_multiplyNumbered 11 = .ok (.aload_n 0, 1) := by decide +kernel
theorem dX0_multiplyNumbered_12 : decode cX0_multiplyNumbered 12 = .ok (.getfield 15, 3) := by decide +kernel
theorem dX0_multiplyNumbered_15 : decode cX0_multiplyNumbered 15 = .ok (.invokevirtual 91, 3) := by decide +kernel
theorem dX0_multiplyNumbered_18 : decode cX0_multiplyNumbered 18 = .ok (.aload_n 0, 1) := by decide +kernel
theorem dX0_multiplyNumbered_19 : decode cX0_multiplyNumbered 19 = .ok (.getfield 25, 3) := by decide +kernel
theorem dX0_multiplyNumbered_22 : decode cX0_multiplyNumbered 22 = .ok (.aload_n 0, 1) := by decide +kernel
theorem dX0_multiplyNumbered_23 : decode cX0_multiplyNumbered 23 = .ok (.getfield 9, 3) := by decide +kernel
theorem dX0_multiplyNumbered_26 : decode cX0_multiplyNumbered 26 = .ok (.aload_n 0, 1) := by decide +kernel
theorem dX0_multiplyNumbered_27 : decode cX0_multiplyNumbered 27 = .ok (.getfield 15, 3) := by decide +kernel
theorem dX0_multiplyNumbered_30 : decode cX0_multiplyNumbered 30 = .ok (.aload_n 0, 1) := by decide +kernel
theorem dX0_multiplyNumbered_31 : decode cX0_multiplyNumbered 31 = .ok (.getfield 18, 3) := by decide +kernel
theorem dX0_multiplyNumbered_34 : decode cX0_multiplyNumbered 34 = .ok (.invokevirtual 95, 3) := by decide +kernel
theorem dX0_multiplyNumbered_37 : decode cX0_multiplyNumbered 37 = .ok (.return_, 1) := by decide +kernel
theorem dX0_sumUp_0 : decode cX0_sumUp 0 = .ok (.aload_n 0, 1) := by decide +kernel
theorem dX0_sumUp_1 : decode cX0_sumUp 1 = .ok (.iconst 0, 1) := by decide +kernel
theorem dX0_sumUp_2 : decode cX0_sumUp 2 = .ok (.putfield 125, 3) := by decide +kernel
theorem dX0_sumUp_5 : decode cX0_sumUp 5 = .ok (.aload_n 0, 1) := by decide +kernel
theorem dX0_sumUp_6 : decode cX0_sumUp 6 = .ok (.bipush (-9), 2) := by decide +kernel
theorem dX0_sumUp_8 : decode cX0_sumUp 8 = .ok (.putfield 129, 3) := by decide +kernel
theorem dX0_sumUp_11 : decode cX0_sumUp 11 = .ok (.aload_n 0, 1) := by decide +kernel
theorem dX0_sumUp_12 : decode cX0_sumUp 12 = .ok (.iconst 0, 1) := by decide +kernel
theorem dX0_sumUp_13 : decode cX0_sumUp 13 = .ok (.putfield 132, 3) := by decide +kernel
theorem dX0_sumUp_16 : decode cX0_sumUp 16 = .ok (.iconst 0, 1) := by decide +kernel
theorem dX0_sumUp_17 : decode cX0_sumUp 17 = .ok (.istore_n 1, 1) := by decide +kernel
theorem dX0_sumUp_18 : decode cX0_sumUp 18 = .ok (.iload_n 1, 1) := by decide +kernel
theorem dX0_sumUp_19 : decode cX0_sumUp 19 = .ok (.aload_n 0, 1) := by decide +kernel
theorem dX0_sumUp_20 : decode cX0_sumUp 20 = .ok (.getfield 33, 3) := by decide +kernel
theorem dX0_sumUp_23 : decode cX0_sumUp 23 = .ok (.if_icmp .ge 77, 3) := by decide +kernel
theorem dX0_sumUp_26 : decode cX0_sumUp 26 = .ok (.aload_n 0, 1) := by decide +kernel
theorem dX0_sumUp_27 : decode cX0_sumUp 27 = .ok (.iload_n 1, 1) := by decide +kernel
theorem dX0_sumUp_28 : decode cX0_sumUp 28 = .ok (.iload_n 1, 1) := by decide +kernel
theorem dX0_sumUp_29 : decode cX0_sumUp 29 = .ok (.invokevirtual 46, 3) := by decide +kernel
theorem dX0_sumUp_32 : decode cX0_sumUp 32 = .ok (.aload_n 0, 1) := by decide +kernel
theorem dX0_sumUp_33 : decode cX0_sumUp 33 = .ok (.iload_n 1, 1) := by decide +kernel
theorem dX0_sumUp_34 : decode cX0_sumUp 34 = .ok (.aload_n 0, 1) := by decide +kernel
theorem dX0_sumUp_35 : decode cX0_sumUp 35 = .ok (.getfield 18, 3) := by decide +kernel
theorem dX0_sumUp_38 : decode cX0_sumUp 38 = .ok (.invokevirtual 120, 3) := by decide +kernel
theorem dX0_sumUp_41 : decode cX0_sumUp 41 = .ok (.ifCond .eq 13, 3) := by decide +kernel
theorem dX0_sumUp_44 : decode cX0_sumUp 44 = .ok (.aload_n 0, 1) := by decide +kernel
theorem dX0_sumUp_45 : decode cX0_sumUp 45 = .ok (.dup, 1) := by decide +kernel
theorem dX0_sumUp_46 : decode cX0_sumUp 46 = .ok (.getfield 132, 3) := by decide +kernel
theorem dX0_sumUp_49 : decode cX0_sumUp 49 = .ok (.iconst 1, 1) := by decide +kernel
theorem dX0_sumUp_50 : decode cX0_sumUp 50 = .ok (.iadd, 1) := by decide +kernel
theorem dX0_sumUp_51 : decode cX0_sumUp 51 = .ok (.putfield 132, 3) := by decide +kernel
theorem dX0_sumUp_54 : decode cX0_sumUp 54 = .ok (.aload_n 0, 1) := by decide +kernel
theorem dX0_sumUp_55 : decode cX0_sumUp 55 = .ok (.getfield 25, 3) := by decide +kernel
theorem dX0_sumUp_58 : decode cX0_sumUp 58 = .ok (.aload_n 0, 1) := by decide +kernel
theorem dX0_sumUp_59 : decode cX0_sumUp 59 = .ok (.getfield 9, 3) := by decide +kernel
theorem dX0_sumUp_62 : decode cX0_sumUp 62 = .ok (.invokevirtual 135, 3) := by decide +kernel
theorem dX0_sumUp_65 : decode cX0_sumUp 65 = .ok (.ifCond .eq 8, 3) := by decide +kernel
theorem dX0_sumUp_68 : decode cX0_sumUp 68 = .ok (.aload_n 0, 1) := by decide +kernel
theorem dX0_sumUp_69 : decode cX0_sumUp 69 = .ok (.iload_n 1, 1) := by decide +kernel
theorem dX0_sumUp_70 : decode cX0_sumUp 70 = .ok (.putfield 129, 3) := by decide +kernel
theorem dX0_sumUp_73 : decode cX0_sumUp 73 = .ok (.aload_n 0, 1) := by decide +kernel
theorem dX0_sumUp_74 : decode cX0_sumUp 74 = .ok (.getfield 25, 3) := by decide +kernel
theorem dX0_sumUp_77 : decode cX0_sumUp 77 = .ok (.aload_n 0, 1) := by decide +kernel
theorem dX0_sumUp_78 : decode cX0_sumUp 78 = .ok (.getfield 9, 3) := by decide +kernel
theorem dX0_sumUp_81 : decode cX0_sumUp 81 = .ok (.invokevirtual 138, 3) := by decide +kernel
theorem dX0_sumUp_84 : decode cX0_sumUp 84 = .ok (.lconst 0, 1) := by decide +kernel
theorem dX0_sumUp_85 : decode cX0_sumUp 85 = .ok (.lcmp, 1) := by decide +kernel
theorem dX0_sumUp_86 : decode cX0_sumUp 86 = .ok (.ifCond .ne 8, 3) := by decide +kernel
theorem dX0_sumUp_89 : decode cX0_sumUp 89 = .ok (.aload_n 0, 1) := by decide +kernel
theorem dX0_sumUp_90 : decode cX0_sumUp 90 = .ok (.iconst 1, 1) := by decide +kernel
theorem dX0_sumUp_91 : decode cX0_sumUp 91 = .ok (.putfield 125, 3) := by decide +kernel
theorem dX0_sumUp_94 : decode cX0_sumUp 94 = .ok (.iinc 1 1, 3) := by decide +kernel
theorem dX0_sumUp_97 : decode cX0_sumUp 97 = .ok (.goto (-79), 3) := by decide +kernel
theorem dX0_sumUp_100 : decode cX0_sumUp 100 = .ok (.return_, 1) := by decide +kernel
end
section
theorem dX1_init_0 : decode cX1_init 0 = .ok (.aload_n 0, 1) := by decide +kernel
theorem dX1_init_1 : decode cX1_init 1 = .ok (.iload_n 1, 1) := by decide +kernel
theorem dX1_init_2 : decode cX1_init 2 = .ok (.iload_n 2, 1) := by decide +kernel
theorem dX1_init_3 : decode cX1_init 3 = .ok (.aload_n 3, 1) := by decide +kernel
theorem dX1_init_4 : decode cX1_init 4 = .ok (.invokespecial 1, 3) := by decide +kernel
theorem dX1_init_7 : decode cX1_init 7 = .ok (.return_, 1) := by decide +kernel
theorem dX1_telling_0 : decode cX1_telling 0 = .ok (.aload_n 1, 1) := by decide +kernel
theorem dX1_telling_1 : decode cX1_telling 1 = .ok (.iconst 2, 1) := by decide +kernel
theorem dX1_telling_2 : decode cX1_telling 2 = .ok (.invokevirtual 7, 3) := by decide +kernel
theorem dX1_telling_5 : decode cX1_telling 5 = .ok (.aload_n 0, 1) := by decide +kernel
theorem dX1_telling_6 : decode cX1_telling 6 = .ok (.aload_n 1, 1) := by decide +kernel
theorem dX1_telling_7 : decode cX1_telling 7 = .ok (.invokespecial 13, 3) := by decide +kernel
theorem dX1_telling_10 : decode cX1_telling 10 = .ok (.aload_n 0, 1) := by decide +kernel
theorem dX1_telling_11 : decode cX1_telling 11 = .ok (.invokevirtual 17, 3) := by decide +kernel
theorem dX1_telling_14 : decode cX1_telling 14 = .ok (.iadd, 1) := by decide +kernel
theorem dX1_telling_15 : decode cX1_telling 15 = .ok (.ireturn, 1) := by decide +kernel
theorem dX1_greatestEntry_0 : decode cX1_greatestEntry 0 = .ok (.iconst 0, 1) := by decide +kernel
theorem dX1_greatestEntry_1 : decode cX1_greatestEntry 1 = .ok (.istore_n 1, 1) := by decide +kernel
theorem dX1_greatestEntry_2 : decode cX1_greatestEntry 2 = .ok (.iconst 0, 1) := by decide +kernel
theorem dX1_greatestEntry_3 : decode cX1_greatestEntry 3 = .ok (.istore_n 2, 1) := by decide +kernel
theorem dX1_greatestEntry_4 : decode cX1_greatestEntry 4 = .ok (.iload_n 2, 1) := by decide +kernel
theorem dX1_greatestEntry_5 : decode cX1_greatestEntry 5 = .ok (.aload_n 0, 1) := by decide +kernel
theorem dX1_greatestEntry_6 : decode cX1_greatestEntry 6 = .ok (.getfield 23, 3) := by decide +kernel
theorem dX1_greatestEntry_9 : decode cX1_greatestEntry 9 = .ok (.aload_n 0, 1) := by decide +kernel
theorem dX1_greatestEntry_10 : decode cX1_greatestEntry 10 = .ok (.getfield 23, 3) := by decide +kernel
theorem dX1_greatestEntry_13 : decode cX1_greatestEntry 13 = .ok (.imul, 1) := by decide +kernel
theorem dX1_greatestEntry_14 : decode cX1_greatestEntry 14 = .ok (.if_icmp .ge 20, 3) := by decide +kernel
theorem dX1_greatestEntry_17 : decode cX1_greatestEntry 17 = .ok (.iload_n 1, 1) := by decide +kernel
theorem dX1_greatestEntry_18 : decode cX1_greatestEntry 18 = .ok (.aload_n 0, 1) := by decide +kernel
theorem dX1_greatestEntry_19 : decode cX1_greatestEntry 19 = .ok (.getfield 27, 3) := by decide +kernel
theorem dX1_greatestEntry_22 : decode cX1_greatestEntry 22 = .ok (.iload_n 2, 1) := by decide +kernel
theorem dX1_greatestEntry_23 : decode cX1_greatestEntry 23 = .ok (.iaload, 1) := by decide +kernel
theorem dX1_greatestEntry_24 : decode cX1_greatestEntry 24 = .ok (.invokestatic 31, 3) := by decide +kernel
theorem dX1_greatestEntry_27 : decode cX1_greatestEntry 27 = .ok (.istore_n 1, 1) := by decide +kernel
theorem dX1_greatestEntry_28 : decode cX1_greatestEntry 28 = .ok (.iinc 2 1, 3) := by decide +kernel
theorem dX1_greatestEntry_31 : decode cX1_greatestEntry 31 = .ok (.goto (-27), 3) := by decide +kernel
theorem dX1_greatestEntry_34 : decode cX1_greatestEntry 34 = .ok (.iload_n 1, 1) := by decide +kernel
theorem dX1_greatestEntry_35 : decode cX1_greatestEntry 35 = .ok (.ireturn, 1) := by decide +kernel
theorem dX1_isOfKind_0 : decode cX1_isOfKind 0 = .ok (.iload_n 1, 1) := by decide +kernel
theorem dX1_isOfKind_1 : decode cX1_isOfKind 1 = .ok (.iconst 1, 1) := by decide +kernel
theorem dX1_isOfKind_2 : decode cX1_isOfKind 2 = .ok (.if_icmp .eq 11, 3) := by decide +kernel
theorem dX1_isOfKind_5 : decode cX1_isOfKind 5 = .ok (.aload_n 0, 1) := by decide +kernel
theorem dX1_isOfKind_6 : decode cX1_isOfKind 6 = .ok (.iload_n 1, 1) := by decide +kernel
theorem dX1_isOfKind_7 : decode cX1_isOfKind 7 = .ok (.invokespecial 37, 3) := by decide +kernel
theorem dX1_isOfKind_10 : decode cX1_isOfKind 10 = .ok (.ifCond .eq 7, 3) := by decide +kernel
theorem dX1_isOfKind_13 : decode cX1_isOfKind 13 = .ok (.iconst 1, 1) := by decide +kernel
theorem dX1_isOfKind_14 : decode cX1_isOfKind 14 = .ok (.goto 4, 3) := by decide +kernel
theorem dX1_isOfKind_17 : decode cX1_isOfKind 17 = .ok (.iconst 0, 1) := by decide +kernel
theorem dX1_isOfKind_18 : decode cX1_isOfKind 18 = .ok (.ireturn, 1) := by decide +kernel
end
section
theorem dX10_init_0 : decode cX10_init 0 = .ok (.aload_n 0, 1) := by decide +kernel
theorem dX10_init_1 : decode cX10_init 1 = .ok (.invokespecial 3, 3) := by decide +kernel
theorem dX10_init_4 : decode cX10_init 4 = .ok (.aload_n 0, 1) := by decide +kernel
theorem dX10_init_5 : decode cX10_init 5 = .ok (.bipush 12, 2) := by decide +kernel
theorem dX10_init_7 : decode cX10_init 7 = .ok (.newarray .int, 2) := by decide +kernel
theorem dX10_init_9 : decode cX10_init 9 = .ok (.putfield 9, 3) := by decide +kernel
theorem dX10_init_12 : decode cX10_init 12 = .ok (.aload_n 0, 1) := by decide +kernel
theorem dX10_init_13 : decode cX10_init 13 = .ok (.bipush 9, 2) := by decide +kernel
theorem dX10_init_15 : decode cX10_init 15 = .ok (.newarray .long, 2) := by decide +kernel
theorem dX10_init_17 : decode cX10_init 17 = .ok (.putfield 15, 3) := by decide +kernel
theorem dX10_init_20 : decode cX10_init 20 = .ok (.return_, 1) := by decide +kernel
theorem dX10_clear_0 : decode cX10_clear 0 = .ok (.aload_n 0, 1) := by decide +kernel
theorem dX10_clear_1 : decode cX10_clear 1 = .ok (.iconst 0, 1) := by decide +kernel
theorem dX10_clear_2 : decode cX10_clear 2 = .ok (.putfield 19, 3) := by decide +kernel
theorem dX10_clear_5 : decode cX10_clear 5 = .ok (.return_, 1) := by decide +kernel
theorem dX10_append_0 : decode cX10_append 0 = .ok (.aload_n 0, 1) := by decide +kernel
theorem dX10_append_1 : decode cX10_append 1 = .ok (.getfield 19, 3) := by decide +kernel
theorem dX10_append_4 : decode cX10_append 4 = .ok (.bipush 12, 2) := by decide +kernel
theorem dX10_append_6 : decode cX10_append 6 = .ok (.if_icmp .ge 23, 3) := by decide +kernel
theorem dX10_append_9 : decode cX10_append 9 = .ok (.aload_n 0, 1) := by decide +kernel
theorem dX10_append_10 : decode cX10_append 10 = .ok (.getfield 9, 3) := by decide +kernel
theorem dX10_append_13 : decode cX10_append 13 = .ok (.aload_n 0, 1) := by decide +kernel
theorem dX10_append_14 : decode cX10_append 14 = .ok (.getfield 19, 3) := by decide +kernel
theorem dX10_append_17 : decode cX10_append 17 = .ok (.iload_n 1, 1) := by decide +kernel
theorem dX10_append_18 : decode cX10_append 18 = .ok (.iastore, 1) := by decide +kernel
theorem dX10_append_19 : decode cX10_append 19 = .ok (.aload_n 0, 1) := by decide +kernel
theorem dX10_append_20 : decode cX10_append 20 = .ok (.dup, 1) := by decide +kernel
theorem dX10_append_21 : decode cX10_append 21 = .ok (.getfield 19, 3) := by decide +kernel
theorem dX10_append_24 : decode cX10_append 24 = .ok (.iconst 1, 1) := by decide +kernel
theorem dX10_append_25 : decode cX10_append 25 = .ok (.iadd, 1) := by decide +kernel
theorem dX10_append_26 : decode cX10_append 26 = .ok (.putfield 19, 3) := by decide +kernel
theorem dX10_append_29 : decode cX10_append 29 = .ok (.return_, 1) := by decide +kernel
theorem dX10_appendAll_0 : decode cX10_appendAll 0 = .ok (.iconst 0, 1) := by decide +kernel
theorem dX10_appendAll_1 : decode cX10_appendAll 1 = .ok (.istore_n 2, 1) := by decide +kernel
theorem dX10_appendAll_2 : decode cX10_appendAll 2 = .ok (.iload_n 2, 1) := by decide +kernel
theorem dX10_appendAll_3 : decode cX10_appendAll 3 = .ok (.aload_n 1, 1) := by decide +kernel
theorem dX10_appendAll_4 : decode cX10_appendAll 4 = .ok (.getfield 19, 3) := by decide +kernel
theorem dX10_appendAll_7 : decode cX10_appendAll 7 = .ok (.if_icmp .ge 19, 3) := by decide +kernel
theorem dX10_appendAll_10 : decode cX10_appendAll 10 = .ok (.aload_n 0, 1) := by decide +kernel
theorem dX10_appendAll_11 : decode cX10_appendAll 11 = .ok (.aload_n 1, 1) := by decide +kernel
theorem dX10_appendAll_12 : decode cX10_appendAll 12 = .ok (.getfield 9, 3) := by decide +kernel
theorem dX10_appendAll_15 : decode cX10_appendAll 15 = .ok (.iload_n 2, 1) := by decide +kernel
theorem dX10_appendAll_16 : decode cX10_appendAll 16 = .ok (.iaload, 1) := by decide +kernel
theorem dX10_appendAll_17 : decode cX10_appendAll 17 = .ok (.invokevirtual 23, 3) := by decide +kernel
theorem dX10_appendAll_20 : decode cX10_appendAll 20 = .ok (.iinc 2 1, 3) := by decide +kernel
theorem dX10_appendAll_23 : decode cX10_appendAll 23 = .ok (.goto (-21), 3) := by decide +kernel
theorem dX10_appendAll_26 : decode cX10_appendAll 26 = .ok (.return_, 1) := by decide +kernel
end
section
theorem dX11_init_0 : decode cX11_init 0 = .ok (.aload_n 0, 1) := by decide +kernel
theorem dX11_init_1 : decode cX11_init 1 = .ok (.invokespecial 5, 3) := by decide +kernel
theorem dX11_init_4 : decode cX11_init 4 = .ok (.aload_n 0, 1) := by decide +kernel
theorem dX11_init_5 : decode cX11_init 5 = .ok (.new 11, 3) := by decide +kernel
theorem dX11_init_8 : decode cX11_init 8 = .ok (.dup, 1) := by decide +kernel
theorem dX11_init_9 : decode cX11_init 9 = .ok (.invokespecial 13, 3) := by decide +kernel
theorem dX11_init_12 : decode cX11_init 12 = .ok (.putfield 14, 3) := by decide +kernel
theorem dX11_init_15 : decode cX11_init 15 = .ok (.aload_n 0, 1) := by decide +kernel
theorem dX11_init_16 : decode cX11_init 16 = .ok (.new 18, 3) := by decide +kernel
theorem dX11_init_19 : decode cX11_init 19 = .ok (.dup, 1) := by decide +kernel
theorem dX11_init_20 : decode cX11_init 20 = .ok (.aload_n 0, 1) := by decide +kernel
theorem dX11_init_21 : decode cX11_init 21 = .ok (.getfield 14, 3) := by decide +kernel
theorem dX11_init_24 : decode cX11_init 24 = .ok (.invokespecial 20, 3) := by decide +kernel
theorem dX11_init_27 : decode cX11_init 27 = .ok (.putfield 23, 3) := by decide +kernel
theorem dX11_init_30 : decode cX11_init 30 = .ok (.aload_n 0, 1) := by decide +kernel
theorem dX11_init_31 : decode cX11_init 31 = .ok (.new 27, 3) := by decide +kernel
theorem dX11_init_34 : decode cX11_init 34 = .ok (.dup, 1) := by decide +kernel
theorem dX11_init_35 : decode cX11_init 35 = .ok (.aload_n 0, 1) := by decide +kernel
theorem dX11_init_36 : decode cX11_init 36 = .ok (.getfield 14, 3) := by decide +kernel
theorem dX11_init_39 : decode cX11_init 39 = .ok (.invokespecial 29, 3) := by decide +kernel
theorem dX11_init_42 : decode cX11_init 42 = .ok (.putfield 30, 3) := by decide +kernel
theorem dX11_init_45 : decode cX11_init 45 = .ok (.aload_n 0, 1) := by decide +kernel
theorem dX11_init_46 : decode cX11_init 46 = .ok (.bipush 10, 2) := by decide +kernel
theorem dX11_init_48 : decode cX11_init 48 = .ok (.anewarray 34, 3) := by decide +kernel
theorem dX11_init_51 : decode cX11_init 51 = .ok (.putfield 36, 3) := by decide +kernel
theorem dX11_init_54 : decode cX11_init 54 = .ok (.aload_n 0, 1) := by decide +kernel
theorem dX11_init_55 : decode cX11_init 55 = .ok (.iconst 4, 1) := by decide +kernel
theorem dX11_init_56 : decode cX11_init 56 = .ok (.anewarray 40, 3) := by decide +kernel
theorem dX11_init_59 : decode cX11_init 59 = .ok (.putfield 42, 3) := by decide +kernel
theorem dX11_init_62 : decode cX11_init 62 = .ok (.aload_n 0, 1) := by decide +kernel
theorem dX11_init_63 : decode cX11_init 63 = .ok (.new 46, 3) := by decide +kernel
theorem dX11_init_66 : decode cX11_init 66 = .ok (.dup, 1) := by decide +kernel
theorem dX11_init_67 : decode cX11_init 67 = .ok (.invokespecial 48, 3) := by decide +kernel
theorem dX11_init_70 : decode cX11_init 70 = .ok (.putfield 49, 3) := by decide +kernel
theorem dX11_init_73 : decode cX11_init 73 = .ok (.iconst 0, 1) := by decide +kernel
theorem dX11_init_74 : decode cX11_init 74 = .ok (.istore_n 1, 1) := by decide +kernel
theorem dX11_init_75 : decode cX11_init 75 = .ok (.iload_n 1, 1) := by decide +kernel
theorem dX11_init_76 : decode cX11_init 76 = .ok (.bipush 10, 2) := by decide +kernel
theorem dX11_init_78 : decode cX11_init 78 = .ok (.if_icmp .ge 22, 3) := by decide +kernel
theorem dX11_init_81 : decode cX11_init 81 = .ok (.aload_n 0, 1) := by decide +kernel
theorem dX11_init_82 : decode cX11_init 82 = .ok (.getfield 36, 3) := by decide +kernel
theorem dX11_init_85 : decode cX11_init 85 = .ok (.iload_n 1, 1) := by decide +kernel
theorem dX11_init_86 : decode cX11_init 86 = .ok (.new 34, 3) := by decide +kernel
theorem dX11_init_89 : decode cX11_init 89 = .ok (.dup, 1) := by decide +kernel
theorem dX11_init_90 : decode cX11_init 90 = .ok (.invokespecial 53, 3) := by decide +kernel
theorem dX11_init_93 : decode cX11_init 93 = .ok (.aastore, 1) := by decide +kernel
theorem dX11_init_94 : decode cX11_init 94 = .ok (.iinc 1 1, 3) := by decide +kernel
theorem dX11_init_97 : decode cX11_init 97 = .ok (.goto (-22), 3) := by decide +kernel
theorem dX11_init_100 : decode cX11_init 100 = .ok (.iconst 0, 1) := by decide +kernel
theorem dX11_init_101 : decode cX11_init 101 = .ok (.istore_n 1, 1) := by decide +kernel
theorem dX11_init_102 : decode cX11_init 102 = .ok (.iload_n 1, 1) := by decide +kernel
theorem dX11_init_103 : decode cX11_init 103 = .ok (.iconst 4, 1) := by decide +kernel
theorem dX11_init_104 : decode cX11_init 104 = .ok (.if_icmp .ge 22, 3) := by decide +kernel
theorem dX11_init_107 : decode cX11_init 107 = .ok (.aload_n 0, 1) := by decide +kernel
theorem dX11_init_108 : decode cX11_init 108 = .ok (.getfield 42, 3) := by decide +kernel
theorem dX11_init_111 : decode cX11_init 111 = .ok (.iload_n 1, 1) := by decide +kernel
theorem dX11_init_112 : decode cX11_init 112 = .ok (.new 40, 3) := by decide +kernel
theorem dX11_init_115 : decode cX11_init 115 = .ok (.dup, 1) := by decide +kernel
theorem dX11_init_116 : decode cX11_init 116 = .ok (.invokespecial 54, 3) := by decide +kernel
theorem dX11_init_119 : decode cX11_init 119 = .ok (.aastore, 1) := by decide +kernel
theorem dX11_init_120 : decode cX11_init 120 = .ok (.iinc 1 1, 3) := by decide +kernel
theorem dX11_init_123 : decode cX11_init 123 = .ok (.goto (-21), 3) := by decide +kernel
theorem dX11_init_126 : decode cX11_init 126 = .ok (.return_, 1) := by decide +kernel
theorem dX11_begin_0 : decode cX11_begin 0 = .ok (.iload_n 1, 1) := by decide +kernel
theorem dX11_begin_1 : decode cX11_begin 1 = .ok (.iconst 2, 1) := by decide +kernel
theorem dX11_begin_2 : decode cX11_begin 2 = .ok (.iconst 3, 1) := by decide +kernel
theorem dX11_begin_3 : decode cX11_begin 3 = .ok (.invokestatic 55, 3) := by decide +kernel
theorem dX11_begin_6 : decode cX11_begin 6 = .ok (.ifCond .eq 17, 3) := by decide +kernel
theorem dX11_begin_9 : decode cX11_begin 9 = .ok (.iload_n 2, 1) := by decide +kernel
theorem dX11_begin_10 : decode cX11_begin 10 = .ok (.ifCond .eq 16, 3) := by decide +kernel
theorem dX11_begin_13 : decode cX11_begin 13 = .ok (.iload_n 2, 1) := by decide +kernel
theorem dX11_begin_14 : decode cX11_begin 14 = .ok (.iconst 2, 1) := by decide +kernel
theorem dX11_begin_15 : decode cX11_begin 15 = .ok (.bipush 97, 2) := by decide +kernel
theorem dX11_begin_17 : decode cX11_begin 17 = .ok (.invokestatic 55, 3) := by decide +kernel
theorem dX11_begin_20 : decode cX11_begin 20 = .ok (.ifCond .ne 6, 3) := by decide +kernel
theorem dX11_begin_23 : decode cX11_begin 23 = .ok (.bipush (-2), 2) := by decide +kernel
theorem dX11_begin_25 : decode cX11_begin 25 = .ok (.ireturn, 1) := by decide +kernel
theorem dX11_begin_26 : decode cX11_begin 26 = .ok (.aload_n 0, 1) := by decide +kernel
theorem dX11_begin_27 : decode cX11_begin 27 = .ok (.getfield 14, 3) := by decide +kernel
theorem dX11_begin_30 : decode cX11_begin 30 = .ok (.iload_n 1, 1) := by decide +kernel
theorem dX11_begin_31 : decode cX11_begin 31 = .ok (.iload_n 2, 1) := by decide +kernel
theorem dX11_begin_32 : decode cX11_begin 32 = .ok (.invokevirtual 59, 3) := by decide +kernel
theorem dX11_begin_35 : decode cX11_begin 35 = .ok (.aload_n 0, 1) := by decide +kernel
theorem dX11_begin_36 : decode cX11_begin 36 = .ok (.getfield 23, 3) := by decide +kernel
theorem dX11_begin_39 : decode cX11_begin 39 = .ok (.invokevirtual 63, 3) := by decide +kernel
theorem dX11_begin_42 : decode cX11_begin 42 = .ok (.aload_n 0, 1) := by decide +kernel
theorem dX11_begin_43 : decode cX11_begin 43 = .ok (.getfield 30, 3) := by decide +kernel
theorem dX11_begin_46 : decode cX11_begin 46 = .ok (.invokevirtual 66, 3) := by decide +kernel
theorem dX11_begin_49 : decode cX11_begin 49 = .ok (.aload_n 0, 1) := by decide +kernel
theorem dX11_begin_50 : decode cX11_begin 50 = .ok (.iconst 0, 1) := by decide +kernel
theorem dX11_begin_51 : decode cX11_begin 51 = .ok (.putfield 67, 3) := by decide +kernel
theorem dX11_begin_54 : decode cX11_begin 54 = .ok (.iconst 1, 1) := by decide +kernel
theorem dX11_begin_55 : decode cX11_begin 55 = .ok (.ireturn, 1) := by decide +kernel
theorem dX11_table_0 : decode cX11_table 0 = .ok (.aload_n 0, 1) := by decide +kernel
theorem dX11_table_1 : decode cX11_table 1 = .ok (.aload_n 0, 1) := by decide +kernel
theorem dX11_table_2 : decode cX11_table 2 = .ok (.iload_n 1, 1) := by decide +kernel
theorem dX11_table_3 : decode cX11_table 3 = .ok (.iload_n 2, 1) := by decide +kernel
theorem dX11_table_4 : decode cX11_table 4 = .ok (.iload_n 3, 1) := by decide +kernel
theorem dX11_table_5 : decode cX11_table 5 = .ok (.invokevirtual 71, 3) := by decide +kernel
theorem dX11_table_8 : decode cX11_table 8 = .ok (.invokevirtual 75, 3) := by decide +kernel
theorem dX11_table_11 : decode cX11_table 11 = .ok (.ireturn, 1) := by decide +kernel
theorem dX11_entry_0 : decode cX11_entry 0 = .ok (.aload_n 0, 1) := by decide +kernel
theorem dX11_entry_1 : decode cX11_entry 1 = .ok (.getfield 14, 3) := by decide +kernel
theorem dX11_entry_4 : decode cX11_entry 4 = .ok (.iload_n 1, 1) := by decide +kernel
theorem dX11_entry_5 : decode cX11_entry 5 = .ok (.invokevirtual 79, 3) := by decide +kernel
theorem dX11_entry_8 : decode cX11_entry 8 = .ok (.ifCond .eq 15, 3) := by decide +kernel
theorem dX11_entry_11 : decode cX11_entry 11 = .ok (.aload_n 0, 1) := by decide +kernel
theorem dX11_entry_12 : decode cX11_entry 12 = .ok (.getfield 14, 3) := by decide +kernel
theorem dX11_entry_15 : decode cX11_entry 15 = .ok (.iload_n 2, 1) := by decide +kernel
theorem dX11_entry_16 : decode cX11_entry 16 = .ok (.iload_n 3, 1) := by decide +kernel
theorem dX11_entry_17 : decode cX11_entry 17 = .ok (.invokevirtual 83, 3) := by decide +kernel
theorem dX11_entry_20 : decode cX11_entry 20 = .ok (.ifCond .ne 7, 3) := by decide +kernel
theorem dX11_entry_23 : decode cX11_entry 23 = .ok (.ldc2_w 87, 3) := by decide +kernel
theorem dX11_entry_26 : decode cX11_entry 26 = .ok (.lreturn, 1) := by decide +kernel
theorem dX11_entry_27 : decode cX11_entry 27 = .ok (.aload_n 0, 1) := by decide +kernel
theorem dX11_entry_28 : decode cX11_entry 28 = .ok (.getfield 14, 3) := by decide +kernel
theorem dX11_entry_31 : decode cX11_entry 31 = .ok (.iload_n 1, 1) := by decide +kernel
theorem dX11_entry_32 : decode cX11_entry 32 = .ok (.invokevirtual 89, 3) := by decide +kernel
theorem dX11_entry_35 : decode cX11_entry 35 = .ok (.getfield 93, 3) := by decide +kernel
theorem dX11_entry_38 : decode cX11_entry 38 = .ok (.aload_n 0, 1) := by decide +kernel
theorem dX11_entry_39 : decode cX11_entry 39 = .ok (.getfield 14, 3) := by decide +kernel
theorem dX11_entry_42 : decode cX11_entry 42 = .ok (.iload_n 2, 1) := by decide +kernel
theorem dX11_entry_43 : decode cX11_entry 43 = .ok (.iload_n 3, 1) := by decide +kernel
theorem dX11_entry_44 : decode cX11_entry 44 = .ok (.invokevirtual 99, 3) := by decide +kernel
theorem dX11_entry_47 : decode cX11_entry 47 = .ok (.iaload, 1) := by decide +kernel
theorem dX11_entry_48 : decode cX11_entry 48 = .ok (.i2l, 1) := by decide +kernel
theorem dX11_entry_49 : decode cX11_entry 49 = .ok (.lreturn, 1) := by decide +kernel
theorem dX11_may_0 : decode cX11_may 0 = .ok (.aload_n 0, 1) := by decide +kernel
theorem dX11_may_1 : decode cX11_may 1 = .ok (.getfield 14, 3) := by decide +kernel
theorem dX11_may_4 : decode cX11_may 4 = .ok (.iload_n 1, 1) := by decide +kernel
theorem dX11_may_5 : decode cX11_may 5 = .ok (.invokevirtual 79, 3) := by decide +kernel
theorem dX11_may_8 : decode cX11_may 8 = .ok (.ifCond .eq 14, 3) := by decide +kernel
theorem dX11_may_11 : decode cX11_may 11 = .ok (.aload_n 0, 1) := by decide +kernel
theorem dX11_may_12 : decode cX11_may 12 = .ok (.getfield 14, 3) := by decide +kernel
theorem dX11_may_15 : decode cX11_may 15 = .ok (.iload_n 2, 1) := by decide +kernel
theorem dX11_may_16 : decode cX11_may 16 = .ok (.invokevirtual 79, 3) := by decide +kernel
theorem dX11_may_19 : decode cX11_may 19 = .ok (.ifCond .ne 5, 3) := by decide +kernel
theorem dX11_may_22 : decode cX11_may 22 = .ok (.iconst (-1), 1) := by decide +kernel
theorem dX11_may_23 : decode cX11_may 23 = .ok (.ireturn, 1) := by decide +kernel
theorem dX11_may_24 : decode cX11_may 24 = .ok (.aload_n 0, 1) := by decide +kernel
theorem dX11_may_25 : decode cX11_may 25 = .ok (.getfield 14, 3) := by decide +kernel
theorem dX11_may_28 : decode cX11_may 28 = .ok (.iload_n 1, 1) := by decide +kernel
theorem dX11_may_29 : decode cX11_may 29 = .ok (.iload_n 2, 1) := by decide +kernel
theorem dX11_may_30 : decode cX11_may 30 = .ok (.invokevirtual 103, 3) := by decide +kernel
theorem dX11_may_33 : decode cX11_may 33 = .ok (.iload_n 3, 1) := by decide +kernel
theorem dX11_may_34 : decode cX11_may 34 = .ok (.if_icmp .ne 5, 3) := by decide +kernel
theorem dX11_may_37 : decode cX11_may 37 = .ok (.iconst 0, 1) := by decide +kernel
theorem dX11_may_38 : decode cX11_may 38 = .ok (.ireturn, 1) := by decide +kernel
theorem dX11_may_39 : decode cX11_may 39 = .ok (.aload_n 0, 1) := by decide +kernel
theorem dX11_may_40 : decode cX11_may 40 = .ok (.getfield 14, 3) := by decide +kernel
theorem dX11_may_43 : decode cX11_may 43 = .ok (.iload_n 1, 1) := by decide +kernel
theorem dX11_may_44 : decode cX11_may 44 = .ok (.iload_n 2, 1) := by decide +kernel
theorem dX11_may_45 : decode cX11_may 45 = .ok (.iload_n 3, 1) := by decide +kernel
theorem dX11_may_46 : decode cX11_may 46 = .ok (.invokevirtual 106, 3) := by decide +kernel
theorem dX11_may_49 : decode cX11_may 49 = .ok (.aload_n 0, 1) := by decide +kernel
theorem dX11_may_50 : decode cX11_may 50 = .ok (.getfield 23, 3) := by decide +kernel
theorem dX11_may_53 : decode cX11_may 53 = .ok (.invokevirtual 63, 3) := by decide +kernel
theorem dX11_may_56 : decode cX11_may 56 = .ok (.iconst 1, 1) := by decide +kernel
theorem dX11_may_57 : decode cX11_may 57 = .ok (.ireturn, 1) := by decide +kernel
theorem dX11_length_0 : decode cX11_length 0 = .ok (.iload_n 1, 1) := by decide +kernel
theorem dX11_length_1 : decode cX11_length 1 = .ok (.iconst 1, 1) := by decide +kernel
theorem dX11_length_2 : decode cX11_length 2 = .ok (.bipush 8, 2) := by decide +kernel
theorem dX11_length_4 : decode cX11_length 4 = .ok (.invokestatic 55, 3) := by decide +kernel
theorem dX11_length_7 : decode cX11_length 7 = .ok (.ifCond .eq 12, 3) := by decide +kernel
theorem dX11_length_10 : decode cX11_length 10 = .ok (.iload_n 2, 1) := by decide +kernel
theorem dX11_length_11 : decode cX11_length 11 = .ok (.iconst 0, 1) := by decide +kernel
theorem dX11_length_12 : decode cX11_length 12 = .ok (.iconst 3, 1) := by decide +kernel
theorem dX11_length_13 : decode cX11_length 13 = .ok (.invokestatic 55, 3) := by decide +kernel
theorem dX11_length_16 : decode cX11_length 16 = .ok (.ifCond .ne 7, 3) := by decide +kernel
theorem dX11_length_19 : decode cX11_length 19 = .ok (.ldc2_w 87, 3) := by decide +kernel
theorem dX11_length_22 : decode cX11_length 22 = .ok (.lreturn, 1) := by decide +kernel
theorem dX11_length_23 : decode cX11_length 23 = .ok (.aload_n 0, 1) := by decide +kernel
theorem dX11_length_24 : decode cX11_length 24 = .ok (.getfield 23, 3) := by decide +kernel
theorem dX11_length_27 : decode cX11_length 27 = .ok (.iload_n 1, 1) := by decide +kernel
theorem dX11_length_28 : decode cX11_length 28 = .ok (.invokevirtual 110, 3) := by decide +kernel
theorem dX11_length_31 : decode cX11_length 31 = .ok (.ifCond .eq 7, 3) := by decide +kernel
theorem dX11_length_34 : decode cX11_length 34 = .ok (.ldc2_w 87, 3) := by decide +kernel
theorem dX11_length_37 : decode cX11_length 37 = .ok (.lreturn, 1) := by decide +kernel
theorem dX11_length_38 : decode cX11_length 38 = .ok (.aload_n 0, 1) := by decide +kernel
theorem dX11_length_39 : decode cX11_length 39 = .ok (.getfield 23, 3) := by decide +kernel
theorem dX11_length_42 : decode cX11_length 42 = .ok (.iload_n 1, 1) := by decide +kernel
theorem dX11_length_43 : decode cX11_length 43 = .ok (.invokevirtual 113, 3) := by decide +kernel
theorem dX11_length_46 : decode cX11_length 46 = .ok (.ifCond .ne 7, 3) := by decide +kernel
theorem dX11_length_49 : decode cX11_length 49 = .ok (.iconst 1, 1) := by decide +kernel
theorem dX11_length_50 : decode cX11_length 50 = .ok (.goto 4, 3) := by decide +kernel
theorem dX11_length_53 : decode cX11_length 53 = .ok (.iconst 0, 1) := by decide +kernel
theorem dX11_length_54 : decode cX11_length 54 = .ok (.istore_n 3, 1) := by decide +kernel
theorem dX11_length_55 : decode cX11_length 55 = .ok (.iload_n 2, 1) := by decide +kernel
theorem dX11_length_56 : decode cX11_length 56 = .ok (.tableswitch 82 0 2 #[28, 38, 60], 28) := by decide +kernel
theorem dX11_length_84 : decode cX11_length 84 = .ok (.aload_n 0, 1) := by decide +kernel
theorem dX11_length_85 : decode cX11_length 85 = .ok (.getfield 23, 3) := by decide +kernel
theorem dX11_length_88 : decode cX11_length 88 = .ok (.iload_n 1, 1) := by decide +kernel
theorem dX11_length_89 : decode cX11_length 89 = .ok (.invokevirtual 113, 3) := by decide +kernel
theorem dX11_length_92 : decode cX11_length 92 = .ok (.i2l, 1) := by decide +kernel
theorem dX11_length_93 : decode cX11_length 93 = .ok (.lreturn, 1) := by decide +kernel
theorem dX11_length_94 : decode cX11_length 94 = .ok (.iload_n 3, 1) := by decide +kernel
theorem dX11_length_95 : decode cX11_length 95 = .ok (.ifCond .eq 9, 3) := by decide +kernel
theorem dX11_length_98 : decode cX11_length 98 = .ok (.ldc2_w 87, 3) := by decide +kernel
theorem dX11_length_101 : decode cX11_length 101 = .ok (.goto 14, 3) := by decide +kernel
theorem dX11_length_104 : decode cX11_length 104 = .ok (.aload_n 0, 1) := by decide +kernel
theorem dX11_length_105 : decode cX11_length 105 = .ok (.getfield 23, 3) := by decide +kernel
theorem dX11_length_108 : decode cX11_length 108 = .ok (.iload_n 1, 1) := by decide +kernel
theorem dX11_length_109 : decode cX11_length 109 = .ok (.invokevirtual 116, 3) := by decide +kernel
theorem dX11_length_112 : decode cX11_length 112 = .ok (.getfield 120, 3) := by decide +kernel
theorem dX11_length_115 : decode cX11_length 115 = .ok (.lreturn, 1) := by decide +kernel
theorem dX11_length_116 : decode cX11_length 116 = .ok (.iload_n 3, 1) := by decide +kernel
theorem dX11_length_117 : decode cX11_length 117 = .ok (.ifCond .eq 9, 3) := by decide +kernel
theorem dX11_length_120 : decode cX11_length 120 = .ok (.ldc2_w 87, 3) := by decide +kernel
theorem dX11_length_123 : decode cX11_length 123 = .ok (.goto 14, 3) := by decide +kernel
theorem dX11_length_126 : decode cX11_length 126 = .ok (.aload_n 0, 1) := by decide +kernel
theorem dX11_length_127 : decode cX11_length 127 = .ok (.getfield 23, 3) := by decide +kernel
theorem dX11_length_130 : decode cX11_length 130 = .ok (.iload_n 1, 1) := by decide +kernel
theorem dX11_length_131 : decode cX11_length 131 = .ok (.invokevirtual 116, 3) := by decide +kernel
theorem dX11_length_134 : decode cX11_length 134 = .ok (.getfield 126, 3) := by decide +kernel
theorem dX11_length_137 : decode cX11_length 137 = .ok (.lreturn, 1) := by decide +kernel
theorem dX11_length_138 : decode cX11_length 138 = .ok (.aload_n 0, 1) := by decide +kernel
theorem dX11_length_139 : decode cX11_length 139 = .ok (.getfield 23, 3) := by decide +kernel
theorem dX11_length_142 : decode cX11_length 142 = .ok (.iload_n 1, 1) := by decide +kernel
theorem dX11_length_143 : decode cX11_length 143 = .ok (.invokevirtual 116, 3) := by decide +kernel
theorem dX11_length_146 : decode cX11_length 146 = .ok (.getfield 129, 3) := by decide +kernel
theorem dX11_length_149 : decode cX11_length 149 = .ok (.i2l, 1) := by decide +kernel
theorem dX11_length_150 : decode cX11_length 150 = .ok (.lreturn, 1) := by decide +kernel
theorem dX11_extreme_0 : decode cX11_extreme 0 = .ok (.iload_n 1, 1) := by decide +kernel
theorem dX11_extreme_1 : decode cX11_extreme 1 = .ok (.iconst 1, 1) := by decide +kernel
theorem dX11_extreme_2 : decode cX11_extreme 2 = .ok (.bipush 8, 2) := by decide +kernel
theorem dX11_extreme_4 : decode cX11_extreme 4 = .ok (.invokestatic 55, 3) := by decide +kernel
theorem dX11_extreme_7 : decode cX11_extreme 7 = .ok (.ifCond .eq 23, 3) := by decide +kernel
theorem dX11_extreme_10 : decode cX11_extreme 10 = .ok (.iload_n 2, 1) := by decide +kernel
theorem dX11_extreme_11 : decode cX11_extreme 11 = .ok (.iconst 0, 1) := by decide +kernel
theorem dX11_extreme_12 : decode cX11_extreme 12 = .ok (.iconst 1, 1) := by decide +kernel
theorem dX11_extreme_13 : decode cX11_extreme 13 = .ok (.invokestatic 55, 3) := by decide +kernel
theorem dX11_extreme_16 : decode cX11_extreme 16 = .ok (.ifCond .eq 14, 3) := by decide +kernel
theorem dX11_extreme_19 : decode cX11_extreme 19 = .ok (.iload_n 3, 1) := by decide +kernel
theorem dX11_extreme_20 : decode cX11_extreme 20 = .ok (.iconst 0, 1) := by decide +kernel
theorem dX11_extreme_21 : decode cX11_extreme 21 = .ok (.iload_n 1, 1) := by decide +kernel
theorem dX11_extreme_22 : decode cX11_extreme 22 = .ok (.iconst 1, 1) := by decide +kernel
theorem dX11_extreme_23 : decode cX11_extreme 23 = .ok (.isub, 1) := by decide +kernel
theorem dX11_extreme_24 : decode cX11_extreme 24 = .ok (.invokestatic 55, 3) := by decide +kernel
theorem dX11_extreme_27 : decode cX11_extreme 27 = .ok (.ifCond .ne 6, 3) := by decide +kernel
theorem dX11_extreme_30 : decode cX11_extreme 30 = .ok (.bipush (-2), 2) := by decide +kernel
theorem dX11_extreme_32 : decode cX11_extreme 32 = .ok (.ireturn, 1) := by decide +kernel
theorem dX11_extreme_33 : decode cX11_extreme 33 = .ok (.aload_n 0, 1) := by decide +kernel
theorem dX11_extreme_34 : decode cX11_extreme 34 = .ok (.getfield 23, 3) := by decide +kernel
theorem dX11_extreme_37 : decode cX11_extreme 37 = .ok (.iload_n 1, 1) := by decide +kernel
theorem dX11_extreme_38 : decode cX11_extreme 38 = .ok (.invokevirtual 110, 3) := by decide +kernel
theorem dX11_extreme_41 : decode cX11_extreme 41 = .ok (.ifCond .eq 6, 3) := by decide +kernel
theorem dX11_extreme_44 : decode cX11_extreme 44 = .ok (.bipush (-6), 2) := by decide +kernel
theorem dX11_extreme_46 : decode cX11_extreme 46 = .ok (.ireturn, 1) := by decide +kernel
theorem dX11_extreme_47 : decode cX11_extreme 47 = .ok (.aload_n 0, 1) := by decide +kernel
theorem dX11_extreme_48 : decode cX11_extreme 48 = .ok (.getfield 23, 3) := by decide +kernel
theorem dX11_extreme_51 : decode cX11_extreme 51 = .ok (.iload_n 1, 1) := by decide +kernel
theorem dX11_extreme_52 : decode cX11_extreme 52 = .ok (.invokevirtual 113, 3) := by decide +kernel
theorem dX11_extreme_55 : decode cX11_extreme 55 = .ok (.ifCond .ne 6, 3) := by decide +kernel
theorem dX11_extreme_58 : decode cX11_extreme 58 = .ok (.bipush (-9), 2) := by decide +kernel
theorem dX11_extreme_60 : decode cX11_extreme 60 = .ok (.ireturn, 1) := by decide +kernel
theorem dX11_extreme_61 : decode cX11_extreme 61 = .ok (.aload_n 0, 1) := by decide +kernel
theorem dX11_extreme_62 : decode cX11_extreme 62 = .ok (.getfield 23, 3) := by decide +kernel
theorem dX11_extreme_65 : decode cX11_extreme 65 = .ok (.iload_n 1, 1) := by decide +kernel
theorem dX11_extreme_66 : decode cX11_extreme 66 = .ok (.invokevirtual 116, 3) := by decide +kernel
theorem dX11_extreme_69 : decode cX11_extreme 69 = .ok (.astore 4, 2) := by decide +kernel
theorem dX11_extreme_71 : decode cX11_extreme 71 = .ok (.iload_n 2, 1) := by decide +kernel
theorem dX11_extreme_72 : decode cX11_extreme 72 = .ok (.ifCond .ne 13, 3) := by decide +kernel
theorem dX11_extreme_75 : decode cX11_extreme 75 = .ok (.aload 4, 2) := by decide +kernel
theorem dX11_extreme_77 : decode cX11_extreme 77 = .ok (.getfield 132, 3) := by decide +kernel
theorem dX11_extreme_80 : decode cX11_extreme 80 = .ok (.iload_n 3, 1) := by decide +kernel
theorem dX11_extreme_81 : decode cX11_extreme 81 = .ok (.iaload, 1) := by decide +kernel
theorem dX11_extreme_82 : decode cX11_extreme 82 = .ok (.goto 10, 3) := by decide +kernel
theorem dX11_extreme_85 : decode cX11_extreme 85 = .ok (.aload 4, 2) := by decide +kernel
theorem dX11_extreme_87 : decode cX11_extreme 87 = .ok (.getfield 135, 3) := by decide +kernel
theorem dX11_extreme_90 : decode cX11_extreme 90 = .ok (.iload_n 3, 1) := by decide +kernel
theorem dX11_extreme_91 : decode cX11_extreme 91 = .ok (.iaload, 1) := by decide +kernel
theorem dX11_extreme_92 : decode cX11_extreme 92 = .ok (.ireturn, 1) := by decide +kernel
theorem dX11_rings_0 : decode cX11_rings 0 = .ok (.iload_n 1, 1) := by decide +kernel
theorem dX11_rings_1 : decode cX11_rings 1 = .ok (.iconst 1, 1) := by decide +kernel
theorem dX11_rings_2 : decode cX11_rings 2 = .ok (.bipush 8, 2) := by decide +kernel
theorem dX11_rings_4 : decode cX11_rings 4 = .ok (.invokestatic 55, 3) := by decide +kernel
theorem dX11_rings_7 : decode cX11_rings 7 = .ok (.ifCond .ne 6, 3) := by decide +kernel
theorem dX11_rings_10 : decode cX11_rings 10 = .ok (.bipush (-2), 2) := by decide +kernel
theorem dX11_rings_12 : decode cX11_rings 12 = .ok (.ireturn, 1) := by decide +kernel
theorem dX11_rings_13 : decode cX11_rings 13 = .ok (.aload_n 0, 1) := by decide +kernel
theorem dX11_rings_14 : decode cX11_rings 14 = .ok (.getfield 23, 3) := by decide +kernel
theorem dX11_rings_17 : decode cX11_rings 17 = .ok (.iload_n 1, 1) := by decide +kernel
theorem dX11_rings_18 : decode cX11_rings 18 = .ok (.invokevirtual 110, 3) := by decide +kernel
theorem dX11_rings_21 : decode cX11_rings 21 = .ok (.ifCond .eq 8, 3) := by decide +kernel
theorem dX11_rings_24 : decode cX11_rings 24 = .ok (.bipush (-6), 2) := by decide +kernel
theorem dX11_rings_26 : decode cX11_rings 26 = .ok (.goto 14, 3) := by decide +kernel
theorem dX11_rings_29 : decode cX11_rings 29 = .ok (.aload_n 0, 1) := by decide +kernel
theorem dX11_rings_30 : decode cX11_rings 30 = .ok (.getfield 23, 3) := by decide +kernel
theorem dX11_rings_33 : decode cX11_rings 33 = .ok (.iload_n 1, 1) := by decide +kernel
theorem dX11_rings_34 : decode cX11_rings 34 = .ok (.invokevirtual 116, 3) := by decide +kernel
theorem dX11_rings_37 : decode cX11_rings 37 = .ok (.getfield 138, 3) := by decide +kernel
theorem dX11_rings_40 : decode cX11_rings 40 = .ok (.ireturn, 1) := by decide +kernel
theorem dX11_ringTrack_0 : decode cX11_ringTrack 0 = .ok (.iload_n 1, 1) := by decide +kernel
theorem dX11_ringTrack_1 : decode cX11_ringTrack 1 = .ok (.iconst 1, 1) := by decide +kernel
theorem dX11_ringTrack_2 : decode cX11_ringTrack 2 = .ok (.bipush 8, 2) := by decide +kernel
theorem dX11_ringTrack_4 : decode cX11_ringTrack 4 = .ok (.invokestatic 55, 3) := by decide +kernel
theorem dX11_ringTrack_7 : decode cX11_ringTrack 7 = .ok (.ifCond .eq 14, 3) := by decide +kernel
theorem dX11_ringTrack_10 : decode cX11_ringTrack 10 = .ok (.aload_n 0, 1) := by decide +kernel
theorem dX11_ringTrack_11 : decode cX11_ringTrack 11 = .ok (.getfield 23, 3) := by decide +kernel
theorem dX11_ringTrack_14 : decode cX11_ringTrack 14 = .ok (.iload_n 1, 1) := by decide +kernel
theorem dX11_ringTrack_15 : decode cX11_ringTrack 15 = .ok (.invokevirtual 110, 3) := by decide +kernel
theorem dX11_ringTrack_18 : decode cX11_ringTrack 18 = .ok (.ifCond .eq 7, 3) := by decide +kernel
theorem dX11_ringTrack_21 : decode cX11_ringTrack 21 = .ok (.ldc2_w 87, 3) := by decide +kernel
theorem dX11_ringTrack_24 : decode cX11_ringTrack 24 = .ok (.lreturn, 1) := by decide +kernel
theorem dX11_ringTrack_25 : decode cX11_ringTrack 25 = .ok (.aload_n 0, 1) := by decide +kernel
theorem dX11_ringTrack_26 : decode cX11_ringTrack 26 = .ok (.getfield 23, 3) := by decide +kernel
theorem dX11_ringTrack_29 : decode cX11_ringTrack 29 = .ok (.iload_n 1, 1) := by decide +kernel
theorem dX11_ringTrack_30 : decode cX11_ringTrack 30 = .ok (.invokevirtual 116, 3) := by decide +kernel
theorem dX11_ringTrack_33 : decode cX11_ringTrack 33 = .ok (.astore_n 2, 1) := by decide +kernel
theorem dX11_ringTrack_34 : decode cX11_ringTrack 34 = .ok (.aload_n 2, 1) := by decide +kernel
theorem dX11_ringTrack_35 : decode cX11_ringTrack 35 = .ok (.getfield 138, 3) := by decide +kernel
theorem dX11_ringTrack_38 : decode cX11_ringTrack 38 = .ok (.ifCond .ne 9, 3) := by decide +kernel
theorem dX11_ringTrack_41 : decode cX11_ringTrack 41 = .ok (.ldc2_w 87, 3) := by decide +kernel
theorem dX11_ringTrack_44 : decode cX11_ringTrack 44 = .ok (.goto 7, 3) := by decide +kernel
theorem dX11_ringTrack_47 : decode cX11_ringTrack 47 = .ok (.aload_n 2, 1) := by decide +kernel
theorem dX11_ringTrack_48 : decode cX11_ringTrack 48 = .ok (.getfield 141, 3) := by decide +kernel
theorem dX11_ringTrack_51 : decode cX11_ringTrack 51 = .ok (.lreturn, 1) := by decide +kernel
theorem dX11_ring_0 : decode cX11_ring 0 = .ok (.iload_n 1, 1) := by decide +kernel
theorem dX11_ring_1 : decode cX11_ring 1 = .ok (.iconst 1, 1) := by decide +kernel
theorem dX11_ring_2 : decode cX11_ring 2 = .ok (.bipush 8, 2) := by decide +kernel
theorem dX11_ring_4 : decode cX11_ring 4 = .ok (.invokestatic 55, 3) := by decide +kernel
theorem dX11_ring_7 : decode cX11_ring 7 = .ok (.ifCond .eq 14, 3) := by decide +kernel
theorem dX11_ring_10 : decode cX11_ring 10 = .ok (.iload_n 2, 1) := by decide +kernel
theorem dX11_ring_11 : decode cX11_ring 11 = .ok (.iconst 0, 1) := by decide +kernel
theorem dX11_ring_12 : decode cX11_ring 12 = .ok (.iload_n 1, 1) := by decide +kernel
theorem dX11_ring_13 : decode cX11_ring 13 = .ok (.iconst 1, 1) := by decide +kernel
theorem dX11_ring_14 : decode cX11_ring 14 = .ok (.isub, 1) := by decide +kernel
theorem dX11_ring_15 : decode cX11_ring 15 = .ok (.invokestatic 55, 3) := by decide +kernel
theorem dX11_ring_18 : decode cX11_ring 18 = .ok (.ifCond .ne 6, 3) := by decide +kernel
theorem dX11_ring_21 : decode cX11_ring 21 = .ok (.bipush (-2), 2) := by decide +kernel
theorem dX11_ring_23 : decode cX11_ring 23 = .ok (.ireturn, 1) := by decide +kernel
theorem dX11_ring_24 : decode cX11_ring 24 = .ok (.aload_n 0, 1) := by decide +kernel
theorem dX11_ring_25 : decode cX11_ring 25 = .ok (.getfield 23, 3) := by decide +kernel
theorem dX11_ring_28 : decode cX11_ring 28 = .ok (.iload_n 1, 1) := by decide +kernel
theorem dX11_ring_29 : decode cX11_ring 29 = .ok (.invokevirtual 110, 3) := by decide +kernel
theorem dX11_ring_32 : decode cX11_ring 32 = .ok (.ifCond .eq 6, 3) := by decide +kernel
theorem dX11_ring_35 : decode cX11_ring 35 = .ok (.bipush (-6), 2) := by decide +kernel
theorem dX11_ring_37 : decode cX11_ring 37 = .ok (.ireturn, 1) := by decide +kernel
theorem dX11_ring_38 : decode cX11_ring 38 = .ok (.aload_n 0, 1) := by decide +kernel
theorem dX11_ring_39 : decode cX11_ring 39 = .ok (.getfield 23, 3) := by decide +kernel
theorem dX11_ring_42 : decode cX11_ring 42 = .ok (.iload_n 1, 1) := by decide +kernel
theorem dX11_ring_43 : decode cX11_ring 43 = .ok (.invokevirtual 116, 3) := by decide +kernel
theorem dX11_ring_46 : decode cX11_ring 46 = .ok (.astore_n 3, 1) := by decide +kernel
theorem dX11_ring_47 : decode cX11_ring 47 = .ok (.aload_n 3, 1) := by decide +kernel
theorem dX11_ring_48 : decode cX11_ring 48 = .ok (.getfield 138, 3) := by decide +kernel
theorem dX11_ring_51 : decode cX11_ring 51 = .ok (.ifCond .ne 8, 3) := by decide +kernel
theorem dX11_ring_54 : decode cX11_ring 54 = .ok (.bipush (-9), 2) := by decide +kernel
theorem dX11_ring_56 : decode cX11_ring 56 = .ok (.goto 9, 3) := by decide +kernel
theorem dX11_ring_59 : decode cX11_ring 59 = .ok (.aload_n 3, 1) := by decide +kernel
theorem dX11_ring_60 : decode cX11_ring 60 = .ok (.getfield 144, 3) := by decide +kernel
theorem dX11_ring_63 : decode cX11_ring 63 = .ok (.iload_n 2, 1) := by decide +kernel
theorem dX11_ring_64 : decode cX11_ring 64 = .ok (.iaload, 1) := by decide +kernel
theorem dX11_ring_65 : decode cX11_ring 65 = .ok (.ireturn, 1) := by decide +kernel
theorem dX11_growth_0 : decode cX11_growth 0 = .ok (.iload_n 1, 1) := by decide +kernel
theorem dX11_growth_1 : decode cX11_growth 1 = .ok (.iconst 1, 1) := by decide +kernel
theorem dX11_growth_2 : decode cX11_growth 2 = .ok (.bipush 9, 2) := by decide +kernel
theorem dX11_growth_4 : decode cX11_growth 4 = .ok (.invokestatic 55, 3) := by decide +kernel
theorem dX11_growth_7 : decode cX11_growth 7 = .ok (.ifCond .eq 23, 3) := by decide +kernel
theorem dX11_growth_10 : decode cX11_growth 10 = .ok (.iload_n 2, 1) := by decide +kernel
theorem dX11_growth_11 : decode cX11_growth 11 = .ok (.iconst 1, 1) := by decide +kernel
theorem dX11_growth_12 : decode cX11_growth 12 = .ok (.bipush 9, 2) := by decide +kernel
theorem dX11_growth_14 : decode cX11_growth 14 = .ok (.invokestatic 55, 3) := by decide +kernel
theorem dX11_growth_17 : decode cX11_growth 17 = .ok (.ifCond .eq 13, 3) := by decide +kernel
theorem dX11_growth_20 : decode cX11_growth 20 = .ok (.iload_n 3, 1) := by decide +kernel
theorem dX11_growth_21 : decode cX11_growth 21 = .ok (.iconst 1, 1) := by decide +kernel
theorem dX11_growth_22 : decode cX11_growth 22 = .ok (.bipush 7, 2) := by decide +kernel
theorem dX11_growth_24 : decode cX11_growth 24 = .ok (.invokestatic 55, 3) := by decide +kernel
theorem dX11_growth_27 : decode cX11_growth 27 = .ok (.ifCond .ne 6, 3) := by decide +kernel
theorem dX11_growth_30 : decode cX11_growth 30 = .ok (.bipush (-2), 2) := by decide +kernel
theorem dX11_growth_32 : decode cX11_growth 32 = .ok (.ireturn, 1) := by decide +kernel
theorem dX11_growth_33 : decode cX11_growth 33 = .ok (.aload_n 0, 1) := by decide +kernel
theorem dX11_growth_34 : decode cX11_growth 34 = .ok (.getfield 14, 3) := by decide +kernel
theorem dX11_growth_37 : decode cX11_growth 37 = .ok (.invokevirtual 147, 3) := by decide +kernel
theorem dX11_growth_40 : decode cX11_growth 40 = .ok (.ifCond .gt 13, 3) := by decide +kernel
theorem dX11_growth_43 : decode cX11_growth 43 = .ok (.aload_n 0, 1) := by decide +kernel
theorem dX11_growth_44 : decode cX11_growth 44 = .ok (.getfield 14, 3) := by decide +kernel
theorem dX11_growth_47 : decode cX11_growth 47 = .ok (.invokevirtual 151, 3) := by decide +kernel
theorem dX11_growth_50 : decode cX11_growth 50 = .ok (.ifCond .ne 6, 3) := by decide +kernel
theorem dX11_growth_53 : decode cX11_growth 53 = .ok (.bipush (-3), 2) := by decide +kernel
theorem dX11_growth_55 : decode cX11_growth 55 = .ok (.ireturn, 1) := by decide +kernel
theorem dX11_growth_56 : decode cX11_growth 56 = .ok (.iconst 1, 1) := by decide +kernel
theorem dX11_growth_57 : decode cX11_growth 57 = .ok (.istore 4, 2) := by decide +kernel
theorem dX11_growth_59 : decode cX11_growth 59 = .ok (.iload 4, 2) := by decide +kernel
theorem dX11_growth_61 : decode cX11_growth 61 = .ok (.iload_n 3, 1) := by decide +kernel
theorem dX11_growth_62 : decode cX11_growth 62 = .ok (.if_icmp .gt 24, 3) := by decide +kernel
theorem dX11_growth_65 : decode cX11_growth 65 = .ok (.aload_n 0, 1) := by decide +kernel
theorem dX11_growth_66 : decode cX11_growth 66 = .ok (.getfield 23, 3) := by decide +kernel
theorem dX11_growth_69 : decode cX11_growth 69 = .ok (.iload 4, 2) := by decide +kernel
theorem dX11_growth_71 : decode cX11_growth 71 = .ok (.invokevirtual 110, 3) := by decide +kernel
theorem dX11_growth_74 : decode cX11_growth 74 = .ok (.ifCond .eq 6, 3) := by decide +kernel
theorem dX11_growth_77 : decode cX11_growth 77 = .ok (.bipush (-6), 2) := by decide +kernel
theorem dX11_growth_79 : decode cX11_growth 79 = .ok (.ireturn, 1) := by decide +kernel
theorem dX11_growth_80 : decode cX11_growth 80 = .ok (.iinc 4 1, 3) := by decide +kernel
theorem dX11_growth_83 : decode cX11_growth 83 = .ok (.goto (-24), 3) := by decide +kernel
theorem dX11_growth_86 : decode cX11_growth 86 = .ok (.aload_n 0, 1) := by decide +kernel
theorem dX11_growth_87 : decode cX11_growth 87 = .ok (.getfield 23, 3) := by decide +kernel
theorem dX11_growth_90 : decode cX11_growth 90 = .ok (.iload_n 1, 1) := by decide +kernel
theorem dX11_growth_91 : decode cX11_growth 91 = .ok (.iload_n 2, 1) := by decide +kernel
theorem dX11_growth_92 : decode cX11_growth 92 = .ok (.iload_n 3, 1) := by decide +kernel
theorem dX11_growth_93 : decode cX11_growth 93 = .ok (.invokevirtual 154, 3) := by decide +kernel
end
section
theorem dX11_growth_96 : decode cX11_growth 96 = .ok (.ireturn, 1) := by decide +kernel
theorem dX11_close_0 : decode cX11_close 0 = .ok (.aload_n 0, 1) := by decide +kernel
theorem dX11_close_1 : decode cX11_close 1 = .ok (.getfield 14, 3) := by decide +kernel
theorem dX11_close_4 : decode cX11_close 4 = .ok (.invokevirtual 151, 3) := by decide +kernel
theorem dX11_close_7 : decode cX11_close 7 = .ok (.ifCond .ne 8, 3) := by decide +kernel
theorem dX11_close_10 : decode cX11_close 10 = .ok (.bipush (-3), 2) := by decide +kernel
theorem dX11_close_12 : decode cX11_close 12 = .ok (.goto 10, 3) := by decide +kernel
theorem dX11_close_15 : decode cX11_close 15 = .ok (.aload_n 0, 1) := by decide +kernel
theorem dX11_close_16 : decode cX11_close 16 = .ok (.getfield 30, 3) := by decide +kernel
theorem dX11_close_19 : decode cX11_close 19 = .ok (.invokevirtual 157, 3) := by decide +kernel
theorem dX11_close_22 : decode cX11_close 22 = .ok (.ireturn, 1) := by decide +kernel
theorem dX11_closed_0 : decode cX11_closed 0 = .ok (.iload_n 1, 1) := by decide +kernel
theorem dX11_closed_1 : decode cX11_closed 1 = .ok (.iconst 0, 1) := by decide +kernel
theorem dX11_closed_2 : decode cX11_closed 2 = .ok (.iconst 4, 1) := by decide +kernel
theorem dX11_closed_3 : decode cX11_closed 3 = .ok (.invokestatic 55, 3) := by decide +kernel
theorem dX11_closed_6 : decode cX11_closed 6 = .ok (.ifCond .ne 6, 3) := by decide +kernel
theorem dX11_closed_9 : decode cX11_closed 9 = .ok (.bipush (-2), 2) := by decide +kernel
theorem dX11_closed_11 : decode cX11_closed 11 = .ok (.ireturn, 1) := by decide +kernel
theorem dX11_closed_12 : decode cX11_closed 12 = .ok (.aload_n 0, 1) := by decide +kernel
theorem dX11_closed_13 : decode cX11_closed 13 = .ok (.getfield 30, 3) := by decide +kernel
theorem dX11_closed_16 : decode cX11_closed 16 = .ok (.invokevirtual 160, 3) := by decide +kernel
theorem dX11_closed_19 : decode cX11_closed 19 = .ok (.ifCond .ne 6, 3) := by decide +kernel
theorem dX11_closed_22 : decode cX11_closed 22 = .ok (.bipush (-3), 2) := by decide +kernel
theorem dX11_closed_24 : decode cX11_closed 24 = .ok (.ireturn, 1) := by decide +kernel
theorem dX11_closed_25 : decode cX11_closed 25 = .ok (.iload_n 1, 1) := by decide +kernel
theorem dX11_closed_26 : decode cX11_closed 26 = .ok (.tableswitch 70 0 3 #[30, 38, 54, 62], 30) := by decide +kernel
theorem dX11_closed_56 : decode cX11_closed 56 = .ok (.aload_n 0, 1) := by decide +kernel
theorem dX11_closed_57 : decode cX11_closed 57 = .ok (.getfield 30, 3) := by decide +kernel
theorem dX11_closed_60 : decode cX11_closed 60 = .ok (.getfield 164, 3) := by decide +kernel
theorem dX11_closed_63 : decode cX11_closed 63 = .ok (.ireturn, 1) := by decide +kernel
theorem dX11_closed_64 : decode cX11_closed 64 = .ok (.aload_n 0, 1) := by decide +kernel
theorem dX11_closed_65 : decode cX11_closed 65 = .ok (.getfield 30, 3) := by decide +kernel
theorem dX11_closed_68 : decode cX11_closed 68 = .ok (.getfield 166, 3) := by decide +kernel
theorem dX11_closed_71 : decode cX11_closed 71 = .ok (.ifCond .eq 7, 3) := by decide +kernel
theorem dX11_closed_74 : decode cX11_closed 74 = .ok (.iconst 1, 1) := by decide +kernel
theorem dX11_closed_75 : decode cX11_closed 75 = .ok (.goto 4, 3) := by decide +kernel
theorem dX11_closed_78 : decode cX11_closed 78 = .ok (.iconst 0, 1) := by decide +kernel
theorem dX11_closed_79 : decode cX11_closed 79 = .ok (.ireturn, 1) := by decide +kernel
theorem dX11_closed_80 : decode cX11_closed 80 = .ok (.aload_n 0, 1) := by decide +kernel
theorem dX11_closed_81 : decode cX11_closed 81 = .ok (.getfield 30, 3) := by decide +kernel
theorem dX11_closed_84 : decode cX11_closed 84 = .ok (.getfield 170, 3) := by decide +kernel
theorem dX11_closed_87 : decode cX11_closed 87 = .ok (.ireturn, 1) := by decide +kernel
theorem dX11_closed_88 : decode cX11_closed 88 = .ok (.aload_n 0, 1) := by decide +kernel
theorem dX11_closed_89 : decode cX11_closed 89 = .ok (.getfield 30, 3) := by decide +kernel
theorem dX11_closed_92 : decode cX11_closed 92 = .ok (.getfield 173, 3) := by decide +kernel
theorem dX11_closed_95 : decode cX11_closed 95 = .ok (.ireturn, 1) := by decide +kernel
theorem dX11_closed_96 : decode cX11_closed 96 = .ok (.aload_n 0, 1) := by decide +kernel
theorem dX11_closed_97 : decode cX11_closed 97 = .ok (.getfield 30, 3) := by decide +kernel
theorem dX11_closed_100 : decode cX11_closed 100 = .ok (.invokevirtual 176, 3) := by decide +kernel
theorem dX11_closed_103 : decode cX11_closed 103 = .ok (.ireturn, 1) := by decide +kernel
theorem dX11_product_0 : decode cX11_product 0 = .ok (.aload_n 0, 1) := by decide +kernel
theorem dX11_product_1 : decode cX11_product 1 = .ok (.getfield 30, 3) := by decide +kernel
theorem dX11_product_4 : decode cX11_product 4 = .ok (.iload_n 1, 1) := by decide +kernel
theorem dX11_product_5 : decode cX11_product 5 = .ok (.invokevirtual 179, 3) := by decide +kernel
theorem dX11_product_8 : decode cX11_product 8 = .ok (.ifCond .eq 15, 3) := by decide +kernel
theorem dX11_product_11 : decode cX11_product 11 = .ok (.aload_n 0, 1) := by decide +kernel
theorem dX11_product_12 : decode cX11_product 12 = .ok (.getfield 14, 3) := by decide +kernel
theorem dX11_product_15 : decode cX11_product 15 = .ok (.iload_n 2, 1) := by decide +kernel
theorem dX11_product_16 : decode cX11_product 16 = .ok (.iload_n 3, 1) := by decide +kernel
theorem dX11_product_17 : decode cX11_product 17 = .ok (.invokevirtual 83, 3) := by decide +kernel
theorem dX11_product_20 : decode cX11_product 20 = .ok (.ifCond .ne 7, 3) := by decide +kernel
theorem dX11_product_23 : decode cX11_product 23 = .ok (.ldc2_w 87, 3) := by decide +kernel
theorem dX11_product_26 : decode cX11_product 26 = .ok (.lreturn, 1) := by decide +kernel
theorem dX11_product_27 : decode cX11_product 27 = .ok (.aload_n 0, 1) := by decide +kernel
theorem dX11_product_28 : decode cX11_product 28 = .ok (.getfield 30, 3) := by decide +kernel
theorem dX11_product_31 : decode cX11_product 31 = .ok (.iload_n 1, 1) := by decide +kernel
theorem dX11_product_32 : decode cX11_product 32 = .ok (.aload_n 0, 1) := by decide +kernel
theorem dX11_product_33 : decode cX11_product 33 = .ok (.getfield 14, 3) := by decide +kernel
theorem dX11_product_36 : decode cX11_product 36 = .ok (.iload_n 2, 1) := by decide +kernel
theorem dX11_product_37 : decode cX11_product 37 = .ok (.iload_n 3, 1) := by decide +kernel
theorem dX11_product_38 : decode cX11_product 38 = .ok (.invokevirtual 99, 3) := by decide +kernel
theorem dX11_product_41 : decode cX11_product 41 = .ok (.invokevirtual 180, 3) := by decide +kernel
theorem dX11_product_44 : decode cX11_product 44 = .ok (.lreturn, 1) := by decide +kernel
theorem dX11_times_0 : decode cX11_times 0 = .ok (.aload_n 0, 1) := by decide +kernel
theorem dX11_times_1 : decode cX11_times 1 = .ok (.getfield 30, 3) := by decide +kernel
theorem dX11_times_4 : decode cX11_times 4 = .ok (.iload_n 1, 1) := by decide +kernel
theorem dX11_times_5 : decode cX11_times 5 = .ok (.invokevirtual 179, 3) := by decide +kernel
theorem dX11_times_8 : decode cX11_times 8 = .ok (.ifCond .eq 14, 3) := by decide +kernel
theorem dX11_times_11 : decode cX11_times 11 = .ok (.aload_n 0, 1) := by decide +kernel
theorem dX11_times_12 : decode cX11_times 12 = .ok (.getfield 30, 3) := by decide +kernel
theorem dX11_times_15 : decode cX11_times 15 = .ok (.iload_n 2, 1) := by decide +kernel
theorem dX11_times_16 : decode cX11_times 16 = .ok (.invokevirtual 179, 3) := by decide +kernel
theorem dX11_times_19 : decode cX11_times 19 = .ok (.ifCond .ne 5, 3) := by decide +kernel
theorem dX11_times_22 : decode cX11_times 22 = .ok (.iconst (-1), 1) := by decide +kernel
theorem dX11_times_23 : decode cX11_times 23 = .ok (.ireturn, 1) := by decide +kernel
theorem dX11_times_24 : decode cX11_times 24 = .ok (.aload_n 0, 1) := by decide +kernel
theorem dX11_times_25 : decode cX11_times 25 = .ok (.getfield 30, 3) := by decide +kernel
theorem dX11_times_28 : decode cX11_times 28 = .ok (.iload_n 1, 1) := by decide +kernel
theorem dX11_times_29 : decode cX11_times 29 = .ok (.iload_n 2, 1) := by decide +kernel
theorem dX11_times_30 : decode cX11_times 30 = .ok (.invokevirtual 184, 3) := by decide +kernel
theorem dX11_times_33 : decode cX11_times 33 = .ok (.ireturn, 1) := by decide +kernel
theorem dX11_word_0 : decode cX11_word 0 = .ok (.aload_n 0, 1) := by decide +kernel
theorem dX11_word_1 : decode cX11_word 1 = .ok (.aload_n 0, 1) := by decide +kernel
theorem dX11_word_2 : decode cX11_word 2 = .ok (.iload_n 1, 1) := by decide +kernel
theorem dX11_word_3 : decode cX11_word 3 = .ok (.iload_n 2, 1) := by decide +kernel
theorem dX11_word_4 : decode cX11_word 4 = .ok (.iload_n 3, 1) := by decide +kernel
theorem dX11_word_5 : decode cX11_word 5 = .ok (.iload 4, 2) := by decide +kernel
theorem dX11_word_7 : decode cX11_word 7 = .ok (.invokevirtual 187, 3) := by decide +kernel
theorem dX11_word_10 : decode cX11_word 10 = .ok (.invokevirtual 75, 3) := by decide +kernel
theorem dX11_word_13 : decode cX11_word 13 = .ok (.ireturn, 1) := by decide +kernel
theorem dX11_join_0 : decode cX11_join 0 = .ok (.aload_n 0, 1) := by decide +kernel
theorem dX11_join_1 : decode cX11_join 1 = .ok (.iload_n 1, 1) := by decide +kernel
theorem dX11_join_2 : decode cX11_join 2 = .ok (.invokevirtual 191, 3) := by decide +kernel
theorem dX11_join_5 : decode cX11_join 5 = .ok (.ifCond .eq 11, 3) := by decide +kernel
theorem dX11_join_8 : decode cX11_join 8 = .ok (.aload_n 0, 1) := by decide +kernel
theorem dX11_join_9 : decode cX11_join 9 = .ok (.iload_n 2, 1) := by decide +kernel
theorem dX11_join_10 : decode cX11_join 10 = .ok (.invokevirtual 191, 3) := by decide +kernel
theorem dX11_join_13 : decode cX11_join 13 = .ok (.ifCond .ne 5, 3) := by decide +kernel
theorem dX11_join_16 : decode cX11_join 16 = .ok (.iconst (-1), 1) := by decide +kernel
theorem dX11_join_17 : decode cX11_join 17 = .ok (.ireturn, 1) := by decide +kernel
theorem dX11_join_18 : decode cX11_join 18 = .ok (.aload_n 0, 1) := by decide +kernel
theorem dX11_join_19 : decode cX11_join 19 = .ok (.getfield 36, 3) := by decide +kernel
theorem dX11_join_22 : decode cX11_join 22 = .ok (.iload_n 1, 1) := by decide +kernel
theorem dX11_join_23 : decode cX11_join 23 = .ok (.aaload, 1) := by decide +kernel
theorem dX11_join_24 : decode cX11_join 24 = .ok (.getfield 194, 3) := by decide +kernel
theorem dX11_join_27 : decode cX11_join 27 = .ok (.aload_n 0, 1) := by decide +kernel
theorem dX11_join_28 : decode cX11_join 28 = .ok (.getfield 36, 3) := by decide +kernel
theorem dX11_join_31 : decode cX11_join 31 = .ok (.iload_n 2, 1) := by decide +kernel
theorem dX11_join_32 : decode cX11_join 32 = .ok (.aaload, 1) := by decide +kernel
theorem dX11_join_33 : decode cX11_join 33 = .ok (.getfield 194, 3) := by decide +kernel
theorem dX11_join_36 : decode cX11_join 36 = .ok (.iadd, 1) := by decide +kernel
theorem dX11_join_37 : decode cX11_join 37 = .ok (.bipush 12, 2) := by decide +kernel
theorem dX11_join_39 : decode cX11_join 39 = .ok (.if_icmp .le 6, 3) := by decide +kernel
theorem dX11_join_42 : decode cX11_join 42 = .ok (.bipush (-2), 2) := by decide +kernel
theorem dX11_join_44 : decode cX11_join 44 = .ok (.ireturn, 1) := by decide +kernel
theorem dX11_join_45 : decode cX11_join 45 = .ok (.aload_n 0, 1) := by decide +kernel
theorem dX11_join_46 : decode cX11_join 46 = .ok (.getfield 67, 3) := by decide +kernel
theorem dX11_join_49 : decode cX11_join 49 = .ok (.bipush 10, 2) := by decide +kernel
theorem dX11_join_51 : decode cX11_join 51 = .ok (.if_icmp .lt 6, 3) := by decide +kernel
theorem dX11_join_54 : decode cX11_join 54 = .ok (.bipush (-4), 2) := by decide +kernel
theorem dX11_join_56 : decode cX11_join 56 = .ok (.ireturn, 1) := by decide +kernel
theorem dX11_join_57 : decode cX11_join 57 = .ok (.aload_n 0, 1) := by decide +kernel
theorem dX11_join_58 : decode cX11_join 58 = .ok (.getfield 36, 3) := by decide +kernel
theorem dX11_join_61 : decode cX11_join 61 = .ok (.aload_n 0, 1) := by decide +kernel
theorem dX11_join_62 : decode cX11_join 62 = .ok (.getfield 67, 3) := by decide +kernel
theorem dX11_join_65 : decode cX11_join 65 = .ok (.aaload, 1) := by decide +kernel
theorem dX11_join_66 : decode cX11_join 66 = .ok (.astore_n 3, 1) := by decide +kernel
theorem dX11_join_67 : decode cX11_join 67 = .ok (.aload_n 3, 1) := by decide +kernel
theorem dX11_join_68 : decode cX11_join 68 = .ok (.invokevirtual 197, 3) := by decide +kernel
theorem dX11_join_71 : decode cX11_join 71 = .ok (.aload_n 3, 1) := by decide +kernel
theorem dX11_join_72 : decode cX11_join 72 = .ok (.aload_n 0, 1) := by decide +kernel
theorem dX11_join_73 : decode cX11_join 73 = .ok (.getfield 36, 3) := by decide +kernel
theorem dX11_join_76 : decode cX11_join 76 = .ok (.iload_n 1, 1) := by decide +kernel
theorem dX11_join_77 : decode cX11_join 77 = .ok (.aaload, 1) := by decide +kernel
theorem dX11_join_78 : decode cX11_join 78 = .ok (.invokevirtual 200, 3) := by decide +kernel
theorem dX11_join_81 : decode cX11_join 81 = .ok (.aload_n 3, 1) := by decide +kernel
theorem dX11_join_82 : decode cX11_join 82 = .ok (.aload_n 0, 1) := by decide +kernel
theorem dX11_join_83 : decode cX11_join 83 = .ok (.getfield 36, 3) := by decide +kernel
theorem dX11_join_86 : decode cX11_join 86 = .ok (.iload_n 2, 1) := by decide +kernel
theorem dX11_join_87 : decode cX11_join 87 = .ok (.aaload, 1) := by decide +kernel
theorem dX11_join_88 : decode cX11_join 88 = .ok (.invokevirtual 200, 3) := by decide +kernel
theorem dX11_join_91 : decode cX11_join 91 = .ok (.aload_n 0, 1) := by decide +kernel
theorem dX11_join_92 : decode cX11_join 92 = .ok (.invokevirtual 204, 3) := by decide +kernel
theorem dX11_join_95 : decode cX11_join 95 = .ok (.ireturn, 1) := by decide +kernel
theorem dX11_letter_0 : decode cX11_letter 0 = .ok (.aload_n 0, 1) := by decide +kernel
theorem dX11_letter_1 : decode cX11_letter 1 = .ok (.iload_n 1, 1) := by decide +kernel
theorem dX11_letter_2 : decode cX11_letter 2 = .ok (.invokevirtual 191, 3) := by decide +kernel
theorem dX11_letter_5 : decode cX11_letter 5 = .ok (.ifCond .eq 22, 3) := by decide +kernel
theorem dX11_letter_8 : decode cX11_letter 8 = .ok (.iload_n 2, 1) := by decide +kernel
theorem dX11_letter_9 : decode cX11_letter 9 = .ok (.iconst 0, 1) := by decide +kernel
theorem dX11_letter_10 : decode cX11_letter 10 = .ok (.aload_n 0, 1) := by decide +kernel
theorem dX11_letter_11 : decode cX11_letter 11 = .ok (.getfield 36, 3) := by decide +kernel
theorem dX11_letter_14 : decode cX11_letter 14 = .ok (.iload_n 1, 1) := by decide +kernel
theorem dX11_letter_15 : decode cX11_letter 15 = .ok (.aaload, 1) := by decide +kernel
theorem dX11_letter_16 : decode cX11_letter 16 = .ok (.getfield 194, 3) := by decide +kernel
theorem dX11_letter_19 : decode cX11_letter 19 = .ok (.iconst 1, 1) := by decide +kernel
theorem dX11_letter_20 : decode cX11_letter 20 = .ok (.isub, 1) := by decide +kernel
theorem dX11_letter_21 : decode cX11_letter 21 = .ok (.invokestatic 55, 3) := by decide +kernel
theorem dX11_letter_24 : decode cX11_letter 24 = .ok (.ifCond .ne 5, 3) := by decide +kernel
theorem dX11_letter_27 : decode cX11_letter 27 = .ok (.iconst (-1), 1) := by decide +kernel
theorem dX11_letter_28 : decode cX11_letter 28 = .ok (.ireturn, 1) := by decide +kernel
theorem dX11_letter_29 : decode cX11_letter 29 = .ok (.aload_n 0, 1) := by decide +kernel
theorem dX11_letter_30 : decode cX11_letter 30 = .ok (.getfield 36, 3) := by decide +kernel
theorem dX11_letter_33 : decode cX11_letter 33 = .ok (.iload_n 1, 1) := by decide +kernel
theorem dX11_letter_34 : decode cX11_letter 34 = .ok (.aaload, 1) := by decide +kernel
theorem dX11_letter_35 : decode cX11_letter 35 = .ok (.getfield 207, 3) := by decide +kernel
theorem dX11_letter_38 : decode cX11_letter 38 = .ok (.iload_n 2, 1) := by decide +kernel
theorem dX11_letter_39 : decode cX11_letter 39 = .ok (.iaload, 1) := by decide +kernel
theorem dX11_letter_40 : decode cX11_letter 40 = .ok (.ireturn, 1) := by decide +kernel
theorem dX11_about_0 : decode cX11_about 0 = .ok (.aload_n 0, 1) := by decide +kernel
theorem dX11_about_1 : decode cX11_about 1 = .ok (.iload_n 1, 1) := by decide +kernel
theorem dX11_about_2 : decode cX11_about 2 = .ok (.invokevirtual 191, 3) := by decide +kernel
theorem dX11_about_5 : decode cX11_about 5 = .ok (.ifCond .ne 5, 3) := by decide +kernel
theorem dX11_about_8 : decode cX11_about 8 = .ok (.iconst (-1), 1) := by decide +kernel
theorem dX11_about_9 : decode cX11_about 9 = .ok (.ireturn, 1) := by decide +kernel
theorem dX11_about_10 : decode cX11_about 10 = .ok (.aload_n 0, 1) := by decide +kernel
theorem dX11_about_11 : decode cX11_about 11 = .ok (.getfield 36, 3) := by decide +kernel
theorem dX11_about_14 : decode cX11_about 14 = .ok (.iload_n 1, 1) := by decide +kernel
theorem dX11_about_15 : decode cX11_about 15 = .ok (.aaload, 1) := by decide +kernel
theorem dX11_about_16 : decode cX11_about 16 = .ok (.astore_n 3, 1) := by decide +kernel
theorem dX11_about_17 : decode cX11_about 17 = .ok (.iload_n 2, 1) := by decide +kernel
theorem dX11_about_18 : decode cX11_about 18 = .ok (.tableswitch 85 0 3 #[30, 35, 59, 73], 30) := by decide +kernel
theorem dX11_about_48 : decode cX11_about 48 = .ok (.aload_n 3, 1) := by decide +kernel
theorem dX11_about_49 : decode cX11_about 49 = .ok (.getfield 194, 3) := by decide +kernel
theorem dX11_about_52 : decode cX11_about 52 = .ok (.ireturn, 1) := by decide +kernel
theorem dX11_about_53 : decode cX11_about 53 = .ok (.aload_n 0, 1) := by decide +kernel
theorem dX11_about_54 : decode cX11_about 54 = .ok (.getfield 14, 3) := by decide +kernel
theorem dX11_about_57 : decode cX11_about 57 = .ok (.aload_n 3, 1) := by decide +kernel
theorem dX11_about_58 : decode cX11_about 58 = .ok (.getfield 207, 3) := by decide +kernel
theorem dX11_about_61 : decode cX11_about 61 = .ok (.aload_n 3, 1) := by decide +kernel
theorem dX11_about_62 : decode cX11_about 62 = .ok (.getfield 194, 3) := by decide +kernel
theorem dX11_about_65 : decode cX11_about 65 = .ok (.invokevirtual 210, 3) := by decide +kernel
theorem dX11_about_68 : decode cX11_about 68 = .ok (.ifCond .eq 7, 3) := by decide +kernel
theorem dX11_about_71 : decode cX11_about 71 = .ok (.iconst 1, 1) := by decide +kernel
theorem dX11_about_72 : decode cX11_about 72 = .ok (.goto 4, 3) := by decide +kernel
theorem dX11_about_75 : decode cX11_about 75 = .ok (.iconst 0, 1) := by decide +kernel
theorem dX11_about_76 : decode cX11_about 76 = .ok (.ireturn, 1) := by decide +kernel
theorem dX11_about_77 : decode cX11_about 77 = .ok (.aload_n 0, 1) := by decide +kernel
theorem dX11_about_78 : decode cX11_about 78 = .ok (.aload_n 3, 1) := by decide +kernel
theorem dX11_about_79 : decode cX11_about 79 = .ok (.invokevirtual 214, 3) := by decide +kernel
theorem dX11_about_82 : decode cX11_about 82 = .ok (.ifCond .eq 7, 3) := by decide +kernel
theorem dX11_about_85 : decode cX11_about 85 = .ok (.iconst 1, 1) := by decide +kernel
theorem dX11_about_86 : decode cX11_about 86 = .ok (.goto 4, 3) := by decide +kernel
theorem dX11_about_89 : decode cX11_about 89 = .ok (.iconst 0, 1) := by decide +kernel
theorem dX11_about_90 : decode cX11_about 90 = .ok (.ireturn, 1) := by decide +kernel
theorem dX11_about_91 : decode cX11_about 91 = .ok (.aload_n 3, 1) := by decide +kernel
theorem dX11_about_92 : decode cX11_about 92 = .ok (.getfield 207, 3) := by decide +kernel
theorem dX11_about_95 : decode cX11_about 95 = .ok (.aload_n 3, 1) := by decide +kernel
theorem dX11_about_96 : decode cX11_about 96 = .ok (.getfield 194, 3) := by decide +kernel
theorem dX11_about_99 : decode cX11_about 99 = .ok (.invokestatic 218, 3) := by decide +kernel
theorem dX11_about_102 : decode cX11_about 102 = .ok (.ireturn, 1) := by decide +kernel
theorem dX11_about_103 : decode cX11_about 103 = .ok (.bipush (-2), 2) := by decide +kernel
theorem dX11_about_105 : decode cX11_about 105 = .ok (.ireturn, 1) := by decide +kernel
theorem dX11_entryOf_0 : decode cX11_entryOf 0 = .ok (.aload_n 0, 1) := by decide +kernel
theorem dX11_entryOf_1 : decode cX11_entryOf 1 = .ok (.iload_n 1, 1) := by decide +kernel
theorem dX11_entryOf_2 : decode cX11_entryOf 2 = .ok (.invokevirtual 191, 3) := by decide +kernel
theorem dX11_entryOf_5 : decode cX11_entryOf 5 = .ok (.ifCond .eq 15, 3) := by decide +kernel
theorem dX11_entryOf_8 : decode cX11_entryOf 8 = .ok (.aload_n 0, 1) := by decide +kernel
theorem dX11_entryOf_9 : decode cX11_entryOf 9 = .ok (.getfield 14, 3) := by decide +kernel
theorem dX11_entryOf_12 : decode cX11_entryOf 12 = .ok (.iload_n 2, 1) := by decide +kernel
theorem dX11_entryOf_13 : decode cX11_entryOf 13 = .ok (.iload_n 3, 1) := by decide +kernel
theorem dX11_entryOf_14 : decode cX11_entryOf 14 = .ok (.invokevirtual 83, 3) := by decide +kernel
theorem dX11_entryOf_17 : decode cX11_entryOf 17 = .ok (.ifCond .ne 7, 3) := by decide +kernel
theorem dX11_entryOf_20 : decode cX11_entryOf 20 = .ok (.ldc2_w 87, 3) := by decide +kernel
theorem dX11_entryOf_23 : decode cX11_entryOf 23 = .ok (.lreturn, 1) := by decide +kernel
theorem dX11_entryOf_24 : decode cX11_entryOf 24 = .ok (.aload_n 0, 1) := by decide +kernel
theorem dX11_entryOf_25 : decode cX11_entryOf 25 = .ok (.getfield 36, 3) := by decide +kernel
theorem dX11_entryOf_28 : decode cX11_entryOf 28 = .ok (.iload_n 1, 1) := by decide +kernel
theorem dX11_entryOf_29 : decode cX11_entryOf 29 = .ok (.aaload, 1) := by decide +kernel
theorem dX11_entryOf_30 : decode cX11_entryOf 30 = .ok (.getfield 224, 3) := by decide +kernel
theorem dX11_entryOf_33 : decode cX11_entryOf 33 = .ok (.aload_n 0, 1) := by decide +kernel
theorem dX11_entryOf_34 : decode cX11_entryOf 34 = .ok (.getfield 14, 3) := by decide +kernel
theorem dX11_entryOf_37 : decode cX11_entryOf 37 = .ok (.iload_n 2, 1) := by decide +kernel
theorem dX11_entryOf_38 : decode cX11_entryOf 38 = .ok (.iload_n 3, 1) := by decide +kernel
theorem dX11_entryOf_39 : decode cX11_entryOf 39 = .ok (.invokevirtual 99, 3) := by decide +kernel
theorem dX11_entryOf_42 : decode cX11_entryOf 42 = .ok (.laload, 1) := by decide +kernel
theorem dX11_entryOf_43 : decode cX11_entryOf 43 = .ok (.lreturn, 1) := by decide +kernel
theorem dX11_size_0 : decode cX11_size 0 = .ok (.aload_n 0, 1) := by decide +kernel
theorem dX11_size_1 : decode cX11_size 1 = .ok (.iload_n 1, 1) := by decide +kernel
theorem dX11_size_2 : decode cX11_size 2 = .ok (.invokevirtual 191, 3) := by decide +kernel
theorem dX11_size_5 : decode cX11_size 5 = .ok (.ifCond .eq 12, 3) := by decide +kernel
theorem dX11_size_8 : decode cX11_size 8 = .ok (.iload_n 2, 1) := by decide +kernel
theorem dX11_size_9 : decode cX11_size 9 = .ok (.iconst 0, 1) := by decide +kernel
theorem dX11_size_10 : decode cX11_size 10 = .ok (.iconst 1, 1) := by decide +kernel
theorem dX11_size_11 : decode cX11_size 11 = .ok (.invokestatic 55, 3) := by decide +kernel
theorem dX11_size_14 : decode cX11_size 14 = .ok (.ifCond .ne 7, 3) := by decide +kernel
theorem dX11_size_17 : decode cX11_size 17 = .ok (.ldc2_w 87, 3) := by decide +kernel
theorem dX11_size_20 : decode cX11_size 20 = .ok (.lreturn, 1) := by decide +kernel
theorem dX11_size_21 : decode cX11_size 21 = .ok (.iload_n 2, 1) := by decide +kernel
theorem dX11_size_22 : decode cX11_size 22 = .ok (.ifCond .ne 22, 3) := by decide +kernel
theorem dX11_size_25 : decode cX11_size 25 = .ok (.aload_n 0, 1) := by decide +kernel
theorem dX11_size_26 : decode cX11_size 26 = .ok (.getfield 14, 3) := by decide +kernel
theorem dX11_size_29 : decode cX11_size 29 = .ok (.aload_n 0, 1) := by decide +kernel
theorem dX11_size_30 : decode cX11_size 30 = .ok (.getfield 36, 3) := by decide +kernel
theorem dX11_size_33 : decode cX11_size 33 = .ok (.iload_n 1, 1) := by decide +kernel
theorem dX11_size_34 : decode cX11_size 34 = .ok (.aaload, 1) := by decide +kernel
theorem dX11_size_35 : decode cX11_size 35 = .ok (.getfield 224, 3) := by decide +kernel
theorem dX11_size_38 : decode cX11_size 38 = .ok (.invokevirtual 228, 3) := by decide +kernel
theorem dX11_size_41 : decode cX11_size 41 = .ok (.goto 19, 3) := by decide +kernel
theorem dX11_size_44 : decode cX11_size 44 = .ok (.aload_n 0, 1) := by decide +kernel
theorem dX11_size_45 : decode cX11_size 45 = .ok (.getfield 14, 3) := by decide +kernel
theorem dX11_size_48 : decode cX11_size 48 = .ok (.aload_n 0, 1) := by decide +kernel
theorem dX11_size_49 : decode cX11_size 49 = .ok (.getfield 36, 3) := by decide +kernel
theorem dX11_size_52 : decode cX11_size 52 = .ok (.iload_n 1, 1) := by decide +kernel
theorem dX11_size_53 : decode cX11_size 53 = .ok (.aaload, 1) := by decide +kernel
theorem dX11_size_54 : decode cX11_size 54 = .ok (.getfield 224, 3) := by decide +kernel
theorem dX11_size_57 : decode cX11_size 57 = .ok (.invokevirtual 232, 3) := by decide +kernel
theorem dX11_size_60 : decode cX11_size 60 = .ok (.lreturn, 1) := by decide +kernel
theorem dX11_sheet_0 : decode cX11_sheet 0 = .ok (.aload_n 0, 1) := by decide +kernel
theorem dX11_sheet_1 : decode cX11_sheet 1 = .ok (.aload_n 0, 1) := by decide +kernel
theorem dX11_sheet_2 : decode cX11_sheet 2 = .ok (.iload_n 1, 1) := by decide +kernel
theorem dX11_sheet_3 : decode cX11_sheet 3 = .ok (.iload_n 2, 1) := by decide +kernel
theorem dX11_sheet_4 : decode cX11_sheet 4 = .ok (.iload_n 3, 1) := by decide +kernel
theorem dX11_sheet_5 : decode cX11_sheet 5 = .ok (.invokevirtual 235, 3) := by decide +kernel
theorem dX11_sheet_8 : decode cX11_sheet 8 = .ok (.invokevirtual 75, 3) := by decide +kernel
theorem dX11_sheet_11 : decode cX11_sheet 11 = .ok (.ireturn, 1) := by decide +kernel
theorem dX11_lose_0 : decode cX11_lose 0 = .ok (.iload_n 1, 1) := by decide +kernel
theorem dX11_lose_1 : decode cX11_lose 1 = .ok (.invokestatic 238, 3) := by decide +kernel
theorem dX11_lose_4 : decode cX11_lose 4 = .ok (.ifCond .ne 5, 3) := by decide +kernel
theorem dX11_lose_7 : decode cX11_lose 7 = .ok (.iconst (-1), 1) := by decide +kernel
theorem dX11_lose_8 : decode cX11_lose 8 = .ok (.ireturn, 1) := by decide +kernel
theorem dX11_lose_9 : decode cX11_lose 9 = .ok (.aload_n 0, 1) := by decide +kernel
theorem dX11_lose_10 : decode cX11_lose 10 = .ok (.getfield 42, 3) := by decide +kernel
theorem dX11_lose_13 : decode cX11_lose 13 = .ok (.iload_n 1, 1) := by decide +kernel
theorem dX11_lose_14 : decode cX11_lose 14 = .ok (.aaload, 1) := by decide +kernel
theorem dX11_lose_15 : decode cX11_lose 15 = .ok (.invokevirtual 241, 3) := by decide +kernel
theorem dX11_lose_18 : decode cX11_lose 18 = .ok (.ifCond .eq 7, 3) := by decide +kernel
theorem dX11_lose_21 : decode cX11_lose 21 = .ok (.iconst 1, 1) := by decide +kernel
theorem dX11_lose_22 : decode cX11_lose 22 = .ok (.goto 4, 3) := by decide +kernel
theorem dX11_lose_25 : decode cX11_lose 25 = .ok (.iconst 0, 1) := by decide +kernel
theorem dX11_lose_26 : decode cX11_lose 26 = .ok (.ireturn, 1) := by decide +kernel
theorem dX11_put_0 : decode cX11_put 0 = .ok (.aload_n 0, 1) := by decide +kernel
theorem dX11_put_1 : decode cX11_put 1 = .ok (.aload_n 0, 1) := by decide +kernel
theorem dX11_put_2 : decode cX11_put 2 = .ok (.iload_n 1, 1) := by decide +kernel
theorem dX11_put_3 : decode cX11_put 3 = .ok (.iload_n 2, 1) := by decide +kernel
theorem dX11_put_4 : decode cX11_put 4 = .ok (.iload_n 3, 1) := by decide +kernel
theorem dX11_put_5 : decode cX11_put 5 = .ok (.invokevirtual 244, 3) := by decide +kernel
theorem dX11_put_8 : decode cX11_put 8 = .ok (.invokevirtual 75, 3) := by decide +kernel
theorem dX11_put_11 : decode cX11_put 11 = .ok (.ireturn, 1) := by decide +kernel
theorem dX11_at_0 : decode cX11_at 0 = .ok (.aload_n 0, 1) := by decide +kernel
theorem dX11_at_1 : decode cX11_at 1 = .ok (.aload_n 0, 1) := by decide +kernel
theorem dX11_at_2 : decode cX11_at 2 = .ok (.iload_n 1, 1) := by decide +kernel
theorem dX11_at_3 : decode cX11_at 3 = .ok (.iload_n 3, 1) := by decide +kernel
theorem dX11_at_4 : decode cX11_at 4 = .ok (.iload_n 2, 1) := by decide +kernel
theorem dX11_at_5 : decode cX11_at 5 = .ok (.iconst 1, 1) := by decide +kernel
theorem dX11_at_6 : decode cX11_at 6 = .ok (.invokevirtual 247, 3) := by decide +kernel
theorem dX11_at_9 : decode cX11_at 9 = .ok (.invokevirtual 75, 3) := by decide +kernel
theorem dX11_at_12 : decode cX11_at 12 = .ok (.istore 4, 2) := by decide +kernel
theorem dX11_at_14 : decode cX11_at 14 = .ok (.iload 4, 2) := by decide +kernel
theorem dX11_at_16 : decode cX11_at 16 = .ok (.iconst 1, 1) := by decide +kernel
theorem dX11_at_17 : decode cX11_at 17 = .ok (.if_icmp .ne 18, 3) := by decide +kernel
theorem dX11_at_20 : decode cX11_at 20 = .ok (.aload_n 0, 1) := by decide +kernel
theorem dX11_at_21 : decode cX11_at 21 = .ok (.getfield 42, 3) := by decide +kernel
theorem dX11_at_24 : decode cX11_at 24 = .ok (.iload_n 1, 1) := by decide +kernel
theorem dX11_at_25 : decode cX11_at 25 = .ok (.aaload, 1) := by decide +kernel
theorem dX11_at_26 : decode cX11_at 26 = .ok (.getfield 250, 3) := by decide +kernel
theorem dX11_at_29 : decode cX11_at 29 = .ok (.iload_n 2, 1) := by decide +kernel
theorem dX11_at_30 : decode cX11_at 30 = .ok (.iaload, 1) := by decide +kernel
theorem dX11_at_31 : decode cX11_at 31 = .ok (.i2l, 1) := by decide +kernel
theorem dX11_at_32 : decode cX11_at 32 = .ok (.goto 6, 3) := by decide +kernel
theorem dX11_at_35 : decode cX11_at 35 = .ok (.ldc2_w 87, 3) := by decide +kernel
theorem dX11_at_38 : decode cX11_at 38 = .ok (.lreturn, 1) := by decide +kernel
theorem dX11_tell_0 : decode cX11_tell 0 = .ok (.aload_n 0, 1) := by decide +kernel
theorem dX11_tell_1 : decode cX11_tell 1 = .ok (.getfield 14, 3) := by decide +kernel
theorem dX11_tell_4 : decode cX11_tell 4 = .ok (.iload_n 1, 1) := by decide +kernel
theorem dX11_tell_5 : decode cX11_tell 5 = .ok (.invokevirtual 79, 3) := by decide +kernel
theorem dX11_tell_8 : decode cX11_tell 8 = .ok (.ifCond .eq 21, 3) := by decide +kernel
theorem dX11_tell_11 : decode cX11_tell 11 = .ok (.aload_n 0, 1) := by decide +kernel
theorem dX11_tell_12 : decode cX11_tell 12 = .ok (.getfield 14, 3) := by decide +kernel
theorem dX11_tell_15 : decode cX11_tell 15 = .ok (.iload_n 1, 1) := by decide +kernel
theorem dX11_tell_16 : decode cX11_tell 16 = .ok (.invokevirtual 89, 3) := by decide +kernel
theorem dX11_tell_19 : decode cX11_tell 19 = .ok (.aload_n 0, 1) := by decide +kernel
theorem dX11_tell_20 : decode cX11_tell 20 = .ok (.getfield 49, 3) := by decide +kernel
theorem dX11_tell_23 : decode cX11_tell 23 = .ok (.invokevirtual 253, 3) := by decide +kernel
theorem dX11_tell_26 : decode cX11_tell 26 = .ok (.goto 4, 3) := by decide +kernel
theorem dX11_tell_29 : decode cX11_tell 29 = .ok (.iconst (-1), 1) := by decide +kernel
theorem dX11_tell_30 : decode cX11_tell 30 = .ok (.ireturn, 1) := by decide +kernel
theorem dX11_weigh_0 : decode cX11_weigh 0 = .ok (.aload_n 0, 1) := by decide +kernel
theorem dX11_weigh_1 : decode cX11_weigh 1 = .ok (.getfield 14, 3) := by decide +kernel
theorem dX11_weigh_4 : decode cX11_weigh 4 = .ok (.iload_n 1, 1) := by decide +kernel
theorem dX11_weigh_5 : decode cX11_weigh 5 = .ok (.invokevirtual 79, 3) := by decide +kernel
theorem dX11_weigh_8 : decode cX11_weigh 8 = .ok (.ifCond .eq 21, 3) := by decide +kernel
theorem dX11_weigh_11 : decode cX11_weigh 11 = .ok (.aload_n 0, 1) := by decide +kernel
theorem dX11_weigh_12 : decode cX11_weigh 12 = .ok (.getfield 14, 3) := by decide +kernel
theorem dX11_weigh_15 : decode cX11_weigh 15 = .ok (.iload_n 1, 1) := by decide +kernel
theorem dX11_weigh_16 : decode cX11_weigh 16 = .ok (.invokevirtual 89, 3) := by decide +kernel
theorem dX11_weigh_19 : decode cX11_weigh 19 = .ok (.aload_n 0, 1) := by decide +kernel
theorem dX11_weigh_20 : decode cX11_weigh 20 = .ok (.getfield 49, 3) := by decide +kernel
theorem dX11_weigh_23 : decode cX11_weigh 23 = .ok (.invokevirtual 257, 3) := by decide +kernel
theorem dX11_weigh_26 : decode cX11_weigh 26 = .ok (.goto 4, 3) := by decide +kernel
theorem dX11_weigh_29 : decode cX11_weigh 29 = .ok (.iconst (-1), 1) := by decide +kernel
theorem dX11_weigh_30 : decode cX11_weigh 30 = .ok (.ireturn, 1) := by decide +kernel
theorem dX11_as_0 : decode cX11_as 0 = .ok (.aload_n 0, 1) := by decide +kernel
theorem dX11_as_1 : decode cX11_as 1 = .ok (.aload_n 0, 1) := by decide +kernel
theorem dX11_as_2 : decode cX11_as 2 = .ok (.iload_n 1, 1) := by decide +kernel
theorem dX11_as_3 : decode cX11_as 3 = .ok (.iload_n 2, 1) := by decide +kernel
theorem dX11_as_4 : decode cX11_as 4 = .ok (.invokevirtual 260, 3) := by decide +kernel
theorem dX11_as_7 : decode cX11_as 7 = .ok (.invokevirtual 75, 3) := by decide +kernel
theorem dX11_as_10 : decode cX11_as 10 = .ok (.ireturn, 1) := by decide +kernel
theorem dX11_history_0 : decode cX11_history 0 = .ok (.aload_n 0, 1) := by decide +kernel
theorem dX11_history_1 : decode cX11_history 1 = .ok (.getfield 49, 3) := by decide +kernel
theorem dX11_history_4 : decode cX11_history 4 = .ok (.getfield 263, 3) := by decide +kernel
theorem dX11_history_7 : decode cX11_history 7 = .ok (.ireturn, 1) := by decide +kernel
theorem dX11_fault_0 : decode cX11_fault 0 = .ok (.aload_n 0, 1) := by decide +kernel
theorem dX11_fault_1 : decode cX11_fault 1 = .ok (.getfield 266, 3) := by decide +kernel
theorem dX11_fault_4 : decode cX11_fault 4 = .ok (.ireturn, 1) := by decide +kernel
theorem dX11_told_0 : decode cX11_told 0 = .ok (.iload_n 1, 1) := by decide +kernel
theorem dX11_told_1 : decode cX11_told 1 = .ok (.tableswitch 72 0 4 #[35, 43, 51, 59, 64], 35) := by decide +kernel
theorem dX11_told_36 : decode cX11_told 36 = .ok (.aload_n 0, 1) := by decide +kernel
theorem dX11_told_37 : decode cX11_told 37 = .ok (.getfield 14, 3) := by decide +kernel
theorem dX11_told_40 : decode cX11_told 40 = .ok (.invokevirtual 151, 3) := by decide +kernel
theorem dX11_told_43 : decode cX11_told 43 = .ok (.ireturn, 1) := by decide +kernel
theorem dX11_told_44 : decode cX11_told 44 = .ok (.aload_n 0, 1) := by decide +kernel
theorem dX11_told_45 : decode cX11_told 45 = .ok (.getfield 14, 3) := by decide +kernel
theorem dX11_told_48 : decode cX11_told 48 = .ok (.invokevirtual 269, 3) := by decide +kernel
theorem dX11_told_51 : decode cX11_told 51 = .ok (.ireturn, 1) := by decide +kernel
theorem dX11_told_52 : decode cX11_told 52 = .ok (.aload_n 0, 1) := by decide +kernel
theorem dX11_told_53 : decode cX11_told 53 = .ok (.getfield 14, 3) := by decide +kernel
theorem dX11_told_56 : decode cX11_told 56 = .ok (.invokevirtual 147, 3) := by decide +kernel
theorem dX11_told_59 : decode cX11_told 59 = .ok (.ireturn, 1) := by decide +kernel
theorem dX11_told_60 : decode cX11_told 60 = .ok (.aload_n 0, 1) := by decide +kernel
theorem dX11_told_61 : decode cX11_told 61 = .ok (.getfield 67, 3) := by decide +kernel
theorem dX11_told_64 : decode cX11_told 64 = .ok (.ireturn, 1) := by decide +kernel
theorem dX11_told_65 : decode cX11_told 65 = .ok (.aload_n 0, 1) := by decide +kernel
theorem dX11_told_66 : decode cX11_told 66 = .ok (.getfield 14, 3) := by decide +kernel
theorem dX11_told_69 : decode cX11_told 69 = .ok (.invokevirtual 272, 3) := by decide +kernel
theorem dX11_told_72 : decode cX11_told 72 = .ok (.ireturn, 1) := by decide +kernel
theorem dX11_told_73 : decode cX11_told 73 = .ok (.bipush (-2), 2) := by decide +kernel
theorem dX11_told_75 : decode cX11_told 75 = .ok (.ireturn, 1) := by decide +kernel
theorem dX11_isWithin_0 : decode cX11_isWithin 0 = .ok (.iload_n 0, 1) := by decide +kernel
end
section
theorem dX11_isWithin_1 : decode cX11_isWithin 1 = .ok (.iload_n 1, 1) := by decide +kernel
theorem dX11_isWithin_2 : decode cX11_isWithin 2 = .ok (.if_icmp .lt 12, 3) := by decide +kernel
theorem dX11_isWithin_5 : decode cX11_isWithin 5 = .ok (.iload_n 0, 1) := by decide +kernel
theorem dX11_isWithin_6 : decode cX11_isWithin 6 = .ok (.iload_n 2, 1) := by decide +kernel
theorem dX11_isWithin_7 : decode cX11_isWithin 7 = .ok (.if_icmp .gt 7, 3) := by decide +kernel
theorem dX11_isWithin_10 : decode cX11_isWithin 10 = .ok (.iconst 1, 1) := by decide +kernel
theorem dX11_isWithin_11 : decode cX11_isWithin 11 = .ok (.goto 4, 3) := by decide +kernel
theorem dX11_isWithin_14 : decode cX11_isWithin 14 = .ok (.iconst 0, 1) := by decide +kernel
theorem dX11_isWithin_15 : decode cX11_isWithin 15 = .ok (.ireturn, 1) := by decide +kernel
theorem dX11_isSheet_0 : decode cX11_isSheet 0 = .ok (.iload_n 0, 1) := by decide +kernel
theorem dX11_isSheet_1 : decode cX11_isSheet 1 = .ok (.iconst 0, 1) := by decide +kernel
theorem dX11_isSheet_2 : decode cX11_isSheet 2 = .ok (.iconst 3, 1) := by decide +kernel
theorem dX11_isSheet_3 : decode cX11_isSheet 3 = .ok (.invokestatic 55, 3) := by decide +kernel
theorem dX11_isSheet_6 : decode cX11_isSheet 6 = .ok (.ireturn, 1) := by decide +kernel
theorem dX11_isLane_0 : decode cX11_isLane 0 = .ok (.iload_n 0, 1) := by decide +kernel
theorem dX11_isLane_1 : decode cX11_isLane 1 = .ok (.iconst 0, 1) := by decide +kernel
theorem dX11_isLane_2 : decode cX11_isLane 2 = .ok (.iconst 2, 1) := by decide +kernel
theorem dX11_isLane_3 : decode cX11_isLane 3 = .ok (.invokestatic 55, 3) := by decide +kernel
theorem dX11_isLane_6 : decode cX11_isLane 6 = .ok (.ireturn, 1) := by decide +kernel
theorem dX11_faultAnswer_0 : decode cX11_faultAnswer 0 = .ok (.bipush (-10), 2) := by decide +kernel
theorem dX11_faultAnswer_2 : decode cX11_faultAnswer 2 = .ok (.iload_n 0, 1) := by decide +kernel
theorem dX11_faultAnswer_3 : decode cX11_faultAnswer 3 = .ok (.isub, 1) := by decide +kernel
theorem dX11_faultAnswer_4 : decode cX11_faultAnswer 4 = .ok (.ireturn, 1) := by decide +kernel
theorem dX11_settle_0 : decode cX11_settle 0 = .ok (.aload_n 0, 1) := by decide +kernel
theorem dX11_settle_1 : decode cX11_settle 1 = .ok (.iload_n 1, 1) := by decide +kernel
theorem dX11_settle_2 : decode cX11_settle 2 = .ok (.bipush (-14), 2) := by decide +kernel
theorem dX11_settle_4 : decode cX11_settle 4 = .ok (.bipush (-11), 2) := by decide +kernel
theorem dX11_settle_6 : decode cX11_settle 6 = .ok (.invokestatic 55, 3) := by decide +kernel
theorem dX11_settle_9 : decode cX11_settle 9 = .ok (.ifCond .eq 10, 3) := by decide +kernel
theorem dX11_settle_12 : decode cX11_settle 12 = .ok (.bipush (-10), 2) := by decide +kernel
theorem dX11_settle_14 : decode cX11_settle 14 = .ok (.iload_n 1, 1) := by decide +kernel
theorem dX11_settle_15 : decode cX11_settle 15 = .ok (.isub, 1) := by decide +kernel
theorem dX11_settle_16 : decode cX11_settle 16 = .ok (.goto 4, 3) := by decide +kernel
theorem dX11_settle_19 : decode cX11_settle 19 = .ok (.iconst 0, 1) := by decide +kernel
theorem dX11_settle_20 : decode cX11_settle 20 = .ok (.putfield 266, 3) := by decide +kernel
theorem dX11_settle_23 : decode cX11_settle 23 = .ok (.iload_n 1, 1) := by decide +kernel
theorem dX11_settle_24 : decode cX11_settle 24 = .ok (.ireturn, 1) := by decide +kernel
theorem dX11_lookAtCells_0 : decode cX11_lookAtCells 0 = .ok (.iload_n 1, 1) := by decide +kernel
theorem dX11_lookAtCells_1 : decode cX11_lookAtCells 1 = .ok (.invokestatic 238, 3) := by decide +kernel
theorem dX11_lookAtCells_4 : decode cX11_lookAtCells 4 = .ok (.ifCond .ne 5, 3) := by decide +kernel
theorem dX11_lookAtCells_7 : decode cX11_lookAtCells 7 = .ok (.iconst (-1), 1) := by decide +kernel
theorem dX11_lookAtCells_8 : decode cX11_lookAtCells 8 = .ok (.ireturn, 1) := by decide +kernel
theorem dX11_lookAtCells_9 : decode cX11_lookAtCells 9 = .ok (.iload_n 2, 1) := by decide +kernel
theorem dX11_lookAtCells_10 : decode cX11_lookAtCells 10 = .ok (.invokestatic 275, 3) := by decide +kernel
theorem dX11_lookAtCells_13 : decode cX11_lookAtCells 13 = .ok (.ifCond .ne 6, 3) := by decide +kernel
theorem dX11_lookAtCells_16 : decode cX11_lookAtCells 16 = .ok (.bipush (-2), 2) := by decide +kernel
theorem dX11_lookAtCells_18 : decode cX11_lookAtCells 18 = .ok (.ireturn, 1) := by decide +kernel
theorem dX11_lookAtCells_19 : decode cX11_lookAtCells 19 = .ok (.aload_n 0, 1) := by decide +kernel
theorem dX11_lookAtCells_20 : decode cX11_lookAtCells 20 = .ok (.getfield 42, 3) := by decide +kernel
theorem dX11_lookAtCells_23 : decode cX11_lookAtCells 23 = .ok (.iload_n 1, 1) := by decide +kernel
theorem dX11_lookAtCells_24 : decode cX11_lookAtCells 24 = .ok (.aaload, 1) := by decide +kernel
theorem dX11_lookAtCells_25 : decode cX11_lookAtCells 25 = .ok (.astore 5, 2) := by decide +kernel
theorem dX11_lookAtCells_27 : decode cX11_lookAtCells 27 = .ok (.aload 5, 2) := by decide +kernel
theorem dX11_lookAtCells_29 : decode cX11_lookAtCells 29 = .ok (.getfield 278, 3) := by decide +kernel
theorem dX11_lookAtCells_32 : decode cX11_lookAtCells 32 = .ok (.ifCond .eq 17, 3) := by decide +kernel
theorem dX11_lookAtCells_35 : decode cX11_lookAtCells 35 = .ok (.aload 5, 2) := by decide +kernel
theorem dX11_lookAtCells_37 : decode cX11_lookAtCells 37 = .ok (.getfield 281, 3) := by decide +kernel
theorem dX11_lookAtCells_40 : decode cX11_lookAtCells 40 = .ok (.iload_n 2, 1) := by decide +kernel
theorem dX11_lookAtCells_41 : decode cX11_lookAtCells 41 = .ok (.if_icmp .eq 8, 3) := by decide +kernel
theorem dX11_lookAtCells_44 : decode cX11_lookAtCells 44 = .ok (.iconst 2, 1) := by decide +kernel
theorem dX11_lookAtCells_45 : decode cX11_lookAtCells 45 = .ok (.invokestatic 284, 3) := by decide +kernel
theorem dX11_lookAtCells_48 : decode cX11_lookAtCells 48 = .ok (.ireturn, 1) := by decide +kernel
theorem dX11_lookAtCells_49 : decode cX11_lookAtCells 49 = .ok (.aload 5, 2) := by decide +kernel
theorem dX11_lookAtCells_51 : decode cX11_lookAtCells 51 = .ok (.getfield 278, 3) := by decide +kernel
theorem dX11_lookAtCells_54 : decode cX11_lookAtCells 54 = .ok (.ifCond .ne 8, 3) := by decide +kernel
theorem dX11_lookAtCells_57 : decode cX11_lookAtCells 57 = .ok (.iconst 1, 1) := by decide +kernel
theorem dX11_lookAtCells_58 : decode cX11_lookAtCells 58 = .ok (.invokestatic 284, 3) := by decide +kernel
theorem dX11_lookAtCells_61 : decode cX11_lookAtCells 61 = .ok (.ireturn, 1) := by decide +kernel
theorem dX11_lookAtCells_62 : decode cX11_lookAtCells 62 = .ok (.iload 4, 2) := by decide +kernel
theorem dX11_lookAtCells_64 : decode cX11_lookAtCells 64 = .ok (.ifCond .ge 8, 3) := by decide +kernel
theorem dX11_lookAtCells_67 : decode cX11_lookAtCells 67 = .ok (.iconst 4, 1) := by decide +kernel
theorem dX11_lookAtCells_68 : decode cX11_lookAtCells 68 = .ok (.invokestatic 284, 3) := by decide +kernel
theorem dX11_lookAtCells_71 : decode cX11_lookAtCells 71 = .ok (.ireturn, 1) := by decide +kernel
theorem dX11_lookAtCells_72 : decode cX11_lookAtCells 72 = .ok (.aload 5, 2) := by decide +kernel
theorem dX11_lookAtCells_74 : decode cX11_lookAtCells 74 = .ok (.iload_n 3, 1) := by decide +kernel
theorem dX11_lookAtCells_75 : decode cX11_lookAtCells 75 = .ok (.iload 4, 2) := by decide +kernel
theorem dX11_lookAtCells_77 : decode cX11_lookAtCells 77 = .ok (.invokevirtual 287, 3) := by decide +kernel
theorem dX11_lookAtCells_80 : decode cX11_lookAtCells 80 = .ok (.ifCond .eq 7, 3) := by decide +kernel
theorem dX11_lookAtCells_83 : decode cX11_lookAtCells 83 = .ok (.iconst 1, 1) := by decide +kernel
theorem dX11_lookAtCells_84 : decode cX11_lookAtCells 84 = .ok (.goto 7, 3) := by decide +kernel
theorem dX11_lookAtCells_87 : decode cX11_lookAtCells 87 = .ok (.iconst 3, 1) := by decide +kernel
theorem dX11_lookAtCells_88 : decode cX11_lookAtCells 88 = .ok (.invokestatic 284, 3) := by decide +kernel
theorem dX11_lookAtCells_91 : decode cX11_lookAtCells 91 = .ok (.ireturn, 1) := by decide +kernel
theorem dX11_addTable_0 : decode cX11_addTable 0 = .ok (.aload_n 0, 1) := by decide +kernel
theorem dX11_addTable_1 : decode cX11_addTable 1 = .ok (.getfield 14, 3) := by decide +kernel
theorem dX11_addTable_4 : decode cX11_addTable 4 = .ok (.invokevirtual 290, 3) := by decide +kernel
theorem dX11_addTable_7 : decode cX11_addTable 7 = .ok (.istore 4, 2) := by decide +kernel
theorem dX11_addTable_9 : decode cX11_addTable 9 = .ok (.aload_n 0, 1) := by decide +kernel
theorem dX11_addTable_10 : decode cX11_addTable 10 = .ok (.iload_n 1, 1) := by decide +kernel
theorem dX11_addTable_11 : decode cX11_addTable 11 = .ok (.iload_n 2, 1) := by decide +kernel
theorem dX11_addTable_12 : decode cX11_addTable 12 = .ok (.iload_n 3, 1) := by decide +kernel
theorem dX11_addTable_13 : decode cX11_addTable 13 = .ok (.iload 4, 2) := by decide +kernel
theorem dX11_addTable_15 : decode cX11_addTable 15 = .ok (.invokevirtual 247, 3) := by decide +kernel
theorem dX11_addTable_18 : decode cX11_addTable 18 = .ok (.istore 5, 2) := by decide +kernel
theorem dX11_addTable_20 : decode cX11_addTable 20 = .ok (.iload 5, 2) := by decide +kernel
theorem dX11_addTable_22 : decode cX11_addTable 22 = .ok (.iconst 1, 1) := by decide +kernel
theorem dX11_addTable_23 : decode cX11_addTable 23 = .ok (.if_icmp .eq 6, 3) := by decide +kernel
theorem dX11_addTable_26 : decode cX11_addTable 26 = .ok (.iload 5, 2) := by decide +kernel
theorem dX11_addTable_28 : decode cX11_addTable 28 = .ok (.ireturn, 1) := by decide +kernel
theorem dX11_addTable_29 : decode cX11_addTable 29 = .ok (.aload_n 0, 1) := by decide +kernel
theorem dX11_addTable_30 : decode cX11_addTable 30 = .ok (.getfield 42, 3) := by decide +kernel
theorem dX11_addTable_33 : decode cX11_addTable 33 = .ok (.iload_n 1, 1) := by decide +kernel
theorem dX11_addTable_34 : decode cX11_addTable 34 = .ok (.aaload, 1) := by decide +kernel
theorem dX11_addTable_35 : decode cX11_addTable 35 = .ok (.getfield 250, 3) := by decide +kernel
theorem dX11_addTable_38 : decode cX11_addTable 38 = .ok (.astore 6, 2) := by decide +kernel
theorem dX11_addTable_40 : decode cX11_addTable 40 = .ok (.iconst 0, 1) := by decide +kernel
theorem dX11_addTable_41 : decode cX11_addTable 41 = .ok (.istore 7, 2) := by decide +kernel
theorem dX11_addTable_43 : decode cX11_addTable 43 = .ok (.iload 7, 2) := by decide +kernel
theorem dX11_addTable_45 : decode cX11_addTable 45 = .ok (.iload 4, 2) := by decide +kernel
theorem dX11_addTable_47 : decode cX11_addTable 47 = .ok (.if_icmp .ge 29, 3) := by decide +kernel
theorem dX11_addTable_50 : decode cX11_addTable 50 = .ok (.aload 6, 2) := by decide +kernel
theorem dX11_addTable_52 : decode cX11_addTable 52 = .ok (.iload_n 3, 1) := by decide +kernel
theorem dX11_addTable_53 : decode cX11_addTable 53 = .ok (.iload 7, 2) := by decide +kernel
theorem dX11_addTable_55 : decode cX11_addTable 55 = .ok (.iadd, 1) := by decide +kernel
theorem dX11_addTable_56 : decode cX11_addTable 56 = .ok (.iaload, 1) := by decide +kernel
theorem dX11_addTable_57 : decode cX11_addTable 57 = .ok (.bipush (-9), 2) := by decide +kernel
theorem dX11_addTable_59 : decode cX11_addTable 59 = .ok (.bipush 9, 2) := by decide +kernel
theorem dX11_addTable_61 : decode cX11_addTable 61 = .ok (.invokestatic 55, 3) := by decide +kernel
theorem dX11_addTable_64 : decode cX11_addTable 64 = .ok (.ifCond .ne 6, 3) := by decide +kernel
theorem dX11_addTable_67 : decode cX11_addTable 67 = .ok (.bipush (-2), 2) := by decide +kernel
theorem dX11_addTable_69 : decode cX11_addTable 69 = .ok (.ireturn, 1) := by decide +kernel
theorem dX11_addTable_70 : decode cX11_addTable 70 = .ok (.iinc 7 1, 3) := by decide +kernel
theorem dX11_addTable_73 : decode cX11_addTable 73 = .ok (.goto (-30), 3) := by decide +kernel
theorem dX11_addTable_76 : decode cX11_addTable 76 = .ok (.aload_n 0, 1) := by decide +kernel
theorem dX11_addTable_77 : decode cX11_addTable 77 = .ok (.getfield 14, 3) := by decide +kernel
theorem dX11_addTable_80 : decode cX11_addTable 80 = .ok (.invokevirtual 151, 3) := by decide +kernel
theorem dX11_addTable_83 : decode cX11_addTable 83 = .ok (.bipush 6, 2) := by decide +kernel
theorem dX11_addTable_85 : decode cX11_addTable 85 = .ok (.if_icmp .lt 6, 3) := by decide +kernel
theorem dX11_addTable_88 : decode cX11_addTable 88 = .ok (.bipush (-4), 2) := by decide +kernel
theorem dX11_addTable_90 : decode cX11_addTable 90 = .ok (.ireturn, 1) := by decide +kernel
theorem dX11_addTable_91 : decode cX11_addTable 91 = .ok (.aload_n 0, 1) := by decide +kernel
theorem dX11_addTable_92 : decode cX11_addTable 92 = .ok (.getfield 23, 3) := by decide +kernel
theorem dX11_addTable_95 : decode cX11_addTable 95 = .ok (.invokevirtual 63, 3) := by decide +kernel
theorem dX11_addTable_98 : decode cX11_addTable 98 = .ok (.aload_n 0, 1) := by decide +kernel
theorem dX11_addTable_99 : decode cX11_addTable 99 = .ok (.getfield 30, 3) := by decide +kernel
theorem dX11_addTable_102 : decode cX11_addTable 102 = .ok (.invokevirtual 66, 3) := by decide +kernel
theorem dX11_addTable_105 : decode cX11_addTable 105 = .ok (.aload_n 0, 1) := by decide +kernel
theorem dX11_addTable_106 : decode cX11_addTable 106 = .ok (.getfield 14, 3) := by decide +kernel
theorem dX11_addTable_109 : decode cX11_addTable 109 = .ok (.aload 6, 2) := by decide +kernel
theorem dX11_addTable_111 : decode cX11_addTable 111 = .ok (.iload_n 3, 1) := by decide +kernel
theorem dX11_addTable_112 : decode cX11_addTable 112 = .ok (.invokevirtual 293, 3) := by decide +kernel
theorem dX11_addTable_115 : decode cX11_addTable 115 = .ok (.ireturn, 1) := by decide +kernel
theorem dX11_keepWord_0 : decode cX11_keepWord 0 = .ok (.aload_n 0, 1) := by decide +kernel
theorem dX11_keepWord_1 : decode cX11_keepWord 1 = .ok (.iload_n 1, 1) := by decide +kernel
theorem dX11_keepWord_2 : decode cX11_keepWord 2 = .ok (.iload_n 2, 1) := by decide +kernel
theorem dX11_keepWord_3 : decode cX11_keepWord 3 = .ok (.iload_n 3, 1) := by decide +kernel
theorem dX11_keepWord_4 : decode cX11_keepWord 4 = .ok (.iload 4, 2) := by decide +kernel
theorem dX11_keepWord_6 : decode cX11_keepWord 6 = .ok (.invokevirtual 247, 3) := by decide +kernel
theorem dX11_keepWord_9 : decode cX11_keepWord 9 = .ok (.istore 5, 2) := by decide +kernel
theorem dX11_keepWord_11 : decode cX11_keepWord 11 = .ok (.iload 5, 2) := by decide +kernel
theorem dX11_keepWord_13 : decode cX11_keepWord 13 = .ok (.iconst 1, 1) := by decide +kernel
theorem dX11_keepWord_14 : decode cX11_keepWord 14 = .ok (.if_icmp .eq 6, 3) := by decide +kernel
theorem dX11_keepWord_17 : decode cX11_keepWord 17 = .ok (.iload 5, 2) := by decide +kernel
theorem dX11_keepWord_19 : decode cX11_keepWord 19 = .ok (.ireturn, 1) := by decide +kernel
theorem dX11_keepWord_20 : decode cX11_keepWord 20 = .ok (.iload 4, 2) := by decide +kernel
theorem dX11_keepWord_22 : decode cX11_keepWord 22 = .ok (.iconst 1, 1) := by decide +kernel
theorem dX11_keepWord_23 : decode cX11_keepWord 23 = .ok (.bipush 12, 2) := by decide +kernel
theorem dX11_keepWord_25 : decode cX11_keepWord 25 = .ok (.invokestatic 55, 3) := by decide +kernel
theorem dX11_keepWord_28 : decode cX11_keepWord 28 = .ok (.ifCond .ne 6, 3) := by decide +kernel
theorem dX11_keepWord_31 : decode cX11_keepWord 31 = .ok (.bipush (-2), 2) := by decide +kernel
theorem dX11_keepWord_33 : decode cX11_keepWord 33 = .ok (.ireturn, 1) := by decide +kernel
theorem dX11_keepWord_34 : decode cX11_keepWord 34 = .ok (.aload_n 0, 1) := by decide +kernel
theorem dX11_keepWord_35 : decode cX11_keepWord 35 = .ok (.getfield 42, 3) := by decide +kernel
theorem dX11_keepWord_38 : decode cX11_keepWord 38 = .ok (.iload_n 1, 1) := by decide +kernel
theorem dX11_keepWord_39 : decode cX11_keepWord 39 = .ok (.aaload, 1) := by decide +kernel
theorem dX11_keepWord_40 : decode cX11_keepWord 40 = .ok (.getfield 250, 3) := by decide +kernel
theorem dX11_keepWord_43 : decode cX11_keepWord 43 = .ok (.astore 6, 2) := by decide +kernel
theorem dX11_keepWord_45 : decode cX11_keepWord 45 = .ok (.iconst 0, 1) := by decide +kernel
theorem dX11_keepWord_46 : decode cX11_keepWord 46 = .ok (.istore 7, 2) := by decide +kernel
theorem dX11_keepWord_48 : decode cX11_keepWord 48 = .ok (.iload 7, 2) := by decide +kernel
theorem dX11_keepWord_50 : decode cX11_keepWord 50 = .ok (.iload 4, 2) := by decide +kernel
theorem dX11_keepWord_52 : decode cX11_keepWord 52 = .ok (.if_icmp .ge 28, 3) := by decide +kernel
theorem dX11_keepWord_55 : decode cX11_keepWord 55 = .ok (.aload_n 0, 1) := by decide +kernel
theorem dX11_keepWord_56 : decode cX11_keepWord 56 = .ok (.getfield 14, 3) := by decide +kernel
theorem dX11_keepWord_59 : decode cX11_keepWord 59 = .ok (.aload 6, 2) := by decide +kernel
theorem dX11_keepWord_61 : decode cX11_keepWord 61 = .ok (.iload_n 3, 1) := by decide +kernel
theorem dX11_keepWord_62 : decode cX11_keepWord 62 = .ok (.iload 7, 2) := by decide +kernel
theorem dX11_keepWord_64 : decode cX11_keepWord 64 = .ok (.iadd, 1) := by decide +kernel
theorem dX11_keepWord_65 : decode cX11_keepWord 65 = .ok (.iaload, 1) := by decide +kernel
theorem dX11_keepWord_66 : decode cX11_keepWord 66 = .ok (.invokevirtual 79, 3) := by decide +kernel
theorem dX11_keepWord_69 : decode cX11_keepWord 69 = .ok (.ifCond .ne 5, 3) := by decide +kernel
theorem dX11_keepWord_72 : decode cX11_keepWord 72 = .ok (.iconst (-1), 1) := by decide +kernel
theorem dX11_keepWord_73 : decode cX11_keepWord 73 = .ok (.ireturn, 1) := by decide +kernel
theorem dX11_keepWord_74 : decode cX11_keepWord 74 = .ok (.iinc 7 1, 3) := by decide +kernel
theorem dX11_keepWord_77 : decode cX11_keepWord 77 = .ok (.goto (-29), 3) := by decide +kernel
theorem dX11_keepWord_80 : decode cX11_keepWord 80 = .ok (.aload_n 0, 1) := by decide +kernel
theorem dX11_keepWord_81 : decode cX11_keepWord 81 = .ok (.getfield 67, 3) := by decide +kernel
theorem dX11_keepWord_84 : decode cX11_keepWord 84 = .ok (.bipush 10, 2) := by decide +kernel
theorem dX11_keepWord_86 : decode cX11_keepWord 86 = .ok (.if_icmp .lt 6, 3) := by decide +kernel
theorem dX11_keepWord_89 : decode cX11_keepWord 89 = .ok (.bipush (-4), 2) := by decide +kernel
theorem dX11_keepWord_91 : decode cX11_keepWord 91 = .ok (.ireturn, 1) := by decide +kernel
theorem dX11_keepWord_92 : decode cX11_keepWord 92 = .ok (.aload_n 0, 1) := by decide +kernel
theorem dX11_keepWord_93 : decode cX11_keepWord 93 = .ok (.getfield 36, 3) := by decide +kernel
theorem dX11_keepWord_96 : decode cX11_keepWord 96 = .ok (.aload_n 0, 1) := by decide +kernel
theorem dX11_keepWord_97 : decode cX11_keepWord 97 = .ok (.getfield 67, 3) := by decide +kernel
theorem dX11_keepWord_100 : decode cX11_keepWord 100 = .ok (.aaload, 1) := by decide +kernel
theorem dX11_keepWord_101 : decode cX11_keepWord 101 = .ok (.astore 7, 2) := by decide +kernel
theorem dX11_keepWord_103 : decode cX11_keepWord 103 = .ok (.aload 7, 2) := by decide +kernel
theorem dX11_keepWord_105 : decode cX11_keepWord 105 = .ok (.invokevirtual 197, 3) := by decide +kernel
theorem dX11_keepWord_108 : decode cX11_keepWord 108 = .ok (.iconst 0, 1) := by decide +kernel
theorem dX11_keepWord_109 : decode cX11_keepWord 109 = .ok (.istore 8, 2) := by decide +kernel
theorem dX11_keepWord_111 : decode cX11_keepWord 111 = .ok (.iload 8, 2) := by decide +kernel
theorem dX11_keepWord_113 : decode cX11_keepWord 113 = .ok (.iload 4, 2) := by decide +kernel
theorem dX11_keepWord_115 : decode cX11_keepWord 115 = .ok (.if_icmp .ge 21, 3) := by decide +kernel
theorem dX11_keepWord_118 : decode cX11_keepWord 118 = .ok (.aload 7, 2) := by decide +kernel
theorem dX11_keepWord_120 : decode cX11_keepWord 120 = .ok (.aload 6, 2) := by decide +kernel
theorem dX11_keepWord_122 : decode cX11_keepWord 122 = .ok (.iload_n 3, 1) := by decide +kernel
theorem dX11_keepWord_123 : decode cX11_keepWord 123 = .ok (.iload 8, 2) := by decide +kernel
theorem dX11_keepWord_125 : decode cX11_keepWord 125 = .ok (.iadd, 1) := by decide +kernel
theorem dX11_keepWord_126 : decode cX11_keepWord 126 = .ok (.iaload, 1) := by decide +kernel
theorem dX11_keepWord_127 : decode cX11_keepWord 127 = .ok (.invokevirtual 296, 3) := by decide +kernel
theorem dX11_keepWord_130 : decode cX11_keepWord 130 = .ok (.iinc 8 1, 3) := by decide +kernel
theorem dX11_keepWord_133 : decode cX11_keepWord 133 = .ok (.goto (-22), 3) := by decide +kernel
theorem dX11_keepWord_136 : decode cX11_keepWord 136 = .ok (.aload_n 0, 1) := by decide +kernel
theorem dX11_keepWord_137 : decode cX11_keepWord 137 = .ok (.invokevirtual 204, 3) := by decide +kernel
theorem dX11_keepWord_140 : decode cX11_keepWord 140 = .ok (.ireturn, 1) := by decide +kernel
theorem dX11_finishWord_0 : decode cX11_finishWord 0 = .ok (.aload_n 0, 1) := by decide +kernel
theorem dX11_finishWord_1 : decode cX11_finishWord 1 = .ok (.getfield 36, 3) := by decide +kernel
theorem dX11_finishWord_4 : decode cX11_finishWord 4 = .ok (.aload_n 0, 1) := by decide +kernel
theorem dX11_finishWord_5 : decode cX11_finishWord 5 = .ok (.getfield 67, 3) := by decide +kernel
theorem dX11_finishWord_8 : decode cX11_finishWord 8 = .ok (.aaload, 1) := by decide +kernel
theorem dX11_finishWord_9 : decode cX11_finishWord 9 = .ok (.astore_n 1, 1) := by decide +kernel
theorem dX11_finishWord_10 : decode cX11_finishWord 10 = .ok (.aload_n 0, 1) := by decide +kernel
theorem dX11_finishWord_11 : decode cX11_finishWord 11 = .ok (.getfield 14, 3) := by decide +kernel
theorem dX11_finishWord_14 : decode cX11_finishWord 14 = .ok (.aload_n 1, 1) := by decide +kernel
theorem dX11_finishWord_15 : decode cX11_finishWord 15 = .ok (.getfield 207, 3) := by decide +kernel
theorem dX11_finishWord_18 : decode cX11_finishWord 18 = .ok (.aload_n 1, 1) := by decide +kernel
theorem dX11_finishWord_19 : decode cX11_finishWord 19 = .ok (.getfield 194, 3) := by decide +kernel
theorem dX11_finishWord_22 : decode cX11_finishWord 22 = .ok (.aload_n 1, 1) := by decide +kernel
theorem dX11_finishWord_23 : decode cX11_finishWord 23 = .ok (.getfield 224, 3) := by decide +kernel
theorem dX11_finishWord_26 : decode cX11_finishWord 26 = .ok (.invokevirtual 300, 3) := by decide +kernel
theorem dX11_finishWord_29 : decode cX11_finishWord 29 = .ok (.aload_n 0, 1) := by decide +kernel
theorem dX11_finishWord_30 : decode cX11_finishWord 30 = .ok (.dup, 1) := by decide +kernel
theorem dX11_finishWord_31 : decode cX11_finishWord 31 = .ok (.getfield 67, 3) := by decide +kernel
theorem dX11_finishWord_34 : decode cX11_finishWord 34 = .ok (.iconst 1, 1) := by decide +kernel
theorem dX11_finishWord_35 : decode cX11_finishWord 35 = .ok (.iadd, 1) := by decide +kernel
theorem dX11_finishWord_36 : decode cX11_finishWord 36 = .ok (.putfield 67, 3) := by decide +kernel
theorem dX11_finishWord_39 : decode cX11_finishWord 39 = .ok (.aload_n 0, 1) := by decide +kernel
theorem dX11_finishWord_40 : decode cX11_finishWord 40 = .ok (.getfield 67, 3) := by decide +kernel
theorem dX11_finishWord_43 : decode cX11_finishWord 43 = .ok (.iconst 1, 1) := by decide +kernel
theorem dX11_finishWord_44 : decode cX11_finishWord 44 = .ok (.isub, 1) := by decide +kernel
theorem dX11_finishWord_45 : decode cX11_finishWord 45 = .ok (.ireturn, 1) := by decide +kernel
theorem dX11_hasWord_0 : decode cX11_hasWord 0 = .ok (.iload_n 1, 1) := by decide +kernel
theorem dX11_hasWord_1 : decode cX11_hasWord 1 = .ok (.iconst 0, 1) := by decide +kernel
theorem dX11_hasWord_2 : decode cX11_hasWord 2 = .ok (.aload_n 0, 1) := by decide +kernel
theorem dX11_hasWord_3 : decode cX11_hasWord 3 = .ok (.getfield 67, 3) := by decide +kernel
theorem dX11_hasWord_6 : decode cX11_hasWord 6 = .ok (.iconst 1, 1) := by decide +kernel
theorem dX11_hasWord_7 : decode cX11_hasWord 7 = .ok (.isub, 1) := by decide +kernel
theorem dX11_hasWord_8 : decode cX11_hasWord 8 = .ok (.invokestatic 55, 3) := by decide +kernel
theorem dX11_hasWord_11 : decode cX11_hasWord 11 = .ok (.ireturn, 1) := by decide +kernel
theorem dX11_isRing_0 : decode cX11_isRing 0 = .ok (.aload_n 0, 1) := by decide +kernel
theorem dX11_isRing_1 : decode cX11_isRing 1 = .ok (.getfield 14, 3) := by decide +kernel
theorem dX11_isRing_4 : decode cX11_isRing 4 = .ok (.aload_n 1, 1) := by decide +kernel
theorem dX11_isRing_5 : decode cX11_isRing 5 = .ok (.getfield 207, 3) := by decide +kernel
theorem dX11_isRing_8 : decode cX11_isRing 8 = .ok (.aload_n 1, 1) := by decide +kernel
theorem dX11_isRing_9 : decode cX11_isRing 9 = .ok (.getfield 194, 3) := by decide +kernel
theorem dX11_isRing_12 : decode cX11_isRing 12 = .ok (.invokevirtual 210, 3) := by decide +kernel
theorem dX11_isRing_15 : decode cX11_isRing 15 = .ok (.ifCond .eq 39, 3) := by decide +kernel
theorem dX11_isRing_18 : decode cX11_isRing 18 = .ok (.aload_n 0, 1) := by decide +kernel
theorem dX11_isRing_19 : decode cX11_isRing 19 = .ok (.getfield 14, 3) := by decide +kernel
theorem dX11_isRing_22 : decode cX11_isRing 22 = .ok (.aload_n 1, 1) := by decide +kernel
theorem dX11_isRing_23 : decode cX11_isRing 23 = .ok (.getfield 207, 3) := by decide +kernel
theorem dX11_isRing_26 : decode cX11_isRing 26 = .ok (.aload_n 1, 1) := by decide +kernel
theorem dX11_isRing_27 : decode cX11_isRing 27 = .ok (.getfield 194, 3) := by decide +kernel
theorem dX11_isRing_30 : decode cX11_isRing 30 = .ok (.invokevirtual 304, 3) := by decide +kernel
theorem dX11_isRing_33 : decode cX11_isRing 33 = .ok (.ifCond .eq 21, 3) := by decide +kernel
theorem dX11_isRing_36 : decode cX11_isRing 36 = .ok (.aload_n 1, 1) := by decide +kernel
theorem dX11_isRing_37 : decode cX11_isRing 37 = .ok (.getfield 207, 3) := by decide +kernel
theorem dX11_isRing_40 : decode cX11_isRing 40 = .ok (.aload_n 1, 1) := by decide +kernel
theorem dX11_isRing_41 : decode cX11_isRing 41 = .ok (.getfield 194, 3) := by decide +kernel
theorem dX11_isRing_44 : decode cX11_isRing 44 = .ok (.invokestatic 307, 3) := by decide +kernel
theorem dX11_isRing_47 : decode cX11_isRing 47 = .ok (.ifCond .eq 7, 3) := by decide +kernel
theorem dX11_isRing_50 : decode cX11_isRing 50 = .ok (.iconst 1, 1) := by decide +kernel
theorem dX11_isRing_51 : decode cX11_isRing 51 = .ok (.goto 4, 3) := by decide +kernel
theorem dX11_isRing_54 : decode cX11_isRing 54 = .ok (.iconst 0, 1) := by decide +kernel
theorem dX11_isRing_55 : decode cX11_isRing 55 = .ok (.ireturn, 1) := by decide +kernel
theorem dX11_renewSheet_0 : decode cX11_renewSheet 0 = .ok (.iload_n 1, 1) := by decide +kernel
theorem dX11_renewSheet_1 : decode cX11_renewSheet 1 = .ok (.invokestatic 238, 3) := by decide +kernel
theorem dX11_renewSheet_4 : decode cX11_renewSheet 4 = .ok (.ifCond .ne 5, 3) := by decide +kernel
theorem dX11_renewSheet_7 : decode cX11_renewSheet 7 = .ok (.iconst (-1), 1) := by decide +kernel
theorem dX11_renewSheet_8 : decode cX11_renewSheet 8 = .ok (.ireturn, 1) := by decide +kernel
theorem dX11_renewSheet_9 : decode cX11_renewSheet 9 = .ok (.iload_n 2, 1) := by decide +kernel
theorem dX11_renewSheet_10 : decode cX11_renewSheet 10 = .ok (.invokestatic 275, 3) := by decide +kernel
theorem dX11_renewSheet_13 : decode cX11_renewSheet 13 = .ok (.ifCond .eq 9, 3) := by decide +kernel
theorem dX11_renewSheet_16 : decode cX11_renewSheet 16 = .ok (.iload_n 3, 1) := by decide +kernel
theorem dX11_renewSheet_17 : decode cX11_renewSheet 17 = .ok (.bipush 40, 2) := by decide +kernel
theorem dX11_renewSheet_19 : decode cX11_renewSheet 19 = .ok (.if_icmp .le 6, 3) := by decide +kernel
theorem dX11_renewSheet_22 : decode cX11_renewSheet 22 = .ok (.bipush (-2), 2) := by decide +kernel
theorem dX11_renewSheet_24 : decode cX11_renewSheet 24 = .ok (.ireturn, 1) := by decide +kernel
theorem dX11_renewSheet_25 : decode cX11_renewSheet 25 = .ok (.iload_n 3, 1) := by decide +kernel
theorem dX11_renewSheet_26 : decode cX11_renewSheet 26 = .ok (.ifCond .ge 8, 3) := by decide +kernel
theorem dX11_renewSheet_29 : decode cX11_renewSheet 29 = .ok (.iconst 4, 1) := by decide +kernel
theorem dX11_renewSheet_30 : decode cX11_renewSheet 30 = .ok (.invokestatic 284, 3) := by decide +kernel
theorem dX11_renewSheet_33 : decode cX11_renewSheet 33 = .ok (.ireturn, 1) := by decide +kernel
theorem dX11_renewSheet_34 : decode cX11_renewSheet 34 = .ok (.aload_n 0, 1) := by decide +kernel
theorem dX11_renewSheet_35 : decode cX11_renewSheet 35 = .ok (.getfield 42, 3) := by decide +kernel
theorem dX11_renewSheet_38 : decode cX11_renewSheet 38 = .ok (.iload_n 1, 1) := by decide +kernel
theorem dX11_renewSheet_39 : decode cX11_renewSheet 39 = .ok (.aaload, 1) := by decide +kernel
theorem dX11_renewSheet_40 : decode cX11_renewSheet 40 = .ok (.iload_n 2, 1) := by decide +kernel
theorem dX11_renewSheet_41 : decode cX11_renewSheet 41 = .ok (.iload_n 3, 1) := by decide +kernel
theorem dX11_renewSheet_42 : decode cX11_renewSheet 42 = .ok (.invokevirtual 310, 3) := by decide +kernel
theorem dX11_renewSheet_45 : decode cX11_renewSheet 45 = .ok (.iconst 1, 1) := by decide +kernel
theorem dX11_renewSheet_46 : decode cX11_renewSheet 46 = .ok (.ireturn, 1) := by decide +kernel
theorem dX11_putCell_0 : decode cX11_putCell 0 = .ok (.iload_n 1, 1) := by decide +kernel
theorem dX11_putCell_1 : decode cX11_putCell 1 = .ok (.invokestatic 238, 3) := by decide +kernel
theorem dX11_putCell_4 : decode cX11_putCell 4 = .ok (.ifCond .ne 5, 3) := by decide +kernel
theorem dX11_putCell_7 : decode cX11_putCell 7 = .ok (.iconst (-1), 1) := by decide +kernel
theorem dX11_putCell_8 : decode cX11_putCell 8 = .ok (.ireturn, 1) := by decide +kernel
theorem dX11_putCell_9 : decode cX11_putCell 9 = .ok (.aload_n 0, 1) := by decide +kernel
theorem dX11_putCell_10 : decode cX11_putCell 10 = .ok (.getfield 42, 3) := by decide +kernel
theorem dX11_putCell_13 : decode cX11_putCell 13 = .ok (.iload_n 1, 1) := by decide +kernel
theorem dX11_putCell_14 : decode cX11_putCell 14 = .ok (.aaload, 1) := by decide +kernel
theorem dX11_putCell_15 : decode cX11_putCell 15 = .ok (.getfield 278, 3) := by decide +kernel
theorem dX11_putCell_18 : decode cX11_putCell 18 = .ok (.ifCond .ne 8, 3) := by decide +kernel
theorem dX11_putCell_21 : decode cX11_putCell 21 = .ok (.iconst 1, 1) := by decide +kernel
theorem dX11_putCell_22 : decode cX11_putCell 22 = .ok (.invokestatic 284, 3) := by decide +kernel
theorem dX11_putCell_25 : decode cX11_putCell 25 = .ok (.ireturn, 1) := by decide +kernel
theorem dX11_putCell_26 : decode cX11_putCell 26 = .ok (.aload_n 0, 1) := by decide +kernel
theorem dX11_putCell_27 : decode cX11_putCell 27 = .ok (.getfield 42, 3) := by decide +kernel
theorem dX11_putCell_30 : decode cX11_putCell 30 = .ok (.iload_n 1, 1) := by decide +kernel
theorem dX11_putCell_31 : decode cX11_putCell 31 = .ok (.aaload, 1) := by decide +kernel
theorem dX11_putCell_32 : decode cX11_putCell 32 = .ok (.iload_n 2, 1) := by decide +kernel
theorem dX11_putCell_33 : decode cX11_putCell 33 = .ok (.iconst 1, 1) := by decide +kernel
theorem dX11_putCell_34 : decode cX11_putCell 34 = .ok (.invokevirtual 287, 3) := by decide +kernel
theorem dX11_putCell_37 : decode cX11_putCell 37 = .ok (.ifCond .ne 8, 3) := by decide +kernel
theorem dX11_putCell_40 : decode cX11_putCell 40 = .ok (.iconst 3, 1) := by decide +kernel
theorem dX11_putCell_41 : decode cX11_putCell 41 = .ok (.invokestatic 284, 3) := by decide +kernel
theorem dX11_putCell_44 : decode cX11_putCell 44 = .ok (.ireturn, 1) := by decide +kernel
theorem dX11_putCell_45 : decode cX11_putCell 45 = .ok (.aload_n 0, 1) := by decide +kernel
theorem dX11_putCell_46 : decode cX11_putCell 46 = .ok (.getfield 42, 3) := by decide +kernel
theorem dX11_putCell_49 : decode cX11_putCell 49 = .ok (.iload_n 1, 1) := by decide +kernel
theorem dX11_putCell_50 : decode cX11_putCell 50 = .ok (.aaload, 1) := by decide +kernel
theorem dX11_putCell_51 : decode cX11_putCell 51 = .ok (.iload_n 2, 1) := by decide +kernel
theorem dX11_putCell_52 : decode cX11_putCell 52 = .ok (.iload_n 3, 1) := by decide +kernel
theorem dX11_putCell_53 : decode cX11_putCell 53 = .ok (.invokevirtual 313, 3) := by decide +kernel
theorem dX11_putCell_56 : decode cX11_putCell 56 = .ok (.iconst 1, 1) := by decide +kernel
theorem dX11_putCell_57 : decode cX11_putCell 57 = .ok (.ireturn, 1) := by decide +kernel
theorem dX11_takeAs_0 : decode cX11_takeAs 0 = .ok (.aload_n 0, 1) := by decide +kernel
theorem dX11_takeAs_1 : decode cX11_takeAs 1 = .ok (.getfield 14, 3) := by decide +kernel
theorem dX11_takeAs_4 : decode cX11_takeAs 4 = .ok (.iload_n 1, 1) := by decide +kernel
theorem dX11_takeAs_5 : decode cX11_takeAs 5 = .ok (.invokevirtual 79, 3) := by decide +kernel
theorem dX11_takeAs_8 : decode cX11_takeAs 8 = .ok (.ifCond .ne 5, 3) := by decide +kernel
theorem dX11_takeAs_11 : decode cX11_takeAs 11 = .ok (.iconst (-1), 1) := by decide +kernel
theorem dX11_takeAs_12 : decode cX11_takeAs 12 = .ok (.ireturn, 1) := by decide +kernel
theorem dX11_takeAs_13 : decode cX11_takeAs 13 = .ok (.iload_n 2, 1) := by decide +kernel
theorem dX11_takeAs_14 : decode cX11_takeAs 14 = .ok (.iconst 0, 1) := by decide +kernel
theorem dX11_takeAs_15 : decode cX11_takeAs 15 = .ok (.iconst 2, 1) := by decide +kernel
theorem dX11_takeAs_16 : decode cX11_takeAs 16 = .ok (.invokestatic 55, 3) := by decide +kernel
theorem dX11_takeAs_19 : decode cX11_takeAs 19 = .ok (.ifCond .ne 6, 3) := by decide +kernel
theorem dX11_takeAs_22 : decode cX11_takeAs 22 = .ok (.bipush (-2), 2) := by decide +kernel
theorem dX11_takeAs_24 : decode cX11_takeAs 24 = .ok (.ireturn, 1) := by decide +kernel
theorem dX11_takeAs_25 : decode cX11_takeAs 25 = .ok (.aload_n 0, 1) := by decide +kernel
theorem dX11_takeAs_26 : decode cX11_takeAs 26 = .ok (.getfield 14, 3) := by decide +kernel
theorem dX11_takeAs_29 : decode cX11_takeAs 29 = .ok (.iload_n 1, 1) := by decide +kernel
theorem dX11_takeAs_30 : decode cX11_takeAs 30 = .ok (.invokevirtual 89, 3) := by decide +kernel
theorem dX11_takeAs_33 : decode cX11_takeAs 33 = .ok (.iload_n 2, 1) := by decide +kernel
theorem dX11_takeAs_34 : decode cX11_takeAs 34 = .ok (.invokevirtual 316, 3) := by decide +kernel
theorem dX11_takeAs_37 : decode cX11_takeAs 37 = .ok (.ifCond .eq 7, 3) := by decide +kernel
theorem dX11_takeAs_40 : decode cX11_takeAs 40 = .ok (.iconst 1, 1) := by decide +kernel
theorem dX11_takeAs_41 : decode cX11_takeAs 41 = .ok (.goto 7, 3) := by decide +kernel
theorem dX11_takeAs_44 : decode cX11_takeAs 44 = .ok (.iconst 2, 1) := by decide +kernel
theorem dX11_takeAs_45 : decode cX11_takeAs 45 = .ok (.invokestatic 284, 3) := by decide +kernel
theorem dX11_takeAs_48 : decode cX11_takeAs 48 = .ok (.ireturn, 1) := by decide +kernel
end
section
theorem dX12_init_0 : decode cX12_init 0 = .ok (.aload_n 0, 1) := by decide +kernel
theorem dX12_init_1 : decode cX12_init 1 = .ok (.invokespecial 1, 3) := by decide +kernel
theorem dX12_init_4 : decode cX12_init 4 = .ok (.aload_n 0, 1) := by decide +kernel
theorem dX12_init_5 : decode cX12_init 5 = .ok (.iconst 2, 1) := by decide +kernel
theorem dX12_init_6 : decode cX12_init 6 = .ok (.putfield 7, 3) := by decide +kernel
theorem dX12_init_9 : decode cX12_init 9 = .ok (.aload_n 0, 1) := by decide +kernel
theorem dX12_init_10 : decode cX12_init 10 = .ok (.bipush 54, 2) := by decide +kernel
theorem dX12_init_12 : decode cX12_init 12 = .ok (.newarray .int, 2) := by decide +kernel
theorem dX12_init_14 : decode cX12_init 14 = .ok (.putfield 13, 3) := by decide +kernel
theorem dX12_init_17 : decode cX12_init 17 = .ok (.aload_n 0, 1) := by decide +kernel
theorem dX12_init_18 : decode cX12_init 18 = .ok (.bipush 36, 2) := by decide +kernel
theorem dX12_init_20 : decode cX12_init 20 = .ok (.newarray .boolean, 2) := by decide +kernel
theorem dX12_init_22 : decode cX12_init 22 = .ok (.putfield 17, 3) := by decide +kernel
theorem dX12_init_25 : decode cX12_init 25 = .ok (.aload_n 0, 1) := by decide +kernel
theorem dX12_init_26 : decode cX12_init 26 = .ok (.iconst 4, 1) := by decide +kernel
theorem dX12_init_27 : decode cX12_init 27 = .ok (.newarray .int, 2) := by decide +kernel
theorem dX12_init_29 : decode cX12_init 29 = .ok (.dup, 1) := by decide +kernel
theorem dX12_init_30 : decode cX12_init 30 = .ok (.iconst 0, 1) := by decide +kernel
theorem dX12_init_31 : decode cX12_init 31 = .ok (.bipush (-9), 2) := by decide +kernel
theorem dX12_init_33 : decode cX12_init 33 = .ok (.iastore, 1) := by decide +kernel
theorem dX12_init_34 : decode cX12_init 34 = .ok (.dup, 1) := by decide +kernel
theorem dX12_init_35 : decode cX12_init 35 = .ok (.iconst 1, 1) := by decide +kernel
theorem dX12_init_36 : decode cX12_init 36 = .ok (.bipush (-9), 2) := by decide +kernel
theorem dX12_init_38 : decode cX12_init 38 = .ok (.iastore, 1) := by decide +kernel
theorem dX12_init_39 : decode cX12_init 39 = .ok (.dup, 1) := by decide +kernel
theorem dX12_init_40 : decode cX12_init 40 = .ok (.iconst 2, 1) := by decide +kernel
theorem dX12_init_41 : decode cX12_init 41 = .ok (.bipush (-9), 2) := by decide +kernel
theorem dX12_init_43 : decode cX12_init 43 = .ok (.iastore, 1) := by decide +kernel
theorem dX12_init_44 : decode cX12_init 44 = .ok (.dup, 1) := by decide +kernel
theorem dX12_init_45 : decode cX12_init 45 = .ok (.iconst 3, 1) := by decide +kernel
theorem dX12_init_46 : decode cX12_init 46 = .ok (.bipush (-9), 2) := by decide +kernel
theorem dX12_init_48 : decode cX12_init 48 = .ok (.iastore, 1) := by decide +kernel
theorem dX12_init_49 : decode cX12_init 49 = .ok (.putfield 21, 3) := by decide +kernel
theorem dX12_init_52 : decode cX12_init 52 = .ok (.aload_n 0, 1) := by decide +kernel
theorem dX12_init_53 : decode cX12_init 53 = .ok (.iconst 4, 1) := by decide +kernel
theorem dX12_init_54 : decode cX12_init 54 = .ok (.newarray .int, 2) := by decide +kernel
theorem dX12_init_56 : decode cX12_init 56 = .ok (.putfield 24, 3) := by decide +kernel
theorem dX12_init_59 : decode cX12_init 59 = .ok (.aload_n 0, 1) := by decide +kernel
theorem dX12_init_60 : decode cX12_init 60 = .ok (.sipush 160, 3) := by decide +kernel
theorem dX12_init_63 : decode cX12_init 63 = .ok (.newarray .int, 2) := by decide +kernel
theorem dX12_init_65 : decode cX12_init 65 = .ok (.putfield 27, 3) := by decide +kernel
theorem dX12_init_68 : decode cX12_init 68 = .ok (.aload_n 0, 1) := by decide +kernel
theorem dX12_init_69 : decode cX12_init 69 = .ok (.bipush 117, 2) := by decide +kernel
theorem dX12_init_71 : decode cX12_init 71 = .ok (.newarray .long, 2) := by decide +kernel
theorem dX12_init_73 : decode cX12_init 73 = .ok (.putfield 30, 3) := by decide +kernel
theorem dX12_init_76 : decode cX12_init 76 = .ok (.aload_n 0, 1) := by decide +kernel
theorem dX12_init_77 : decode cX12_init 77 = .ok (.bipush 13, 2) := by decide +kernel
theorem dX12_init_79 : decode cX12_init 79 = .ok (.newarray .int, 2) := by decide +kernel
theorem dX12_init_81 : decode cX12_init 81 = .ok (.putfield 34, 3) := by decide +kernel
theorem dX12_init_84 : decode cX12_init 84 = .ok (.aload_n 0, 1) := by decide +kernel
theorem dX12_init_85 : decode cX12_init 85 = .ok (.bipush 6, 2) := by decide +kernel
theorem dX12_init_87 : decode cX12_init 87 = .ok (.newarray .long, 2) := by decide +kernel
theorem dX12_init_89 : decode cX12_init 89 = .ok (.putfield 37, 3) := by decide +kernel
theorem dX12_init_92 : decode cX12_init 92 = .ok (.aload_n 0, 1) := by decide +kernel
theorem dX12_init_93 : decode cX12_init 93 = .ok (.bipush 6, 2) := by decide +kernel
theorem dX12_init_95 : decode cX12_init 95 = .ok (.newarray .long, 2) := by decide +kernel
theorem dX12_init_97 : decode cX12_init 97 = .ok (.putfield 40, 3) := by decide +kernel
theorem dX12_init_100 : decode cX12_init 100 = .ok (.aload_n 0, 1) := by decide +kernel
theorem dX12_init_101 : decode cX12_init 101 = .ok (.bipush 12, 2) := by decide +kernel
theorem dX12_init_103 : decode cX12_init 103 = .ok (.newarray .int, 2) := by decide +kernel
theorem dX12_init_105 : decode cX12_init 105 = .ok (.putfield 43, 3) := by decide +kernel
theorem dX12_init_108 : decode cX12_init 108 = .ok (.aload_n 0, 1) := by decide +kernel
theorem dX12_init_109 : decode cX12_init 109 = .ok (.bipush 12, 2) := by decide +kernel
theorem dX12_init_111 : decode cX12_init 111 = .ok (.newarray .int, 2) := by decide +kernel
theorem dX12_init_113 : decode cX12_init 113 = .ok (.putfield 46, 3) := by decide +kernel
theorem dX12_init_116 : decode cX12_init 116 = .ok (.aload_n 0, 1) := by decide +kernel
theorem dX12_init_117 : decode cX12_init 117 = .ok (.bipush 12, 2) := by decide +kernel
theorem dX12_init_119 : decode cX12_init 119 = .ok (.newarray .int, 2) := by decide +kernel
theorem dX12_init_121 : decode cX12_init 121 = .ok (.putfield 49, 3) := by decide +kernel
theorem dX12_init_124 : decode cX12_init 124 = .ok (.aload_n 0, 1) := by decide +kernel
theorem dX12_init_125 : decode cX12_init 125 = .ok (.bipush 12, 2) := by decide +kernel
theorem dX12_init_127 : decode cX12_init 127 = .ok (.newarray .int, 2) := by decide +kernel
theorem dX12_init_129 : decode cX12_init 129 = .ok (.putfield 52, 3) := by decide +kernel
theorem dX12_init_132 : decode cX12_init 132 = .ok (.aload_n 0, 1) := by decide +kernel
theorem dX12_init_133 : decode cX12_init 133 = .ok (.bipush (-9), 2) := by decide +kernel
theorem dX12_init_135 : decode cX12_init 135 = .ok (.putfield 55, 3) := by decide +kernel
theorem dX12_init_138 : decode cX12_init 138 = .ok (.aload_n 0, 1) := by decide +kernel
theorem dX12_init_139 : decode cX12_init 139 = .ok (.sipush 18009, 3) := by decide +kernel
theorem dX12_init_142 : decode cX12_init 142 = .ok (.newarray .long, 2) := by decide +kernel
theorem dX12_init_144 : decode cX12_init 144 = .ok (.putfield 58, 3) := by decide +kernel
theorem dX12_init_147 : decode cX12_init 147 = .ok (.aload_n 0, 1) := by decide +kernel
theorem dX12_init_148 : decode cX12_init 148 = .ok (.sipush 2001, 3) := by decide +kernel
theorem dX12_init_151 : decode cX12_init 151 = .ok (.newarray .int, 2) := by decide +kernel
theorem dX12_init_153 : decode cX12_init 153 = .ok (.putfield 61, 3) := by decide +kernel
theorem dX12_init_156 : decode cX12_init 156 = .ok (.aload_n 0, 1) := by decide +kernel
theorem dX12_init_157 : decode cX12_init 157 = .ok (.sipush 4096, 3) := by decide +kernel
theorem dX12_init_160 : decode cX12_init 160 = .ok (.newarray .int, 2) := by decide +kernel
theorem dX12_init_162 : decode cX12_init 162 = .ok (.putfield 64, 3) := by decide +kernel
theorem dX12_init_165 : decode cX12_init 165 = .ok (.aload_n 0, 1) := by decide +kernel
theorem dX12_init_166 : decode cX12_init 166 = .ok (.sipush 2001, 3) := by decide +kernel
theorem dX12_init_169 : decode cX12_init 169 = .ok (.newarray .int, 2) := by decide +kernel
theorem dX12_init_171 : decode cX12_init 171 = .ok (.putfield 67, 3) := by decide +kernel
theorem dX12_init_174 : decode cX12_init 174 = .ok (.aload_n 0, 1) := by decide +kernel
theorem dX12_init_175 : decode cX12_init 175 = .ok (.bipush 120, 2) := by decide +kernel
theorem dX12_init_177 : decode cX12_init 177 = .ok (.newarray .int, 2) := by decide +kernel
theorem dX12_init_179 : decode cX12_init 179 = .ok (.putfield 70, 3) := by decide +kernel
theorem dX12_init_182 : decode cX12_init 182 = .ok (.aload_n 0, 1) := by decide +kernel
theorem dX12_init_183 : decode cX12_init 183 = .ok (.bipush 10, 2) := by decide +kernel
theorem dX12_init_185 : decode cX12_init 185 = .ok (.newarray .int, 2) := by decide +kernel
theorem dX12_init_187 : decode cX12_init 187 = .ok (.putfield 73, 3) := by decide +kernel
theorem dX12_init_190 : decode cX12_init 190 = .ok (.return_, 1) := by decide +kernel
theorem dX12_fails_0 : decode cX12_fails 0 = .ok (.aload_n 0, 1) := by decide +kernel
theorem dX12_fails_1 : decode cX12_fails 1 = .ok (.iload_n 1, 1) := by decide +kernel
theorem dX12_fails_2 : decode cX12_fails 2 = .ok (.putfield 76, 3) := by decide +kernel
theorem dX12_fails_5 : decode cX12_fails 5 = .ok (.bipush (-10), 2) := by decide +kernel
theorem dX12_fails_7 : decode cX12_fails 7 = .ok (.iload_n 1, 1) := by decide +kernel
theorem dX12_fails_8 : decode cX12_fails 8 = .ok (.isub, 1) := by decide +kernel
theorem dX12_fails_9 : decode cX12_fails 9 = .ok (.ireturn, 1) := by decide +kernel
theorem dX12_lost_0 : decode cX12_lost 0 = .ok (.aload_n 0, 1) := by decide +kernel
theorem dX12_lost_1 : decode cX12_lost 1 = .ok (.iload_n 1, 1) := by decide +kernel
theorem dX12_lost_2 : decode cX12_lost 2 = .ok (.putfield 76, 3) := by decide +kernel
theorem dX12_lost_5 : decode cX12_lost 5 = .ok (.ldc2_w 79, 3) := by decide +kernel
theorem dX12_lost_8 : decode cX12_lost 8 = .ok (.lreturn, 1) := by decide +kernel
theorem dX12_within_0 : decode cX12_within 0 = .ok (.lload_n 0, 1) := by decide +kernel
theorem dX12_within_1 : decode cX12_within 1 = .ok (.lload_n 2, 1) := by decide +kernel
theorem dX12_within_2 : decode cX12_within 2 = .ok (.lcmp, 1) := by decide +kernel
theorem dX12_within_3 : decode cX12_within 3 = .ok (.ifCond .lt 14, 3) := by decide +kernel
theorem dX12_within_6 : decode cX12_within 6 = .ok (.lload_n 0, 1) := by decide +kernel
theorem dX12_within_7 : decode cX12_within 7 = .ok (.lload 4, 2) := by decide +kernel
theorem dX12_within_9 : decode cX12_within 9 = .ok (.lcmp, 1) := by decide +kernel
theorem dX12_within_10 : decode cX12_within 10 = .ok (.ifCond .gt 7, 3) := by decide +kernel
theorem dX12_within_13 : decode cX12_within 13 = .ok (.iconst 1, 1) := by decide +kernel
theorem dX12_within_14 : decode cX12_within 14 = .ok (.goto 4, 3) := by decide +kernel
theorem dX12_within_17 : decode cX12_within 17 = .ok (.iconst 0, 1) := by decide +kernel
theorem dX12_within_18 : decode cX12_within 18 = .ok (.ireturn, 1) := by decide +kernel
theorem dX12_sizeOf_0 : decode cX12_sizeOf 0 = .ok (.lload_n 0, 1) := by decide +kernel
theorem dX12_sizeOf_1 : decode cX12_sizeOf 1 = .ok (.lconst 0, 1) := by decide +kernel
theorem dX12_sizeOf_2 : decode cX12_sizeOf 2 = .ok (.lcmp, 1) := by decide +kernel
theorem dX12_sizeOf_3 : decode cX12_sizeOf 3 = .ok (.ifCond .ge 8, 3) := by decide +kernel
theorem dX12_sizeOf_6 : decode cX12_sizeOf 6 = .ok (.lload_n 0, 1) := by decide +kernel
theorem dX12_sizeOf_7 : decode cX12_sizeOf 7 = .ok (.lneg, 1) := by decide +kernel
theorem dX12_sizeOf_8 : decode cX12_sizeOf 8 = .ok (.goto 4, 3) := by decide +kernel
theorem dX12_sizeOf_11 : decode cX12_sizeOf 11 = .ok (.lload_n 0, 1) := by decide +kernel
theorem dX12_sizeOf_12 : decode cX12_sizeOf 12 = .ok (.lreturn, 1) := by decide +kernel
theorem dX12_isTable_0 : decode cX12_isTable 0 = .ok (.iload_n 1, 1) := by decide +kernel
theorem dX12_isTable_1 : decode cX12_isTable 1 = .ok (.ifCond .lt 15, 3) := by decide +kernel
theorem dX12_isTable_4 : decode cX12_isTable 4 = .ok (.iload_n 1, 1) := by decide +kernel
theorem dX12_isTable_5 : decode cX12_isTable 5 = .ok (.aload_n 0, 1) := by decide +kernel
theorem dX12_isTable_6 : decode cX12_isTable 6 = .ok (.getfield 81, 3) := by decide +kernel
theorem dX12_isTable_9 : decode cX12_isTable 9 = .ok (.if_icmp .ge 7, 3) := by decide +kernel
theorem dX12_isTable_12 : decode cX12_isTable 12 = .ok (.iconst 1, 1) := by decide +kernel
theorem dX12_isTable_13 : decode cX12_isTable 13 = .ok (.goto 4, 3) := by decide +kernel
theorem dX12_isTable_16 : decode cX12_isTable 16 = .ok (.iconst 0, 1) := by decide +kernel
theorem dX12_isTable_17 : decode cX12_isTable 17 = .ok (.ireturn, 1) := by decide +kernel
theorem dX12_isPlace_0 : decode cX12_isPlace 0 = .ok (.iload_n 1, 1) := by decide +kernel
theorem dX12_isPlace_1 : decode cX12_isPlace 1 = .ok (.i2l, 1) := by decide +kernel
theorem dX12_isPlace_2 : decode cX12_isPlace 2 = .ok (.lconst 0, 1) := by decide +kernel
theorem dX12_isPlace_3 : decode cX12_isPlace 3 = .ok (.aload_n 0, 1) := by decide +kernel
theorem dX12_isPlace_4 : decode cX12_isPlace 4 = .ok (.getfield 7, 3) := by decide +kernel
theorem dX12_isPlace_7 : decode cX12_isPlace 7 = .ok (.i2l, 1) := by decide +kernel
theorem dX12_isPlace_8 : decode cX12_isPlace 8 = .ok (.lconst 1, 1) := by decide +kernel
theorem dX12_isPlace_9 : decode cX12_isPlace 9 = .ok (.lsub, 1) := by decide +kernel
theorem dX12_isPlace_10 : decode cX12_isPlace 10 = .ok (.invokestatic 84, 3) := by decide +kernel
theorem dX12_isPlace_13 : decode cX12_isPlace 13 = .ok (.ifCond .eq 23, 3) := by decide +kernel
theorem dX12_isPlace_16 : decode cX12_isPlace 16 = .ok (.iload_n 2, 1) := by decide +kernel
theorem dX12_isPlace_17 : decode cX12_isPlace 17 = .ok (.i2l, 1) := by decide +kernel
theorem dX12_isPlace_18 : decode cX12_isPlace 18 = .ok (.lconst 0, 1) := by decide +kernel
theorem dX12_isPlace_19 : decode cX12_isPlace 19 = .ok (.aload_n 0, 1) := by decide +kernel
theorem dX12_isPlace_20 : decode cX12_isPlace 20 = .ok (.getfield 7, 3) := by decide +kernel
theorem dX12_isPlace_23 : decode cX12_isPlace 23 = .ok (.i2l, 1) := by decide +kernel
theorem dX12_isPlace_24 : decode cX12_isPlace 24 = .ok (.lconst 1, 1) := by decide +kernel
theorem dX12_isPlace_25 : decode cX12_isPlace 25 = .ok (.lsub, 1) := by decide +kernel
theorem dX12_isPlace_26 : decode cX12_isPlace 26 = .ok (.invokestatic 84, 3) := by decide +kernel
theorem dX12_isPlace_29 : decode cX12_isPlace 29 = .ok (.ifCond .eq 7, 3) := by decide +kernel
theorem dX12_isPlace_32 : decode cX12_isPlace 32 = .ok (.iconst 1, 1) := by decide +kernel
theorem dX12_isPlace_33 : decode cX12_isPlace 33 = .ok (.goto 4, 3) := by decide +kernel
theorem dX12_isPlace_36 : decode cX12_isPlace 36 = .ok (.iconst 0, 1) := by decide +kernel
theorem dX12_isPlace_37 : decode cX12_isPlace 37 = .ok (.ireturn, 1) := by decide +kernel
theorem dX12_begin_0 : decode cX12_begin 0 = .ok (.iload_n 1, 1) := by decide +kernel
theorem dX12_begin_1 : decode cX12_begin 1 = .ok (.i2l, 1) := by decide +kernel
theorem dX12_begin_2 : decode cX12_begin 2 = .ok (.ldc2_w 88, 3) := by decide +kernel
theorem dX12_begin_5 : decode cX12_begin 5 = .ok (.ldc2_w 90, 3) := by decide +kernel
theorem dX12_begin_8 : decode cX12_begin 8 = .ok (.invokestatic 84, 3) := by decide +kernel
theorem dX12_begin_11 : decode cX12_begin 11 = .ok (.ifCond .eq 21, 3) := by decide +kernel
theorem dX12_begin_14 : decode cX12_begin 14 = .ok (.iload_n 2, 1) := by decide +kernel
theorem dX12_begin_15 : decode cX12_begin 15 = .ok (.ifCond .eq 20, 3) := by decide +kernel
theorem dX12_begin_18 : decode cX12_begin 18 = .ok (.iload_n 2, 1) := by decide +kernel
theorem dX12_begin_19 : decode cX12_begin 19 = .ok (.i2l, 1) := by decide +kernel
theorem dX12_begin_20 : decode cX12_begin 20 = .ok (.ldc2_w 88, 3) := by decide +kernel
theorem dX12_begin_23 : decode cX12_begin 23 = .ok (.ldc2_w 92, 3) := by decide +kernel
theorem dX12_begin_26 : decode cX12_begin 26 = .ok (.invokestatic 84, 3) := by decide +kernel
theorem dX12_begin_29 : decode cX12_begin 29 = .ok (.ifCond .ne 6, 3) := by decide +kernel
theorem dX12_begin_32 : decode cX12_begin 32 = .ok (.bipush (-2), 2) := by decide +kernel
theorem dX12_begin_34 : decode cX12_begin 34 = .ok (.ireturn, 1) := by decide +kernel
theorem dX12_begin_35 : decode cX12_begin 35 = .ok (.aload_n 0, 1) := by decide +kernel
theorem dX12_begin_36 : decode cX12_begin 36 = .ok (.iload_n 1, 1) := by decide +kernel
theorem dX12_begin_37 : decode cX12_begin 37 = .ok (.putfield 7, 3) := by decide +kernel
theorem dX12_begin_40 : decode cX12_begin 40 = .ok (.aload_n 0, 1) := by decide +kernel
theorem dX12_begin_41 : decode cX12_begin 41 = .ok (.iload_n 2, 1) := by decide +kernel
theorem dX12_begin_42 : decode cX12_begin 42 = .ok (.putfield 94, 3) := by decide +kernel
theorem dX12_begin_45 : decode cX12_begin 45 = .ok (.aload_n 0, 1) := by decide +kernel
theorem dX12_begin_46 : decode cX12_begin 46 = .ok (.iconst 0, 1) := by decide +kernel
theorem dX12_begin_47 : decode cX12_begin 47 = .ok (.putfield 81, 3) := by decide +kernel
theorem dX12_begin_50 : decode cX12_begin 50 = .ok (.aload_n 0, 1) := by decide +kernel
theorem dX12_begin_51 : decode cX12_begin 51 = .ok (.iconst 0, 1) := by decide +kernel
theorem dX12_begin_52 : decode cX12_begin 52 = .ok (.putfield 97, 3) := by decide +kernel
theorem dX12_begin_55 : decode cX12_begin 55 = .ok (.aload_n 0, 1) := by decide +kernel
theorem dX12_begin_56 : decode cX12_begin 56 = .ok (.bipush (-9), 2) := by decide +kernel
theorem dX12_begin_58 : decode cX12_begin 58 = .ok (.putfield 55, 3) := by decide +kernel
theorem dX12_begin_61 : decode cX12_begin 61 = .ok (.iconst 0, 1) := by decide +kernel
theorem dX12_begin_62 : decode cX12_begin 62 = .ok (.istore_n 3, 1) := by decide +kernel
theorem dX12_begin_63 : decode cX12_begin 63 = .ok (.iload_n 3, 1) := by decide +kernel
theorem dX12_begin_64 : decode cX12_begin 64 = .ok (.bipush 36, 2) := by decide +kernel
theorem dX12_begin_66 : decode cX12_begin 66 = .ok (.if_icmp .ge 16, 3) := by decide +kernel
theorem dX12_begin_69 : decode cX12_begin 69 = .ok (.aload_n 0, 1) := by decide +kernel
theorem dX12_begin_70 : decode cX12_begin 70 = .ok (.getfield 17, 3) := by decide +kernel
theorem dX12_begin_73 : decode cX12_begin 73 = .ok (.iload_n 3, 1) := by decide +kernel
theorem dX12_begin_74 : decode cX12_begin 74 = .ok (.iconst 0, 1) := by decide +kernel
theorem dX12_begin_75 : decode cX12_begin 75 = .ok (.bastore, 1) := by decide +kernel
theorem dX12_begin_76 : decode cX12_begin 76 = .ok (.iinc 3 1, 3) := by decide +kernel
theorem dX12_begin_79 : decode cX12_begin 79 = .ok (.goto (-16), 3) := by decide +kernel
theorem dX12_begin_82 : decode cX12_begin 82 = .ok (.iconst 1, 1) := by decide +kernel
theorem dX12_begin_83 : decode cX12_begin 83 = .ok (.ireturn, 1) := by decide +kernel
theorem dX12_against_0 : decode cX12_against 0 = .ok (.iload_n 1, 1) := by decide +kernel
theorem dX12_against_1 : decode cX12_against 1 = .ok (.i2l, 1) := by decide +kernel
theorem dX12_against_2 : decode cX12_against 2 = .ok (.lconst 0, 1) := by decide +kernel
theorem dX12_against_3 : decode cX12_against 3 = .ok (.ldc2_w 90, 3) := by decide +kernel
theorem dX12_against_6 : decode cX12_against 6 = .ok (.invokestatic 84, 3) := by decide +kernel
theorem dX12_against_9 : decode cX12_against 9 = .ok (.ifCond .ne 5, 3) := by decide +kernel
theorem dX12_against_12 : decode cX12_against 12 = .ok (.iconst (-1), 1) := by decide +kernel
theorem dX12_against_13 : decode cX12_against 13 = .ok (.ireturn, 1) := by decide +kernel
theorem dX12_against_14 : decode cX12_against 14 = .ok (.iload_n 2, 1) := by decide +kernel
theorem dX12_against_15 : decode cX12_against 15 = .ok (.i2l, 1) := by decide +kernel
theorem dX12_against_16 : decode cX12_against 16 = .ok (.lconst 0, 1) := by decide +kernel
theorem dX12_against_17 : decode cX12_against 17 = .ok (.ldc2_w 88, 3) := by decide +kernel
theorem dX12_against_20 : decode cX12_against 20 = .ok (.invokestatic 84, 3) := by decide +kernel
theorem dX12_against_23 : decode cX12_against 23 = .ok (.ifCond .ne 6, 3) := by decide +kernel
theorem dX12_against_26 : decode cX12_against 26 = .ok (.bipush (-2), 2) := by decide +kernel
theorem dX12_against_28 : decode cX12_against 28 = .ok (.ireturn, 1) := by decide +kernel
theorem dX12_against_29 : decode cX12_against 29 = .ok (.aload_n 0, 1) := by decide +kernel
theorem dX12_against_30 : decode cX12_against 30 = .ok (.getfield 21, 3) := by decide +kernel
theorem dX12_against_33 : decode cX12_against 33 = .ok (.iload_n 1, 1) := by decide +kernel
theorem dX12_against_34 : decode cX12_against 34 = .ok (.iaload, 1) := by decide +kernel
theorem dX12_against_35 : decode cX12_against 35 = .ok (.bipush (-9), 2) := by decide +kernel
theorem dX12_against_37 : decode cX12_against 37 = .ok (.if_icmp .eq 19, 3) := by decide +kernel
theorem dX12_against_40 : decode cX12_against 40 = .ok (.aload_n 0, 1) := by decide +kernel
theorem dX12_against_41 : decode cX12_against 41 = .ok (.getfield 21, 3) := by decide +kernel
theorem dX12_against_44 : decode cX12_against 44 = .ok (.iload_n 1, 1) := by decide +kernel
theorem dX12_against_45 : decode cX12_against 45 = .ok (.iaload, 1) := by decide +kernel
theorem dX12_against_46 : decode cX12_against 46 = .ok (.iload_n 2, 1) := by decide +kernel
theorem dX12_against_47 : decode cX12_against 47 = .ok (.if_icmp .eq 9, 3) := by decide +kernel
theorem dX12_against_50 : decode cX12_against 50 = .ok (.aload_n 0, 1) := by decide +kernel
theorem dX12_against_51 : decode cX12_against 51 = .ok (.iconst 2, 1) := by decide +kernel
theorem dX12_against_52 : decode cX12_against 52 = .ok (.invokevirtual 100, 3) := by decide +kernel
theorem dX12_against_55 : decode cX12_against 55 = .ok (.ireturn, 1) := by decide +kernel
theorem dX12_against_56 : decode cX12_against 56 = .ok (.aload_n 0, 1) := by decide +kernel
theorem dX12_against_57 : decode cX12_against 57 = .ok (.getfield 21, 3) := by decide +kernel
theorem dX12_against_60 : decode cX12_against 60 = .ok (.iload_n 1, 1) := by decide +kernel
theorem dX12_against_61 : decode cX12_against 61 = .ok (.iaload, 1) := by decide +kernel
theorem dX12_against_62 : decode cX12_against 62 = .ok (.bipush (-9), 2) := by decide +kernel
theorem dX12_against_64 : decode cX12_against 64 = .ok (.if_icmp .ne 11, 3) := by decide +kernel
theorem dX12_against_67 : decode cX12_against 67 = .ok (.aload_n 0, 1) := by decide +kernel
theorem dX12_against_68 : decode cX12_against 68 = .ok (.iconst 1, 1) := by decide +kernel
theorem dX12_against_69 : decode cX12_against 69 = .ok (.invokevirtual 100, 3) := by decide +kernel
theorem dX12_against_72 : decode cX12_against 72 = .ok (.goto 4, 3) := by decide +kernel
theorem dX12_against_75 : decode cX12_against 75 = .ok (.iconst 0, 1) := by decide +kernel
theorem dX12_against_76 : decode cX12_against 76 = .ok (.ireturn, 1) := by decide +kernel
theorem dX12_table_0 : decode cX12_table 0 = .ok (.aload_n 0, 1) := by decide +kernel
theorem dX12_table_1 : decode cX12_table 1 = .ok (.iconst 0, 1) := by decide +kernel
theorem dX12_table_2 : decode cX12_table 2 = .ok (.putfield 76, 3) := by decide +kernel
theorem dX12_table_5 : decode cX12_table 5 = .ok (.aload_n 0, 1) := by decide +kernel
theorem dX12_table_6 : decode cX12_table 6 = .ok (.iload_n 1, 1) := by decide +kernel
theorem dX12_table_7 : decode cX12_table 7 = .ok (.iload_n 2, 1) := by decide +kernel
theorem dX12_table_8 : decode cX12_table 8 = .ok (.invokevirtual 104, 3) := by decide +kernel
theorem dX12_table_11 : decode cX12_table 11 = .ok (.istore 4, 2) := by decide +kernel
theorem dX12_table_13 : decode cX12_table 13 = .ok (.iload 4, 2) := by decide +kernel
theorem dX12_table_15 : decode cX12_table 15 = .ok (.ifCond .eq 6, 3) := by decide +kernel
theorem dX12_table_18 : decode cX12_table 18 = .ok (.iload 4, 2) := by decide +kernel
theorem dX12_table_20 : decode cX12_table 20 = .ok (.ireturn, 1) := by decide +kernel
theorem dX12_table_21 : decode cX12_table 21 = .ok (.iload_n 3, 1) := by decide +kernel
theorem dX12_table_22 : decode cX12_table 22 = .ok (.ifCond .lt 23, 3) := by decide +kernel
theorem dX12_table_25 : decode cX12_table 25 = .ok (.iload_n 3, 1) := by decide +kernel
theorem dX12_table_26 : decode cX12_table 26 = .ok (.aload_n 0, 1) := by decide +kernel
theorem dX12_table_27 : decode cX12_table 27 = .ok (.getfield 24, 3) := by decide +kernel
theorem dX12_table_30 : decode cX12_table 30 = .ok (.iload_n 1, 1) := by decide +kernel
theorem dX12_table_31 : decode cX12_table 31 = .ok (.iaload, 1) := by decide +kernel
theorem dX12_table_32 : decode cX12_table 32 = .ok (.aload_n 0, 1) := by decide +kernel
theorem dX12_table_33 : decode cX12_table 33 = .ok (.getfield 7, 3) := by decide +kernel
theorem dX12_table_36 : decode cX12_table 36 = .ok (.aload_n 0, 1) := by decide +kernel
theorem dX12_table_37 : decode cX12_table 37 = .ok (.getfield 7, 3) := by decide +kernel
theorem dX12_table_40 : decode cX12_table 40 = .ok (.imul, 1) := by decide +kernel
theorem dX12_table_41 : decode cX12_table 41 = .ok (.isub, 1) := by decide +kernel
theorem dX12_table_42 : decode cX12_table 42 = .ok (.if_icmp .le 9, 3) := by decide +kernel
theorem dX12_table_45 : decode cX12_table 45 = .ok (.aload_n 0, 1) := by decide +kernel
theorem dX12_table_46 : decode cX12_table 46 = .ok (.iconst 3, 1) := by decide +kernel
theorem dX12_table_47 : decode cX12_table 47 = .ok (.invokevirtual 100, 3) := by decide +kernel
theorem dX12_table_50 : decode cX12_table 50 = .ok (.ireturn, 1) := by decide +kernel
theorem dX12_table_51 : decode cX12_table 51 = .ok (.iconst 0, 1) := by decide +kernel
theorem dX12_table_52 : decode cX12_table 52 = .ok (.istore 5, 2) := by decide +kernel
theorem dX12_table_54 : decode cX12_table 54 = .ok (.iload 5, 2) := by decide +kernel
theorem dX12_table_56 : decode cX12_table 56 = .ok (.aload_n 0, 1) := by decide +kernel
theorem dX12_table_57 : decode cX12_table 57 = .ok (.getfield 7, 3) := by decide +kernel
theorem dX12_table_60 : decode cX12_table 60 = .ok (.aload_n 0, 1) := by decide +kernel
theorem dX12_table_61 : decode cX12_table 61 = .ok (.getfield 7, 3) := by decide +kernel
theorem dX12_table_64 : decode cX12_table 64 = .ok (.imul, 1) := by decide +kernel
theorem dX12_table_65 : decode cX12_table 65 = .ok (.if_icmp .ge 39, 3) := by decide +kernel
theorem dX12_table_68 : decode cX12_table 68 = .ok (.aload_n 0, 1) := by decide +kernel
theorem dX12_table_69 : decode cX12_table 69 = .ok (.getfield 27, 3) := by decide +kernel
theorem dX12_table_72 : decode cX12_table 72 = .ok (.bipush 40, 2) := by decide +kernel
theorem dX12_table_74 : decode cX12_table 74 = .ok (.iload_n 1, 1) := by decide +kernel
theorem dX12_table_75 : decode cX12_table 75 = .ok (.imul, 1) := by decide +kernel
theorem dX12_table_76 : decode cX12_table 76 = .ok (.iload_n 3, 1) := by decide +kernel
theorem dX12_table_77 : decode cX12_table 77 = .ok (.iadd, 1) := by decide +kernel
theorem dX12_table_78 : decode cX12_table 78 = .ok (.iload 5, 2) := by decide +kernel
theorem dX12_table_80 : decode cX12_table 80 = .ok (.iadd, 1) := by decide +kernel
theorem dX12_table_81 : decode cX12_table 81 = .ok (.iaload, 1) := by decide +kernel
theorem dX12_table_82 : decode cX12_table 82 = .ok (.i2l, 1) := by decide +kernel
theorem dX12_table_83 : decode cX12_table 83 = .ok (.ldc2_w 108, 3) := by decide +kernel
theorem dX12_table_86 : decode cX12_table 86 = .ok (.ldc2_w 110, 3) := by decide +kernel
theorem dX12_table_89 : decode cX12_table 89 = .ok (.invokestatic 84, 3) := by decide +kernel
theorem dX12_table_92 : decode cX12_table 92 = .ok (.ifCond .ne 6, 3) := by decide +kernel
theorem dX12_table_95 : decode cX12_table 95 = .ok (.bipush (-2), 2) := by decide +kernel
theorem dX12_table_97 : decode cX12_table 97 = .ok (.ireturn, 1) := by decide +kernel
theorem dX12_table_98 : decode cX12_table 98 = .ok (.iinc 5 1, 3) := by decide +kernel
theorem dX12_table_101 : decode cX12_table 101 = .ok (.goto (-47), 3) := by decide +kernel
theorem dX12_table_104 : decode cX12_table 104 = .ok (.aload_n 0, 1) := by decide +kernel
theorem dX12_table_105 : decode cX12_table 105 = .ok (.getfield 81, 3) := by decide +kernel
theorem dX12_table_108 : decode cX12_table 108 = .ok (.bipush 6, 2) := by decide +kernel
theorem dX12_table_110 : decode cX12_table 110 = .ok (.if_icmp .ne 6, 3) := by decide +kernel
theorem dX12_table_113 : decode cX12_table 113 = .ok (.bipush (-4), 2) := by decide +kernel
theorem dX12_table_115 : decode cX12_table 115 = .ok (.ireturn, 1) := by decide +kernel
theorem dX12_table_116 : decode cX12_table 116 = .ok (.iconst 0, 1) := by decide +kernel
theorem dX12_table_117 : decode cX12_table 117 = .ok (.istore 5, 2) := by decide +kernel
theorem dX12_table_119 : decode cX12_table 119 = .ok (.iload 5, 2) := by decide +kernel
theorem dX12_table_121 : decode cX12_table 121 = .ok (.aload_n 0, 1) := by decide +kernel
theorem dX12_table_122 : decode cX12_table 122 = .ok (.getfield 7, 3) := by decide +kernel
theorem dX12_table_125 : decode cX12_table 125 = .ok (.aload_n 0, 1) := by decide +kernel
theorem dX12_table_126 : decode cX12_table 126 = .ok (.getfield 7, 3) := by decide +kernel
theorem dX12_table_129 : decode cX12_table 129 = .ok (.imul, 1) := by decide +kernel
theorem dX12_table_130 : decode cX12_table 130 = .ok (.if_icmp .ge 38, 3) := by decide +kernel
theorem dX12_table_133 : decode cX12_table 133 = .ok (.aload_n 0, 1) := by decide +kernel
theorem dX12_table_134 : decode cX12_table 134 = .ok (.getfield 13, 3) := by decide +kernel
theorem dX12_table_137 : decode cX12_table 137 = .ok (.bipush 9, 2) := by decide +kernel
theorem dX12_table_139 : decode cX12_table 139 = .ok (.aload_n 0, 1) := by decide +kernel
theorem dX12_table_140 : decode cX12_table 140 = .ok (.getfield 81, 3) := by decide +kernel
theorem dX12_table_143 : decode cX12_table 143 = .ok (.imul, 1) := by decide +kernel
theorem dX12_table_144 : decode cX12_table 144 = .ok (.iload 5, 2) := by decide +kernel
theorem dX12_table_146 : decode cX12_table 146 = .ok (.iadd, 1) := by decide +kernel
theorem dX12_table_147 : decode cX12_table 147 = .ok (.aload_n 0, 1) := by decide +kernel
theorem dX12_table_148 : decode cX12_table 148 = .ok (.getfield 27, 3) := by decide +kernel
theorem dX12_table_151 : decode cX12_table 151 = .ok (.bipush 40, 2) := by decide +kernel
theorem dX12_table_153 : decode cX12_table 153 = .ok (.iload_n 1, 1) := by decide +kernel
theorem dX12_table_154 : decode cX12_table 154 = .ok (.imul, 1) := by decide +kernel
theorem dX12_table_155 : decode cX12_table 155 = .ok (.iload_n 3, 1) := by decide +kernel
theorem dX12_table_156 : decode cX12_table 156 = .ok (.iadd, 1) := by decide +kernel
theorem dX12_table_157 : decode cX12_table 157 = .ok (.iload 5, 2) := by decide +kernel
theorem dX12_table_159 : decode cX12_table 159 = .ok (.iadd, 1) := by decide +kernel
theorem dX12_table_160 : decode cX12_table 160 = .ok (.iaload, 1) := by decide +kernel
theorem dX12_table_161 : decode cX12_table 161 = .ok (.iastore, 1) := by decide +kernel
theorem dX12_table_162 : decode cX12_table 162 = .ok (.iinc 5 1, 3) := by decide +kernel
theorem dX12_table_165 : decode cX12_table 165 = .ok (.goto (-46), 3) := by decide +kernel
theorem dX12_table_168 : decode cX12_table 168 = .ok (.aload_n 0, 1) := by decide +kernel
theorem dX12_table_169 : decode cX12_table 169 = .ok (.bipush (-9), 2) := by decide +kernel
theorem dX12_table_171 : decode cX12_table 171 = .ok (.putfield 55, 3) := by decide +kernel
theorem dX12_table_174 : decode cX12_table 174 = .ok (.aload_n 0, 1) := by decide +kernel
theorem dX12_table_175 : decode cX12_table 175 = .ok (.dup, 1) := by decide +kernel
theorem dX12_table_176 : decode cX12_table 176 = .ok (.getfield 81, 3) := by decide +kernel
theorem dX12_table_179 : decode cX12_table 179 = .ok (.iconst 1, 1) := by decide +kernel
theorem dX12_table_180 : decode cX12_table 180 = .ok (.iadd, 1) := by decide +kernel
theorem dX12_table_181 : decode cX12_table 181 = .ok (.putfield 81, 3) := by decide +kernel
theorem dX12_table_184 : decode cX12_table 184 = .ok (.aload_n 0, 1) := by decide +kernel
theorem dX12_table_185 : decode cX12_table 185 = .ok (.getfield 81, 3) := by decide +kernel
theorem dX12_table_188 : decode cX12_table 188 = .ok (.iconst 1, 1) := by decide +kernel
theorem dX12_table_189 : decode cX12_table 189 = .ok (.isub, 1) := by decide +kernel
theorem dX12_table_190 : decode cX12_table 190 = .ok (.ireturn, 1) := by decide +kernel
theorem dX12_entry_0 : decode cX12_entry 0 = .ok (.aload_n 0, 1) := by decide +kernel
theorem dX12_entry_1 : decode cX12_entry 1 = .ok (.iload_n 1, 1) := by decide +kernel
theorem dX12_entry_2 : decode cX12_entry 2 = .ok (.invokevirtual 112, 3) := by decide +kernel
theorem dX12_entry_5 : decode cX12_entry 5 = .ok (.ifCond .eq 34, 3) := by decide +kernel
theorem dX12_entry_8 : decode cX12_entry 8 = .ok (.aload_n 0, 1) := by decide +kernel
theorem dX12_entry_9 : decode cX12_entry 9 = .ok (.iload_n 2, 1) := by decide +kernel
theorem dX12_entry_10 : decode cX12_entry 10 = .ok (.iload_n 3, 1) := by decide +kernel
theorem dX12_entry_11 : decode cX12_entry 11 = .ok (.invokevirtual 116, 3) := by decide +kernel
theorem dX12_entry_14 : decode cX12_entry 14 = .ok (.ifCond .eq 25, 3) := by decide +kernel
theorem dX12_entry_17 : decode cX12_entry 17 = .ok (.aload_n 0, 1) := by decide +kernel
theorem dX12_entry_18 : decode cX12_entry 18 = .ok (.getfield 13, 3) := by decide +kernel
theorem dX12_entry_21 : decode cX12_entry 21 = .ok (.bipush 9, 2) := by decide +kernel
theorem dX12_entry_23 : decode cX12_entry 23 = .ok (.iload_n 1, 1) := by decide +kernel
theorem dX12_entry_24 : decode cX12_entry 24 = .ok (.imul, 1) := by decide +kernel
theorem dX12_entry_25 : decode cX12_entry 25 = .ok (.aload_n 0, 1) := by decide +kernel
theorem dX12_entry_26 : decode cX12_entry 26 = .ok (.getfield 7, 3) := by decide +kernel
theorem dX12_entry_29 : decode cX12_entry 29 = .ok (.iload_n 2, 1) := by decide +kernel
theorem dX12_entry_30 : decode cX12_entry 30 = .ok (.imul, 1) := by decide +kernel
theorem dX12_entry_31 : decode cX12_entry 31 = .ok (.iadd, 1) := by decide +kernel
theorem dX12_entry_32 : decode cX12_entry 32 = .ok (.iload_n 3, 1) := by decide +kernel
theorem dX12_entry_33 : decode cX12_entry 33 = .ok (.iadd, 1) := by decide +kernel
theorem dX12_entry_34 : decode cX12_entry 34 = .ok (.iaload, 1) := by decide +kernel
theorem dX12_entry_35 : decode cX12_entry 35 = .ok (.i2l, 1) := by decide +kernel
theorem dX12_entry_36 : decode cX12_entry 36 = .ok (.goto 6, 3) := by decide +kernel
theorem dX12_entry_39 : decode cX12_entry 39 = .ok (.ldc2_w 79, 3) := by decide +kernel
theorem dX12_entry_42 : decode cX12_entry 42 = .ok (.lreturn, 1) := by decide +kernel
theorem dX12_may_0 : decode cX12_may 0 = .ok (.aload_n 0, 1) := by decide +kernel
theorem dX12_may_1 : decode cX12_may 1 = .ok (.iload_n 1, 1) := by decide +kernel
theorem dX12_may_2 : decode cX12_may 2 = .ok (.invokevirtual 112, 3) := by decide +kernel
theorem dX12_may_5 : decode cX12_may 5 = .ok (.ifCond .eq 11, 3) := by decide +kernel
theorem dX12_may_8 : decode cX12_may 8 = .ok (.aload_n 0, 1) := by decide +kernel
theorem dX12_may_9 : decode cX12_may 9 = .ok (.iload_n 2, 1) := by decide +kernel
theorem dX12_may_10 : decode cX12_may 10 = .ok (.invokevirtual 112, 3) := by decide +kernel
theorem dX12_may_13 : decode cX12_may 13 = .ok (.ifCond .ne 5, 3) := by decide +kernel
theorem dX12_may_16 : decode cX12_may 16 = .ok (.iconst (-1), 1) := by decide +kernel
end
section
theorem dX12_may_17 : decode cX12_may 17 = .ok (.ireturn, 1) := by decide +kernel
theorem dX12_may_18 : decode cX12_may 18 = .ok (.aload_n 0, 1) := by decide +kernel
theorem dX12_may_19 : decode cX12_may 19 = .ok (.getfield 17, 3) := by decide +kernel
theorem dX12_may_22 : decode cX12_may 22 = .ok (.bipush 6, 2) := by decide +kernel
theorem dX12_may_24 : decode cX12_may 24 = .ok (.iload_n 1, 1) := by decide +kernel
theorem dX12_may_25 : decode cX12_may 25 = .ok (.imul, 1) := by decide +kernel
theorem dX12_may_26 : decode cX12_may 26 = .ok (.iload_n 2, 1) := by decide +kernel
theorem dX12_may_27 : decode cX12_may 27 = .ok (.iadd, 1) := by decide +kernel
theorem dX12_may_28 : decode cX12_may 28 = .ok (.baload, 1) := by decide +kernel
theorem dX12_may_29 : decode cX12_may 29 = .ok (.iload_n 3, 1) := by decide +kernel
theorem dX12_may_30 : decode cX12_may 30 = .ok (.if_icmp .ne 7, 3) := by decide +kernel
theorem dX12_may_33 : decode cX12_may 33 = .ok (.iconst 1, 1) := by decide +kernel
theorem dX12_may_34 : decode cX12_may 34 = .ok (.goto 4, 3) := by decide +kernel
theorem dX12_may_37 : decode cX12_may 37 = .ok (.iconst 0, 1) := by decide +kernel
theorem dX12_may_38 : decode cX12_may 38 = .ok (.istore 4, 2) := by decide +kernel
theorem dX12_may_40 : decode cX12_may 40 = .ok (.aload_n 0, 1) := by decide +kernel
theorem dX12_may_41 : decode cX12_may 41 = .ok (.getfield 17, 3) := by decide +kernel
theorem dX12_may_44 : decode cX12_may 44 = .ok (.bipush 6, 2) := by decide +kernel
theorem dX12_may_46 : decode cX12_may 46 = .ok (.iload_n 1, 1) := by decide +kernel
theorem dX12_may_47 : decode cX12_may 47 = .ok (.imul, 1) := by decide +kernel
theorem dX12_may_48 : decode cX12_may 48 = .ok (.iload_n 2, 1) := by decide +kernel
theorem dX12_may_49 : decode cX12_may 49 = .ok (.iadd, 1) := by decide +kernel
theorem dX12_may_50 : decode cX12_may 50 = .ok (.iload_n 3, 1) := by decide +kernel
theorem dX12_may_51 : decode cX12_may 51 = .ok (.ifCond .ne 7, 3) := by decide +kernel
theorem dX12_may_54 : decode cX12_may 54 = .ok (.iconst 1, 1) := by decide +kernel
theorem dX12_may_55 : decode cX12_may 55 = .ok (.goto 4, 3) := by decide +kernel
theorem dX12_may_58 : decode cX12_may 58 = .ok (.iconst 0, 1) := by decide +kernel
theorem dX12_may_59 : decode cX12_may 59 = .ok (.bastore, 1) := by decide +kernel
theorem dX12_may_60 : decode cX12_may 60 = .ok (.iload 4, 2) := by decide +kernel
theorem dX12_may_62 : decode cX12_may 62 = .ok (.ireturn, 1) := by decide +kernel
theorem dX12_mayFollow_0 : decode cX12_mayFollow 0 = .ok (.aload_n 0, 1) := by decide +kernel
theorem dX12_mayFollow_1 : decode cX12_mayFollow 1 = .ok (.getfield 17, 3) := by decide +kernel
theorem dX12_mayFollow_4 : decode cX12_mayFollow 4 = .ok (.bipush 6, 2) := by decide +kernel
theorem dX12_mayFollow_6 : decode cX12_mayFollow 6 = .ok (.iload_n 1, 1) := by decide +kernel
theorem dX12_mayFollow_7 : decode cX12_mayFollow 7 = .ok (.imul, 1) := by decide +kernel
theorem dX12_mayFollow_8 : decode cX12_mayFollow 8 = .ok (.iload_n 2, 1) := by decide +kernel
theorem dX12_mayFollow_9 : decode cX12_mayFollow 9 = .ok (.iadd, 1) := by decide +kernel
theorem dX12_mayFollow_10 : decode cX12_mayFollow 10 = .ok (.baload, 1) := by decide +kernel
theorem dX12_mayFollow_11 : decode cX12_mayFollow 11 = .ok (.ifCond .ne 7, 3) := by decide +kernel
theorem dX12_mayFollow_14 : decode cX12_mayFollow 14 = .ok (.iconst 1, 1) := by decide +kernel
theorem dX12_mayFollow_15 : decode cX12_mayFollow 15 = .ok (.goto 4, 3) := by decide +kernel
theorem dX12_mayFollow_18 : decode cX12_mayFollow 18 = .ok (.iconst 0, 1) := by decide +kernel
theorem dX12_mayFollow_19 : decode cX12_mayFollow 19 = .ok (.ireturn, 1) := by decide +kernel
theorem dX12_rest_0 : decode cX12_rest 0 = .ok (.aload_n 0, 1) := by decide +kernel
theorem dX12_rest_1 : decode cX12_rest 1 = .ok (.getfield 94, 3) := by decide +kernel
theorem dX12_rest_4 : decode cX12_rest 4 = .ok (.ifCond .ne 7, 3) := by decide +kernel
theorem dX12_rest_7 : decode cX12_rest 7 = .ok (.lload_n 1, 1) := by decide +kernel
theorem dX12_rest_8 : decode cX12_rest 8 = .ok (.goto 22, 3) := by decide +kernel
theorem dX12_rest_11 : decode cX12_rest 11 = .ok (.lload_n 1, 1) := by decide +kernel
theorem dX12_rest_12 : decode cX12_rest 12 = .ok (.aload_n 0, 1) := by decide +kernel
theorem dX12_rest_13 : decode cX12_rest 13 = .ok (.getfield 94, 3) := by decide +kernel
theorem dX12_rest_16 : decode cX12_rest 16 = .ok (.i2l, 1) := by decide +kernel
theorem dX12_rest_17 : decode cX12_rest 17 = .ok (.lrem, 1) := by decide +kernel
theorem dX12_rest_18 : decode cX12_rest 18 = .ok (.aload_n 0, 1) := by decide +kernel
theorem dX12_rest_19 : decode cX12_rest 19 = .ok (.getfield 94, 3) := by decide +kernel
theorem dX12_rest_22 : decode cX12_rest 22 = .ok (.i2l, 1) := by decide +kernel
theorem dX12_rest_23 : decode cX12_rest 23 = .ok (.ladd, 1) := by decide +kernel
theorem dX12_rest_24 : decode cX12_rest 24 = .ok (.aload_n 0, 1) := by decide +kernel
theorem dX12_rest_25 : decode cX12_rest 25 = .ok (.getfield 94, 3) := by decide +kernel
theorem dX12_rest_28 : decode cX12_rest 28 = .ok (.i2l, 1) := by decide +kernel
theorem dX12_rest_29 : decode cX12_rest 29 = .ok (.lrem, 1) := by decide +kernel
theorem dX12_rest_30 : decode cX12_rest 30 = .ok (.lreturn, 1) := by decide +kernel
theorem dX12_beginLevels_0 : decode cX12_beginLevels 0 = .ok (.iconst 0, 1) := by decide +kernel
theorem dX12_beginLevels_1 : decode cX12_beginLevels 1 = .ok (.istore_n 1, 1) := by decide +kernel
theorem dX12_beginLevels_2 : decode cX12_beginLevels 2 = .ok (.iload_n 1, 1) := by decide +kernel
theorem dX12_beginLevels_3 : decode cX12_beginLevels 3 = .ok (.aload_n 0, 1) := by decide +kernel
theorem dX12_beginLevels_4 : decode cX12_beginLevels 4 = .ok (.getfield 7, 3) := by decide +kernel
theorem dX12_beginLevels_7 : decode cX12_beginLevels 7 = .ok (.if_icmp .ge 48, 3) := by decide +kernel
theorem dX12_beginLevels_10 : decode cX12_beginLevels 10 = .ok (.iconst 0, 1) := by decide +kernel
theorem dX12_beginLevels_11 : decode cX12_beginLevels 11 = .ok (.istore_n 2, 1) := by decide +kernel
theorem dX12_beginLevels_12 : decode cX12_beginLevels 12 = .ok (.iload_n 2, 1) := by decide +kernel
theorem dX12_beginLevels_13 : decode cX12_beginLevels 13 = .ok (.aload_n 0, 1) := by decide +kernel
theorem dX12_beginLevels_14 : decode cX12_beginLevels 14 = .ok (.getfield 7, 3) := by decide +kernel
theorem dX12_beginLevels_17 : decode cX12_beginLevels 17 = .ok (.if_icmp .ge 32, 3) := by decide +kernel
theorem dX12_beginLevels_20 : decode cX12_beginLevels 20 = .ok (.aload_n 0, 1) := by decide +kernel
theorem dX12_beginLevels_21 : decode cX12_beginLevels 21 = .ok (.getfield 30, 3) := by decide +kernel
theorem dX12_beginLevels_24 : decode cX12_beginLevels 24 = .ok (.aload_n 0, 1) := by decide +kernel
theorem dX12_beginLevels_25 : decode cX12_beginLevels 25 = .ok (.getfield 7, 3) := by decide +kernel
theorem dX12_beginLevels_28 : decode cX12_beginLevels 28 = .ok (.iload_n 1, 1) := by decide +kernel
theorem dX12_beginLevels_29 : decode cX12_beginLevels 29 = .ok (.imul, 1) := by decide +kernel
theorem dX12_beginLevels_30 : decode cX12_beginLevels 30 = .ok (.iload_n 2, 1) := by decide +kernel
theorem dX12_beginLevels_31 : decode cX12_beginLevels 31 = .ok (.iadd, 1) := by decide +kernel
theorem dX12_beginLevels_32 : decode cX12_beginLevels 32 = .ok (.iload_n 1, 1) := by decide +kernel
theorem dX12_beginLevels_33 : decode cX12_beginLevels 33 = .ok (.iload_n 2, 1) := by decide +kernel
theorem dX12_beginLevels_34 : decode cX12_beginLevels 34 = .ok (.if_icmp .ne 7, 3) := by decide +kernel
theorem dX12_beginLevels_37 : decode cX12_beginLevels 37 = .ok (.lconst 1, 1) := by decide +kernel
theorem dX12_beginLevels_38 : decode cX12_beginLevels 38 = .ok (.goto 4, 3) := by decide +kernel
theorem dX12_beginLevels_41 : decode cX12_beginLevels 41 = .ok (.lconst 0, 1) := by decide +kernel
theorem dX12_beginLevels_42 : decode cX12_beginLevels 42 = .ok (.lastore, 1) := by decide +kernel
theorem dX12_beginLevels_43 : decode cX12_beginLevels 43 = .ok (.iinc 2 1, 3) := by decide +kernel
theorem dX12_beginLevels_46 : decode cX12_beginLevels 46 = .ok (.goto (-34), 3) := by decide +kernel
theorem dX12_beginLevels_49 : decode cX12_beginLevels 49 = .ok (.iinc 1 1, 3) := by decide +kernel
theorem dX12_beginLevels_52 : decode cX12_beginLevels 52 = .ok (.goto (-50), 3) := by decide +kernel
theorem dX12_beginLevels_55 : decode cX12_beginLevels 55 = .ok (.return_, 1) := by decide +kernel
theorem dX12_goOn_0 : decode cX12_goOn 0 = .ok (.iconst 0, 1) := by decide +kernel
theorem dX12_goOn_1 : decode cX12_goOn 1 = .ok (.istore_n 3, 1) := by decide +kernel
theorem dX12_goOn_2 : decode cX12_goOn 2 = .ok (.iload_n 3, 1) := by decide +kernel
theorem dX12_goOn_3 : decode cX12_goOn 3 = .ok (.aload_n 0, 1) := by decide +kernel
theorem dX12_goOn_4 : decode cX12_goOn 4 = .ok (.getfield 7, 3) := by decide +kernel
theorem dX12_goOn_7 : decode cX12_goOn 7 = .ok (.if_icmp .ge 122, 3) := by decide +kernel
theorem dX12_goOn_10 : decode cX12_goOn 10 = .ok (.iconst 0, 1) := by decide +kernel
theorem dX12_goOn_11 : decode cX12_goOn 11 = .ok (.istore 4, 2) := by decide +kernel
theorem dX12_goOn_13 : decode cX12_goOn 13 = .ok (.iload 4, 2) := by decide +kernel
theorem dX12_goOn_15 : decode cX12_goOn 15 = .ok (.aload_n 0, 1) := by decide +kernel
theorem dX12_goOn_16 : decode cX12_goOn 16 = .ok (.getfield 7, 3) := by decide +kernel
theorem dX12_goOn_19 : decode cX12_goOn 19 = .ok (.if_icmp .ge 104, 3) := by decide +kernel
theorem dX12_goOn_22 : decode cX12_goOn 22 = .ok (.lconst 0, 1) := by decide +kernel
theorem dX12_goOn_23 : decode cX12_goOn 23 = .ok (.lstore 5, 2) := by decide +kernel
theorem dX12_goOn_25 : decode cX12_goOn 25 = .ok (.iconst 0, 1) := by decide +kernel
theorem dX12_goOn_26 : decode cX12_goOn 26 = .ok (.istore 7, 2) := by decide +kernel
theorem dX12_goOn_28 : decode cX12_goOn 28 = .ok (.iload 7, 2) := by decide +kernel
theorem dX12_goOn_30 : decode cX12_goOn 30 = .ok (.aload_n 0, 1) := by decide +kernel
theorem dX12_goOn_31 : decode cX12_goOn 31 = .ok (.getfield 7, 3) := by decide +kernel
theorem dX12_goOn_34 : decode cX12_goOn 34 = .ok (.if_icmp .ge 55, 3) := by decide +kernel
theorem dX12_goOn_37 : decode cX12_goOn 37 = .ok (.lload 5, 2) := by decide +kernel
theorem dX12_goOn_39 : decode cX12_goOn 39 = .ok (.aload_n 0, 1) := by decide +kernel
theorem dX12_goOn_40 : decode cX12_goOn 40 = .ok (.getfield 30, 3) := by decide +kernel
theorem dX12_goOn_43 : decode cX12_goOn 43 = .ok (.bipush 9, 2) := by decide +kernel
theorem dX12_goOn_45 : decode cX12_goOn 45 = .ok (.iload_n 1, 1) := by decide +kernel
theorem dX12_goOn_46 : decode cX12_goOn 46 = .ok (.imul, 1) := by decide +kernel
theorem dX12_goOn_47 : decode cX12_goOn 47 = .ok (.aload_n 0, 1) := by decide +kernel
theorem dX12_goOn_48 : decode cX12_goOn 48 = .ok (.getfield 7, 3) := by decide +kernel
theorem dX12_goOn_51 : decode cX12_goOn 51 = .ok (.iload_n 3, 1) := by decide +kernel
theorem dX12_goOn_52 : decode cX12_goOn 52 = .ok (.imul, 1) := by decide +kernel
theorem dX12_goOn_53 : decode cX12_goOn 53 = .ok (.iadd, 1) := by decide +kernel
theorem dX12_goOn_54 : decode cX12_goOn 54 = .ok (.iload 7, 2) := by decide +kernel
theorem dX12_goOn_56 : decode cX12_goOn 56 = .ok (.iadd, 1) := by decide +kernel
theorem dX12_goOn_57 : decode cX12_goOn 57 = .ok (.laload, 1) := by decide +kernel
theorem dX12_goOn_58 : decode cX12_goOn 58 = .ok (.aload_n 0, 1) := by decide +kernel
theorem dX12_goOn_59 : decode cX12_goOn 59 = .ok (.getfield 13, 3) := by decide +kernel
theorem dX12_goOn_62 : decode cX12_goOn 62 = .ok (.bipush 9, 2) := by decide +kernel
theorem dX12_goOn_64 : decode cX12_goOn 64 = .ok (.iload_n 2, 1) := by decide +kernel
theorem dX12_goOn_65 : decode cX12_goOn 65 = .ok (.imul, 1) := by decide +kernel
theorem dX12_goOn_66 : decode cX12_goOn 66 = .ok (.aload_n 0, 1) := by decide +kernel
theorem dX12_goOn_67 : decode cX12_goOn 67 = .ok (.getfield 7, 3) := by decide +kernel
theorem dX12_goOn_70 : decode cX12_goOn 70 = .ok (.iload 7, 2) := by decide +kernel
theorem dX12_goOn_72 : decode cX12_goOn 72 = .ok (.imul, 1) := by decide +kernel
theorem dX12_goOn_73 : decode cX12_goOn 73 = .ok (.iadd, 1) := by decide +kernel
theorem dX12_goOn_74 : decode cX12_goOn 74 = .ok (.iload 4, 2) := by decide +kernel
theorem dX12_goOn_76 : decode cX12_goOn 76 = .ok (.iadd, 1) := by decide +kernel
theorem dX12_goOn_77 : decode cX12_goOn 77 = .ok (.iaload, 1) := by decide +kernel
theorem dX12_goOn_78 : decode cX12_goOn 78 = .ok (.i2l, 1) := by decide +kernel
theorem dX12_goOn_79 : decode cX12_goOn 79 = .ok (.lmul, 1) := by decide +kernel
theorem dX12_goOn_80 : decode cX12_goOn 80 = .ok (.ladd, 1) := by decide +kernel
theorem dX12_goOn_81 : decode cX12_goOn 81 = .ok (.lstore 5, 2) := by decide +kernel
theorem dX12_goOn_83 : decode cX12_goOn 83 = .ok (.iinc 7 1, 3) := by decide +kernel
theorem dX12_goOn_86 : decode cX12_goOn 86 = .ok (.goto (-58), 3) := by decide +kernel
theorem dX12_goOn_89 : decode cX12_goOn 89 = .ok (.aload_n 0, 1) := by decide +kernel
theorem dX12_goOn_90 : decode cX12_goOn 90 = .ok (.getfield 30, 3) := by decide +kernel
theorem dX12_goOn_93 : decode cX12_goOn 93 = .ok (.bipush 9, 2) := by decide +kernel
theorem dX12_goOn_95 : decode cX12_goOn 95 = .ok (.iload_n 1, 1) := by decide +kernel
theorem dX12_goOn_96 : decode cX12_goOn 96 = .ok (.imul, 1) := by decide +kernel
theorem dX12_goOn_97 : decode cX12_goOn 97 = .ok (.bipush 9, 2) := by decide +kernel
theorem dX12_goOn_99 : decode cX12_goOn 99 = .ok (.iadd, 1) := by decide +kernel
theorem dX12_goOn_100 : decode cX12_goOn 100 = .ok (.aload_n 0, 1) := by decide +kernel
theorem dX12_goOn_101 : decode cX12_goOn 101 = .ok (.getfield 7, 3) := by decide +kernel
theorem dX12_goOn_104 : decode cX12_goOn 104 = .ok (.iload_n 3, 1) := by decide +kernel
theorem dX12_goOn_105 : decode cX12_goOn 105 = .ok (.imul, 1) := by decide +kernel
theorem dX12_goOn_106 : decode cX12_goOn 106 = .ok (.iadd, 1) := by decide +kernel
theorem dX12_goOn_107 : decode cX12_goOn 107 = .ok (.iload 4, 2) := by decide +kernel
theorem dX12_goOn_109 : decode cX12_goOn 109 = .ok (.iadd, 1) := by decide +kernel
theorem dX12_goOn_110 : decode cX12_goOn 110 = .ok (.aload_n 0, 1) := by decide +kernel
theorem dX12_goOn_111 : decode cX12_goOn 111 = .ok (.lload 5, 2) := by decide +kernel
theorem dX12_goOn_113 : decode cX12_goOn 113 = .ok (.invokevirtual 120, 3) := by decide +kernel
theorem dX12_goOn_116 : decode cX12_goOn 116 = .ok (.lastore, 1) := by decide +kernel
theorem dX12_goOn_117 : decode cX12_goOn 117 = .ok (.iinc 4 1, 3) := by decide +kernel
theorem dX12_goOn_120 : decode cX12_goOn 120 = .ok (.goto (-107), 3) := by decide +kernel
theorem dX12_goOn_123 : decode cX12_goOn 123 = .ok (.iinc 3 1, 3) := by decide +kernel
theorem dX12_goOn_126 : decode cX12_goOn 126 = .ok (.goto (-124), 3) := by decide +kernel
theorem dX12_goOn_129 : decode cX12_goOn 129 = .ok (.return_, 1) := by decide +kernel
theorem dX12_normAt_0 : decode cX12_normAt 0 = .ok (.lconst 0, 1) := by decide +kernel
theorem dX12_normAt_1 : decode cX12_normAt 1 = .ok (.lstore_n 2, 1) := by decide +kernel
theorem dX12_normAt_2 : decode cX12_normAt 2 = .ok (.iconst 0, 1) := by decide +kernel
theorem dX12_normAt_3 : decode cX12_normAt 3 = .ok (.istore 4, 2) := by decide +kernel
theorem dX12_normAt_5 : decode cX12_normAt 5 = .ok (.iload 4, 2) := by decide +kernel
theorem dX12_normAt_7 : decode cX12_normAt 7 = .ok (.aload_n 0, 1) := by decide +kernel
theorem dX12_normAt_8 : decode cX12_normAt 8 = .ok (.getfield 7, 3) := by decide +kernel
theorem dX12_normAt_11 : decode cX12_normAt 11 = .ok (.if_icmp .ge 72, 3) := by decide +kernel
theorem dX12_normAt_14 : decode cX12_normAt 14 = .ok (.lconst 0, 1) := by decide +kernel
theorem dX12_normAt_15 : decode cX12_normAt 15 = .ok (.lstore 5, 2) := by decide +kernel
theorem dX12_normAt_17 : decode cX12_normAt 17 = .ok (.iconst 0, 1) := by decide +kernel
theorem dX12_normAt_18 : decode cX12_normAt 18 = .ok (.istore 7, 2) := by decide +kernel
theorem dX12_normAt_20 : decode cX12_normAt 20 = .ok (.iload 7, 2) := by decide +kernel
theorem dX12_normAt_22 : decode cX12_normAt 22 = .ok (.aload_n 0, 1) := by decide +kernel
theorem dX12_normAt_23 : decode cX12_normAt 23 = .ok (.getfield 7, 3) := by decide +kernel
theorem dX12_normAt_26 : decode cX12_normAt 26 = .ok (.if_icmp .ge 37, 3) := by decide +kernel
theorem dX12_normAt_29 : decode cX12_normAt 29 = .ok (.lload 5, 2) := by decide +kernel
theorem dX12_normAt_31 : decode cX12_normAt 31 = .ok (.aload_n 0, 1) := by decide +kernel
theorem dX12_normAt_32 : decode cX12_normAt 32 = .ok (.getfield 30, 3) := by decide +kernel
theorem dX12_normAt_35 : decode cX12_normAt 35 = .ok (.bipush 9, 2) := by decide +kernel
theorem dX12_normAt_37 : decode cX12_normAt 37 = .ok (.iload_n 1, 1) := by decide +kernel
theorem dX12_normAt_38 : decode cX12_normAt 38 = .ok (.imul, 1) := by decide +kernel
theorem dX12_normAt_39 : decode cX12_normAt 39 = .ok (.aload_n 0, 1) := by decide +kernel
theorem dX12_normAt_40 : decode cX12_normAt 40 = .ok (.getfield 7, 3) := by decide +kernel
theorem dX12_normAt_43 : decode cX12_normAt 43 = .ok (.iload 4, 2) := by decide +kernel
theorem dX12_normAt_45 : decode cX12_normAt 45 = .ok (.imul, 1) := by decide +kernel
theorem dX12_normAt_46 : decode cX12_normAt 46 = .ok (.iadd, 1) := by decide +kernel
theorem dX12_normAt_47 : decode cX12_normAt 47 = .ok (.iload 7, 2) := by decide +kernel
theorem dX12_normAt_49 : decode cX12_normAt 49 = .ok (.iadd, 1) := by decide +kernel
theorem dX12_normAt_50 : decode cX12_normAt 50 = .ok (.laload, 1) := by decide +kernel
theorem dX12_normAt_51 : decode cX12_normAt 51 = .ok (.invokestatic 124, 3) := by decide +kernel
theorem dX12_normAt_54 : decode cX12_normAt 54 = .ok (.ladd, 1) := by decide +kernel
theorem dX12_normAt_55 : decode cX12_normAt 55 = .ok (.lstore 5, 2) := by decide +kernel
theorem dX12_normAt_57 : decode cX12_normAt 57 = .ok (.iinc 7 1, 3) := by decide +kernel
theorem dX12_normAt_60 : decode cX12_normAt 60 = .ok (.goto (-40), 3) := by decide +kernel
theorem dX12_normAt_63 : decode cX12_normAt 63 = .ok (.lload 5, 2) := by decide +kernel
theorem dX12_normAt_65 : decode cX12_normAt 65 = .ok (.lload_n 2, 1) := by decide +kernel
theorem dX12_normAt_66 : decode cX12_normAt 66 = .ok (.lcmp, 1) := by decide +kernel
theorem dX12_normAt_67 : decode cX12_normAt 67 = .ok (.ifCond .le 8, 3) := by decide +kernel
theorem dX12_normAt_70 : decode cX12_normAt 70 = .ok (.lload 5, 2) := by decide +kernel
theorem dX12_normAt_72 : decode cX12_normAt 72 = .ok (.goto 4, 3) := by decide +kernel
theorem dX12_normAt_75 : decode cX12_normAt 75 = .ok (.lload_n 2, 1) := by decide +kernel
theorem dX12_normAt_76 : decode cX12_normAt 76 = .ok (.lstore_n 2, 1) := by decide +kernel
theorem dX12_normAt_77 : decode cX12_normAt 77 = .ok (.iinc 4 1, 3) := by decide +kernel
theorem dX12_normAt_80 : decode cX12_normAt 80 = .ok (.goto (-75), 3) := by decide +kernel
theorem dX12_normAt_83 : decode cX12_normAt 83 = .ok (.lload_n 2, 1) := by decide +kernel
theorem dX12_normAt_84 : decode cX12_normAt 84 = .ok (.lreturn, 1) := by decide +kernel
theorem dX12_trackAt_0 : decode cX12_trackAt 0 = .ok (.lconst 0, 1) := by decide +kernel
theorem dX12_trackAt_1 : decode cX12_trackAt 1 = .ok (.lstore_n 2, 1) := by decide +kernel
theorem dX12_trackAt_2 : decode cX12_trackAt 2 = .ok (.iconst 0, 1) := by decide +kernel
theorem dX12_trackAt_3 : decode cX12_trackAt 3 = .ok (.istore 4, 2) := by decide +kernel
theorem dX12_trackAt_5 : decode cX12_trackAt 5 = .ok (.iload 4, 2) := by decide +kernel
theorem dX12_trackAt_7 : decode cX12_trackAt 7 = .ok (.aload_n 0, 1) := by decide +kernel
theorem dX12_trackAt_8 : decode cX12_trackAt 8 = .ok (.getfield 7, 3) := by decide +kernel
theorem dX12_trackAt_11 : decode cX12_trackAt 11 = .ok (.if_icmp .ge 32, 3) := by decide +kernel
theorem dX12_trackAt_14 : decode cX12_trackAt 14 = .ok (.lload_n 2, 1) := by decide +kernel
theorem dX12_trackAt_15 : decode cX12_trackAt 15 = .ok (.aload_n 0, 1) := by decide +kernel
theorem dX12_trackAt_16 : decode cX12_trackAt 16 = .ok (.getfield 30, 3) := by decide +kernel
theorem dX12_trackAt_19 : decode cX12_trackAt 19 = .ok (.bipush 9, 2) := by decide +kernel
theorem dX12_trackAt_21 : decode cX12_trackAt 21 = .ok (.iload_n 1, 1) := by decide +kernel
theorem dX12_trackAt_22 : decode cX12_trackAt 22 = .ok (.imul, 1) := by decide +kernel
theorem dX12_trackAt_23 : decode cX12_trackAt 23 = .ok (.aload_n 0, 1) := by decide +kernel
theorem dX12_trackAt_24 : decode cX12_trackAt 24 = .ok (.getfield 7, 3) := by decide +kernel
theorem dX12_trackAt_27 : decode cX12_trackAt 27 = .ok (.iload 4, 2) := by decide +kernel
theorem dX12_trackAt_29 : decode cX12_trackAt 29 = .ok (.imul, 1) := by decide +kernel
theorem dX12_trackAt_30 : decode cX12_trackAt 30 = .ok (.iadd, 1) := by decide +kernel
theorem dX12_trackAt_31 : decode cX12_trackAt 31 = .ok (.iload 4, 2) := by decide +kernel
theorem dX12_trackAt_33 : decode cX12_trackAt 33 = .ok (.iadd, 1) := by decide +kernel
theorem dX12_trackAt_34 : decode cX12_trackAt 34 = .ok (.laload, 1) := by decide +kernel
theorem dX12_trackAt_35 : decode cX12_trackAt 35 = .ok (.ladd, 1) := by decide +kernel
theorem dX12_trackAt_36 : decode cX12_trackAt 36 = .ok (.lstore_n 2, 1) := by decide +kernel
theorem dX12_trackAt_37 : decode cX12_trackAt 37 = .ok (.iinc 4 1, 3) := by decide +kernel
theorem dX12_trackAt_40 : decode cX12_trackAt 40 = .ok (.goto (-35), 3) := by decide +kernel
theorem dX12_trackAt_43 : decode cX12_trackAt 43 = .ok (.lload_n 2, 1) := by decide +kernel
theorem dX12_trackAt_44 : decode cX12_trackAt 44 = .ok (.lreturn, 1) := by decide +kernel
theorem dX12_isSpent_0 : decode cX12_isSpent 0 = .ok (.iconst 0, 1) := by decide +kernel
theorem dX12_isSpent_1 : decode cX12_isSpent 1 = .ok (.istore_n 2, 1) := by decide +kernel
theorem dX12_isSpent_2 : decode cX12_isSpent 2 = .ok (.iload_n 2, 1) := by decide +kernel
theorem dX12_isSpent_3 : decode cX12_isSpent 3 = .ok (.aload_n 0, 1) := by decide +kernel
theorem dX12_isSpent_4 : decode cX12_isSpent 4 = .ok (.getfield 81, 3) := by decide +kernel
theorem dX12_isSpent_7 : decode cX12_isSpent 7 = .ok (.if_icmp .ge 16, 3) := by decide +kernel
theorem dX12_isSpent_10 : decode cX12_isSpent 10 = .ok (.aload_n 0, 1) := by decide +kernel
theorem dX12_isSpent_11 : decode cX12_isSpent 11 = .ok (.getfield 37, 3) := by decide +kernel
theorem dX12_isSpent_14 : decode cX12_isSpent 14 = .ok (.iload_n 2, 1) := by decide +kernel
theorem dX12_isSpent_15 : decode cX12_isSpent 15 = .ok (.lconst 1, 1) := by decide +kernel
theorem dX12_isSpent_16 : decode cX12_isSpent 16 = .ok (.lastore, 1) := by decide +kernel
theorem dX12_isSpent_17 : decode cX12_isSpent 17 = .ok (.iinc 2 1, 3) := by decide +kernel
theorem dX12_isSpent_20 : decode cX12_isSpent 20 = .ok (.goto (-18), 3) := by decide +kernel
theorem dX12_isSpent_23 : decode cX12_isSpent 23 = .ok (.iconst 1, 1) := by decide +kernel
theorem dX12_isSpent_24 : decode cX12_isSpent 24 = .ok (.istore_n 2, 1) := by decide +kernel
theorem dX12_isSpent_25 : decode cX12_isSpent 25 = .ok (.iload_n 2, 1) := by decide +kernel
theorem dX12_isSpent_26 : decode cX12_isSpent 26 = .ok (.iload_n 1, 1) := by decide +kernel
theorem dX12_isSpent_27 : decode cX12_isSpent 27 = .ok (.if_icmp .ge 108, 3) := by decide +kernel
theorem dX12_isSpent_30 : decode cX12_isSpent 30 = .ok (.iconst 0, 1) := by decide +kernel
theorem dX12_isSpent_31 : decode cX12_isSpent 31 = .ok (.istore_n 3, 1) := by decide +kernel
theorem dX12_isSpent_32 : decode cX12_isSpent 32 = .ok (.iload_n 3, 1) := by decide +kernel
theorem dX12_isSpent_33 : decode cX12_isSpent 33 = .ok (.aload_n 0, 1) := by decide +kernel
theorem dX12_isSpent_34 : decode cX12_isSpent 34 = .ok (.getfield 81, 3) := by decide +kernel
theorem dX12_isSpent_37 : decode cX12_isSpent 37 = .ok (.if_icmp .ge 64, 3) := by decide +kernel
theorem dX12_isSpent_40 : decode cX12_isSpent 40 = .ok (.aload_n 0, 1) := by decide +kernel
theorem dX12_isSpent_41 : decode cX12_isSpent 41 = .ok (.getfield 40, 3) := by decide +kernel
theorem dX12_isSpent_44 : decode cX12_isSpent 44 = .ok (.iload_n 3, 1) := by decide +kernel
theorem dX12_isSpent_45 : decode cX12_isSpent 45 = .ok (.lconst 0, 1) := by decide +kernel
theorem dX12_isSpent_46 : decode cX12_isSpent 46 = .ok (.lastore, 1) := by decide +kernel
theorem dX12_isSpent_47 : decode cX12_isSpent 47 = .ok (.iconst 0, 1) := by decide +kernel
theorem dX12_isSpent_48 : decode cX12_isSpent 48 = .ok (.istore 4, 2) := by decide +kernel
theorem dX12_isSpent_50 : decode cX12_isSpent 50 = .ok (.iload 4, 2) := by decide +kernel
theorem dX12_isSpent_52 : decode cX12_isSpent 52 = .ok (.aload_n 0, 1) := by decide +kernel
theorem dX12_isSpent_53 : decode cX12_isSpent 53 = .ok (.getfield 81, 3) := by decide +kernel
theorem dX12_isSpent_56 : decode cX12_isSpent 56 = .ok (.if_icmp .ge 39, 3) := by decide +kernel
theorem dX12_isSpent_59 : decode cX12_isSpent 59 = .ok (.aload_n 0, 1) := by decide +kernel
theorem dX12_isSpent_60 : decode cX12_isSpent 60 = .ok (.getfield 40, 3) := by decide +kernel
theorem dX12_isSpent_63 : decode cX12_isSpent 63 = .ok (.iload_n 3, 1) := by decide +kernel
theorem dX12_isSpent_64 : decode cX12_isSpent 64 = .ok (.dup2, 1) := by decide +kernel
theorem dX12_isSpent_65 : decode cX12_isSpent 65 = .ok (.laload, 1) := by decide +kernel
theorem dX12_isSpent_66 : decode cX12_isSpent 66 = .ok (.aload_n 0, 1) := by decide +kernel
theorem dX12_isSpent_67 : decode cX12_isSpent 67 = .ok (.iload 4, 2) := by decide +kernel
theorem dX12_isSpent_69 : decode cX12_isSpent 69 = .ok (.iload_n 3, 1) := by decide +kernel
theorem dX12_isSpent_70 : decode cX12_isSpent 70 = .ok (.invokevirtual 127, 3) := by decide +kernel
theorem dX12_isSpent_73 : decode cX12_isSpent 73 = .ok (.ifCond .eq 13, 3) := by decide +kernel
theorem dX12_isSpent_76 : decode cX12_isSpent 76 = .ok (.aload_n 0, 1) := by decide +kernel
theorem dX12_isSpent_77 : decode cX12_isSpent 77 = .ok (.getfield 37, 3) := by decide +kernel
theorem dX12_isSpent_80 : decode cX12_isSpent 80 = .ok (.iload 4, 2) := by decide +kernel
theorem dX12_isSpent_82 : decode cX12_isSpent 82 = .ok (.laload, 1) := by decide +kernel
theorem dX12_isSpent_83 : decode cX12_isSpent 83 = .ok (.goto 4, 3) := by decide +kernel
theorem dX12_isSpent_86 : decode cX12_isSpent 86 = .ok (.lconst 0, 1) := by decide +kernel
theorem dX12_isSpent_87 : decode cX12_isSpent 87 = .ok (.ladd, 1) := by decide +kernel
theorem dX12_isSpent_88 : decode cX12_isSpent 88 = .ok (.lastore, 1) := by decide +kernel
theorem dX12_isSpent_89 : decode cX12_isSpent 89 = .ok (.iinc 4 1, 3) := by decide +kernel
theorem dX12_isSpent_92 : decode cX12_isSpent 92 = .ok (.goto (-42), 3) := by decide +kernel
theorem dX12_isSpent_95 : decode cX12_isSpent 95 = .ok (.iinc 3 1, 3) := by decide +kernel
theorem dX12_isSpent_98 : decode cX12_isSpent 98 = .ok (.goto (-66), 3) := by decide +kernel
theorem dX12_isSpent_101 : decode cX12_isSpent 101 = .ok (.iconst 0, 1) := by decide +kernel
theorem dX12_isSpent_102 : decode cX12_isSpent 102 = .ok (.istore_n 3, 1) := by decide +kernel
theorem dX12_isSpent_103 : decode cX12_isSpent 103 = .ok (.iload_n 3, 1) := by decide +kernel
theorem dX12_isSpent_104 : decode cX12_isSpent 104 = .ok (.aload_n 0, 1) := by decide +kernel
theorem dX12_isSpent_105 : decode cX12_isSpent 105 = .ok (.getfield 81, 3) := by decide +kernel
theorem dX12_isSpent_108 : decode cX12_isSpent 108 = .ok (.if_icmp .ge 21, 3) := by decide +kernel
theorem dX12_isSpent_111 : decode cX12_isSpent 111 = .ok (.aload_n 0, 1) := by decide +kernel
theorem dX12_isSpent_112 : decode cX12_isSpent 112 = .ok (.getfield 37, 3) := by decide +kernel
theorem dX12_isSpent_115 : decode cX12_isSpent 115 = .ok (.iload_n 3, 1) := by decide +kernel
theorem dX12_isSpent_116 : decode cX12_isSpent 116 = .ok (.aload_n 0, 1) := by decide +kernel
theorem dX12_isSpent_117 : decode cX12_isSpent 117 = .ok (.getfield 40, 3) := by decide +kernel
theorem dX12_isSpent_120 : decode cX12_isSpent 120 = .ok (.iload_n 3, 1) := by decide +kernel
theorem dX12_isSpent_121 : decode cX12_isSpent 121 = .ok (.laload, 1) := by decide +kernel
theorem dX12_isSpent_122 : decode cX12_isSpent 122 = .ok (.lastore, 1) := by decide +kernel
theorem dX12_isSpent_123 : decode cX12_isSpent 123 = .ok (.iinc 3 1, 3) := by decide +kernel
theorem dX12_isSpent_126 : decode cX12_isSpent 126 = .ok (.goto (-23), 3) := by decide +kernel
theorem dX12_isSpent_129 : decode cX12_isSpent 129 = .ok (.iinc 2 1, 3) := by decide +kernel
theorem dX12_isSpent_132 : decode cX12_isSpent 132 = .ok (.goto (-107), 3) := by decide +kernel
theorem dX12_isSpent_135 : decode cX12_isSpent 135 = .ok (.lconst 0, 1) := by decide +kernel
theorem dX12_isSpent_136 : decode cX12_isSpent 136 = .ok (.lstore_n 2, 1) := by decide +kernel
theorem dX12_isSpent_137 : decode cX12_isSpent 137 = .ok (.iconst 0, 1) := by decide +kernel
theorem dX12_isSpent_138 : decode cX12_isSpent 138 = .ok (.istore 4, 2) := by decide +kernel
theorem dX12_isSpent_140 : decode cX12_isSpent 140 = .ok (.iload 4, 2) := by decide +kernel
theorem dX12_isSpent_142 : decode cX12_isSpent 142 = .ok (.aload_n 0, 1) := by decide +kernel
theorem dX12_isSpent_143 : decode cX12_isSpent 143 = .ok (.getfield 81, 3) := by decide +kernel
theorem dX12_isSpent_146 : decode cX12_isSpent 146 = .ok (.if_icmp .ge 19, 3) := by decide +kernel
theorem dX12_isSpent_149 : decode cX12_isSpent 149 = .ok (.lload_n 2, 1) := by decide +kernel
theorem dX12_isSpent_150 : decode cX12_isSpent 150 = .ok (.aload_n 0, 1) := by decide +kernel
theorem dX12_isSpent_151 : decode cX12_isSpent 151 = .ok (.getfield 37, 3) := by decide +kernel
theorem dX12_isSpent_154 : decode cX12_isSpent 154 = .ok (.iload 4, 2) := by decide +kernel
theorem dX12_isSpent_156 : decode cX12_isSpent 156 = .ok (.laload, 1) := by decide +kernel
theorem dX12_isSpent_157 : decode cX12_isSpent 157 = .ok (.ladd, 1) := by decide +kernel
theorem dX12_isSpent_158 : decode cX12_isSpent 158 = .ok (.lstore_n 2, 1) := by decide +kernel
theorem dX12_isSpent_159 : decode cX12_isSpent 159 = .ok (.iinc 4 1, 3) := by decide +kernel
theorem dX12_isSpent_162 : decode cX12_isSpent 162 = .ok (.goto (-22), 3) := by decide +kernel
theorem dX12_isSpent_165 : decode cX12_isSpent 165 = .ok (.lload_n 2, 1) := by decide +kernel
theorem dX12_isSpent_166 : decode cX12_isSpent 166 = .ok (.ldc2_w 130, 3) := by decide +kernel
theorem dX12_isSpent_169 : decode cX12_isSpent 169 = .ok (.lcmp, 1) := by decide +kernel
theorem dX12_isSpent_170 : decode cX12_isSpent 170 = .ok (.ifCond .le 7, 3) := by decide +kernel
theorem dX12_isSpent_173 : decode cX12_isSpent 173 = .ok (.iconst 1, 1) := by decide +kernel
theorem dX12_isSpent_174 : decode cX12_isSpent 174 = .ok (.goto 4, 3) := by decide +kernel
theorem dX12_isSpent_177 : decode cX12_isSpent 177 = .ok (.iconst 0, 1) := by decide +kernel
theorem dX12_isSpent_178 : decode cX12_isSpent 178 = .ok (.ireturn, 1) := by decide +kernel
theorem dX12_beginWords_0 : decode cX12_beginWords 0 = .ok (.aload_n 0, 1) := by decide +kernel
theorem dX12_beginWords_1 : decode cX12_beginWords 1 = .ok (.invokevirtual 132, 3) := by decide +kernel
theorem dX12_beginWords_4 : decode cX12_beginWords 4 = .ok (.aload_n 0, 1) := by decide +kernel
theorem dX12_beginWords_5 : decode cX12_beginWords 5 = .ok (.iconst 0, 1) := by decide +kernel
theorem dX12_beginWords_6 : decode cX12_beginWords 6 = .ok (.putfield 135, 3) := by decide +kernel
theorem dX12_beginWords_9 : decode cX12_beginWords 9 = .ok (.aload_n 0, 1) := by decide +kernel
theorem dX12_beginWords_10 : decode cX12_beginWords 10 = .ok (.getfield 34, 3) := by decide +kernel
theorem dX12_beginWords_13 : decode cX12_beginWords 13 = .ok (.iconst 0, 1) := by decide +kernel
theorem dX12_beginWords_14 : decode cX12_beginWords 14 = .ok (.iconst (-1), 1) := by decide +kernel
theorem dX12_beginWords_15 : decode cX12_beginWords 15 = .ok (.iastore, 1) := by decide +kernel
theorem dX12_beginWords_16 : decode cX12_beginWords 16 = .ok (.return_, 1) := by decide +kernel
theorem dX12_next_0 : decode cX12_next 0 = .ok (.aload_n 0, 1) := by decide +kernel
theorem dX12_next_1 : decode cX12_next 1 = .ok (.getfield 135, 3) := by decide +kernel
theorem dX12_next_4 : decode cX12_next 4 = .ok (.iload_n 1, 1) := by decide +kernel
theorem dX12_next_5 : decode cX12_next 5 = .ok (.if_icmp .ne 13, 3) := by decide +kernel
theorem dX12_next_8 : decode cX12_next 8 = .ok (.aload_n 0, 1) := by decide +kernel
theorem dX12_next_9 : decode cX12_next 9 = .ok (.dup, 1) := by decide +kernel
theorem dX12_next_10 : decode cX12_next 10 = .ok (.getfield 135, 3) := by decide +kernel
theorem dX12_next_13 : decode cX12_next 13 = .ok (.iconst 1, 1) := by decide +kernel
theorem dX12_next_14 : decode cX12_next 14 = .ok (.isub, 1) := by decide +kernel
theorem dX12_next_15 : decode cX12_next 15 = .ok (.putfield 135, 3) := by decide +kernel
theorem dX12_next_18 : decode cX12_next 18 = .ok (.aload_n 0, 1) := by decide +kernel
theorem dX12_next_19 : decode cX12_next 19 = .ok (.getfield 135, 3) := by decide +kernel
theorem dX12_next_22 : decode cX12_next 22 = .ok (.ifCond .lt 161, 3) := by decide +kernel
theorem dX12_next_25 : decode cX12_next 25 = .ok (.aload_n 0, 1) := by decide +kernel
theorem dX12_next_26 : decode cX12_next 26 = .ok (.getfield 34, 3) := by decide +kernel
theorem dX12_next_29 : decode cX12_next 29 = .ok (.aload_n 0, 1) := by decide +kernel
theorem dX12_next_30 : decode cX12_next 30 = .ok (.getfield 135, 3) := by decide +kernel
theorem dX12_next_33 : decode cX12_next 33 = .ok (.dup2, 1) := by decide +kernel
theorem dX12_next_34 : decode cX12_next 34 = .ok (.iaload, 1) := by decide +kernel
theorem dX12_next_35 : decode cX12_next 35 = .ok (.iconst 1, 1) := by decide +kernel
theorem dX12_next_36 : decode cX12_next 36 = .ok (.iadd, 1) := by decide +kernel
theorem dX12_next_37 : decode cX12_next 37 = .ok (.iastore, 1) := by decide +kernel
theorem dX12_next_38 : decode cX12_next 38 = .ok (.aload_n 0, 1) := by decide +kernel
theorem dX12_next_39 : decode cX12_next 39 = .ok (.getfield 34, 3) := by decide +kernel
theorem dX12_next_42 : decode cX12_next 42 = .ok (.aload_n 0, 1) := by decide +kernel
theorem dX12_next_43 : decode cX12_next 43 = .ok (.getfield 135, 3) := by decide +kernel
theorem dX12_next_46 : decode cX12_next 46 = .ok (.iaload, 1) := by decide +kernel
theorem dX12_next_47 : decode cX12_next 47 = .ok (.aload_n 0, 1) := by decide +kernel
theorem dX12_next_48 : decode cX12_next 48 = .ok (.getfield 81, 3) := by decide +kernel
theorem dX12_next_51 : decode cX12_next 51 = .ok (.if_icmp .ge 53, 3) := by decide +kernel
theorem dX12_next_54 : decode cX12_next 54 = .ok (.aload_n 0, 1) := by decide +kernel
theorem dX12_next_55 : decode cX12_next 55 = .ok (.getfield 135, 3) := by decide +kernel
theorem dX12_next_58 : decode cX12_next 58 = .ok (.ifCond .le 46, 3) := by decide +kernel
theorem dX12_next_61 : decode cX12_next 61 = .ok (.aload_n 0, 1) := by decide +kernel
theorem dX12_next_62 : decode cX12_next 62 = .ok (.aload_n 0, 1) := by decide +kernel
theorem dX12_next_63 : decode cX12_next 63 = .ok (.getfield 34, 3) := by decide +kernel
theorem dX12_next_66 : decode cX12_next 66 = .ok (.aload_n 0, 1) := by decide +kernel
theorem dX12_next_67 : decode cX12_next 67 = .ok (.getfield 135, 3) := by decide +kernel
theorem dX12_next_70 : decode cX12_next 70 = .ok (.iconst 1, 1) := by decide +kernel
theorem dX12_next_71 : decode cX12_next 71 = .ok (.isub, 1) := by decide +kernel
theorem dX12_next_72 : decode cX12_next 72 = .ok (.iaload, 1) := by decide +kernel
theorem dX12_next_73 : decode cX12_next 73 = .ok (.aload_n 0, 1) := by decide +kernel
theorem dX12_next_74 : decode cX12_next 74 = .ok (.getfield 34, 3) := by decide +kernel
theorem dX12_next_77 : decode cX12_next 77 = .ok (.aload_n 0, 1) := by decide +kernel
end
section
theorem dX12_next_78 : decode cX12_next 78 = .ok (.getfield 135, 3) := by decide +kernel
theorem dX12_next_81 : decode cX12_next 81 = .ok (.iaload, 1) := by decide +kernel
theorem dX12_next_82 : decode cX12_next 82 = .ok (.invokevirtual 127, 3) := by decide +kernel
theorem dX12_next_85 : decode cX12_next 85 = .ok (.ifCond .ne 19, 3) := by decide +kernel
theorem dX12_next_88 : decode cX12_next 88 = .ok (.aload_n 0, 1) := by decide +kernel
theorem dX12_next_89 : decode cX12_next 89 = .ok (.getfield 34, 3) := by decide +kernel
theorem dX12_next_92 : decode cX12_next 92 = .ok (.aload_n 0, 1) := by decide +kernel
theorem dX12_next_93 : decode cX12_next 93 = .ok (.getfield 135, 3) := by decide +kernel
theorem dX12_next_96 : decode cX12_next 96 = .ok (.dup2, 1) := by decide +kernel
theorem dX12_next_97 : decode cX12_next 97 = .ok (.iaload, 1) := by decide +kernel
theorem dX12_next_98 : decode cX12_next 98 = .ok (.iconst 1, 1) := by decide +kernel
theorem dX12_next_99 : decode cX12_next 99 = .ok (.iadd, 1) := by decide +kernel
theorem dX12_next_100 : decode cX12_next 100 = .ok (.iastore, 1) := by decide +kernel
theorem dX12_next_101 : decode cX12_next 101 = .ok (.goto (-63), 3) := by decide +kernel
theorem dX12_next_104 : decode cX12_next 104 = .ok (.aload_n 0, 1) := by decide +kernel
theorem dX12_next_105 : decode cX12_next 105 = .ok (.getfield 34, 3) := by decide +kernel
theorem dX12_next_108 : decode cX12_next 108 = .ok (.aload_n 0, 1) := by decide +kernel
theorem dX12_next_109 : decode cX12_next 109 = .ok (.getfield 135, 3) := by decide +kernel
theorem dX12_next_112 : decode cX12_next 112 = .ok (.iaload, 1) := by decide +kernel
theorem dX12_next_113 : decode cX12_next 113 = .ok (.aload_n 0, 1) := by decide +kernel
theorem dX12_next_114 : decode cX12_next 114 = .ok (.getfield 81, 3) := by decide +kernel
theorem dX12_next_117 : decode cX12_next 117 = .ok (.if_icmp .lt 16, 3) := by decide +kernel
theorem dX12_next_120 : decode cX12_next 120 = .ok (.aload_n 0, 1) := by decide +kernel
theorem dX12_next_121 : decode cX12_next 121 = .ok (.dup, 1) := by decide +kernel
theorem dX12_next_122 : decode cX12_next 122 = .ok (.getfield 135, 3) := by decide +kernel
theorem dX12_next_125 : decode cX12_next 125 = .ok (.iconst 1, 1) := by decide +kernel
theorem dX12_next_126 : decode cX12_next 126 = .ok (.isub, 1) := by decide +kernel
theorem dX12_next_127 : decode cX12_next 127 = .ok (.putfield 135, 3) := by decide +kernel
theorem dX12_next_130 : decode cX12_next 130 = .ok (.goto (-112), 3) := by decide +kernel
theorem dX12_next_133 : decode cX12_next 133 = .ok (.aload_n 0, 1) := by decide +kernel
theorem dX12_next_134 : decode cX12_next 134 = .ok (.aload_n 0, 1) := by decide +kernel
theorem dX12_next_135 : decode cX12_next 135 = .ok (.getfield 135, 3) := by decide +kernel
theorem dX12_next_138 : decode cX12_next 138 = .ok (.aload_n 0, 1) := by decide +kernel
theorem dX12_next_139 : decode cX12_next 139 = .ok (.getfield 34, 3) := by decide +kernel
theorem dX12_next_142 : decode cX12_next 142 = .ok (.aload_n 0, 1) := by decide +kernel
theorem dX12_next_143 : decode cX12_next 143 = .ok (.getfield 135, 3) := by decide +kernel
theorem dX12_next_146 : decode cX12_next 146 = .ok (.iaload, 1) := by decide +kernel
theorem dX12_next_147 : decode cX12_next 147 = .ok (.invokevirtual 138, 3) := by decide +kernel
theorem dX12_next_150 : decode cX12_next 150 = .ok (.aload_n 0, 1) := by decide +kernel
theorem dX12_next_151 : decode cX12_next 151 = .ok (.dup, 1) := by decide +kernel
theorem dX12_next_152 : decode cX12_next 152 = .ok (.getfield 135, 3) := by decide +kernel
theorem dX12_next_155 : decode cX12_next 155 = .ok (.iconst 1, 1) := by decide +kernel
theorem dX12_next_156 : decode cX12_next 156 = .ok (.iadd, 1) := by decide +kernel
theorem dX12_next_157 : decode cX12_next 157 = .ok (.putfield 135, 3) := by decide +kernel
theorem dX12_next_160 : decode cX12_next 160 = .ok (.aload_n 0, 1) := by decide +kernel
theorem dX12_next_161 : decode cX12_next 161 = .ok (.getfield 135, 3) := by decide +kernel
theorem dX12_next_164 : decode cX12_next 164 = .ok (.iload_n 1, 1) := by decide +kernel
theorem dX12_next_165 : decode cX12_next 165 = .ok (.if_icmp .ne 5, 3) := by decide +kernel
theorem dX12_next_168 : decode cX12_next 168 = .ok (.iconst 1, 1) := by decide +kernel
theorem dX12_next_169 : decode cX12_next 169 = .ok (.ireturn, 1) := by decide +kernel
theorem dX12_next_170 : decode cX12_next 170 = .ok (.aload_n 0, 1) := by decide +kernel
theorem dX12_next_171 : decode cX12_next 171 = .ok (.getfield 34, 3) := by decide +kernel
theorem dX12_next_174 : decode cX12_next 174 = .ok (.aload_n 0, 1) := by decide +kernel
theorem dX12_next_175 : decode cX12_next 175 = .ok (.getfield 135, 3) := by decide +kernel
theorem dX12_next_178 : decode cX12_next 178 = .ok (.iconst (-1), 1) := by decide +kernel
theorem dX12_next_179 : decode cX12_next 179 = .ok (.iastore, 1) := by decide +kernel
theorem dX12_next_180 : decode cX12_next 180 = .ok (.goto (-162), 3) := by decide +kernel
theorem dX12_next_183 : decode cX12_next 183 = .ok (.iconst 0, 1) := by decide +kernel
theorem dX12_next_184 : decode cX12_next 184 = .ok (.ireturn, 1) := by decide +kernel
theorem dX12_goThrough_0 : decode cX12_goThrough 0 = .ok (.aload_n 0, 1) := by decide +kernel
theorem dX12_goThrough_1 : decode cX12_goThrough 1 = .ok (.lconst 0, 1) := by decide +kernel
theorem dX12_goThrough_2 : decode cX12_goThrough 2 = .ok (.putfield 142, 3) := by decide +kernel
theorem dX12_goThrough_5 : decode cX12_goThrough 5 = .ok (.aload_n 0, 1) := by decide +kernel
theorem dX12_goThrough_6 : decode cX12_goThrough 6 = .ok (.ldc2_w 79, 3) := by decide +kernel
theorem dX12_goThrough_9 : decode cX12_goThrough 9 = .ok (.putfield 146, 3) := by decide +kernel
theorem dX12_goThrough_12 : decode cX12_goThrough 12 = .ok (.aload_n 0, 1) := by decide +kernel
theorem dX12_goThrough_13 : decode cX12_goThrough 13 = .ok (.ldc2_w 79, 3) := by decide +kernel
theorem dX12_goThrough_16 : decode cX12_goThrough 16 = .ok (.putfield 149, 3) := by decide +kernel
theorem dX12_goThrough_19 : decode cX12_goThrough 19 = .ok (.aload_n 0, 1) := by decide +kernel
theorem dX12_goThrough_20 : decode cX12_goThrough 20 = .ok (.lconst 0, 1) := by decide +kernel
theorem dX12_goThrough_21 : decode cX12_goThrough 21 = .ok (.putfield 152, 3) := by decide +kernel
theorem dX12_goThrough_24 : decode cX12_goThrough 24 = .ok (.aload_n 0, 1) := by decide +kernel
theorem dX12_goThrough_25 : decode cX12_goThrough 25 = .ok (.invokevirtual 155, 3) := by decide +kernel
theorem dX12_goThrough_28 : decode cX12_goThrough 28 = .ok (.aload_n 0, 1) := by decide +kernel
theorem dX12_goThrough_29 : decode cX12_goThrough 29 = .ok (.iload_n 1, 1) := by decide +kernel
theorem dX12_goThrough_30 : decode cX12_goThrough 30 = .ok (.invokevirtual 158, 3) := by decide +kernel
theorem dX12_goThrough_33 : decode cX12_goThrough 33 = .ok (.ifCond .eq 146, 3) := by decide +kernel
theorem dX12_goThrough_36 : decode cX12_goThrough 36 = .ok (.aload_n 0, 1) := by decide +kernel
theorem dX12_goThrough_37 : decode cX12_goThrough 37 = .ok (.iload_n 1, 1) := by decide +kernel
theorem dX12_goThrough_38 : decode cX12_goThrough 38 = .ok (.invokevirtual 161, 3) := by decide +kernel
theorem dX12_goThrough_41 : decode cX12_goThrough 41 = .ok (.lstore_n 2, 1) := by decide +kernel
theorem dX12_goThrough_42 : decode cX12_goThrough 42 = .ok (.aload_n 0, 1) := by decide +kernel
theorem dX12_goThrough_43 : decode cX12_goThrough 43 = .ok (.getfield 142, 3) := by decide +kernel
theorem dX12_goThrough_46 : decode cX12_goThrough 46 = .ok (.lconst 0, 1) := by decide +kernel
theorem dX12_goThrough_47 : decode cX12_goThrough 47 = .ok (.lcmp, 1) := by decide +kernel
theorem dX12_goThrough_48 : decode cX12_goThrough 48 = .ok (.ifCond .eq 12, 3) := by decide +kernel
theorem dX12_goThrough_51 : decode cX12_goThrough 51 = .ok (.lload_n 2, 1) := by decide +kernel
theorem dX12_goThrough_52 : decode cX12_goThrough 52 = .ok (.aload_n 0, 1) := by decide +kernel
theorem dX12_goThrough_53 : decode cX12_goThrough 53 = .ok (.getfield 146, 3) := by decide +kernel
theorem dX12_goThrough_56 : decode cX12_goThrough 56 = .ok (.lcmp, 1) := by decide +kernel
theorem dX12_goThrough_57 : decode cX12_goThrough 57 = .ok (.ifCond .le 37, 3) := by decide +kernel
theorem dX12_goThrough_60 : decode cX12_goThrough 60 = .ok (.aload_n 0, 1) := by decide +kernel
theorem dX12_goThrough_61 : decode cX12_goThrough 61 = .ok (.lload_n 2, 1) := by decide +kernel
theorem dX12_goThrough_62 : decode cX12_goThrough 62 = .ok (.putfield 146, 3) := by decide +kernel
theorem dX12_goThrough_65 : decode cX12_goThrough 65 = .ok (.iconst 0, 1) := by decide +kernel
theorem dX12_goThrough_66 : decode cX12_goThrough 66 = .ok (.istore 4, 2) := by decide +kernel
theorem dX12_goThrough_68 : decode cX12_goThrough 68 = .ok (.iload 4, 2) := by decide +kernel
theorem dX12_goThrough_70 : decode cX12_goThrough 70 = .ok (.iload_n 1, 1) := by decide +kernel
theorem dX12_goThrough_71 : decode cX12_goThrough 71 = .ok (.if_icmp .ge 23, 3) := by decide +kernel
theorem dX12_goThrough_74 : decode cX12_goThrough 74 = .ok (.aload_n 0, 1) := by decide +kernel
theorem dX12_goThrough_75 : decode cX12_goThrough 75 = .ok (.getfield 43, 3) := by decide +kernel
theorem dX12_goThrough_78 : decode cX12_goThrough 78 = .ok (.iload 4, 2) := by decide +kernel
theorem dX12_goThrough_80 : decode cX12_goThrough 80 = .ok (.aload_n 0, 1) := by decide +kernel
theorem dX12_goThrough_81 : decode cX12_goThrough 81 = .ok (.getfield 34, 3) := by decide +kernel
theorem dX12_goThrough_84 : decode cX12_goThrough 84 = .ok (.iload 4, 2) := by decide +kernel
theorem dX12_goThrough_86 : decode cX12_goThrough 86 = .ok (.iaload, 1) := by decide +kernel
theorem dX12_goThrough_87 : decode cX12_goThrough 87 = .ok (.iastore, 1) := by decide +kernel
theorem dX12_goThrough_88 : decode cX12_goThrough 88 = .ok (.iinc 4 1, 3) := by decide +kernel
theorem dX12_goThrough_91 : decode cX12_goThrough 91 = .ok (.goto (-23), 3) := by decide +kernel
theorem dX12_goThrough_94 : decode cX12_goThrough 94 = .ok (.aload_n 0, 1) := by decide +kernel
theorem dX12_goThrough_95 : decode cX12_goThrough 95 = .ok (.getfield 142, 3) := by decide +kernel
theorem dX12_goThrough_98 : decode cX12_goThrough 98 = .ok (.lconst 0, 1) := by decide +kernel
theorem dX12_goThrough_99 : decode cX12_goThrough 99 = .ok (.lcmp, 1) := by decide +kernel
theorem dX12_goThrough_100 : decode cX12_goThrough 100 = .ok (.ifCond .eq 12, 3) := by decide +kernel
theorem dX12_goThrough_103 : decode cX12_goThrough 103 = .ok (.lload_n 2, 1) := by decide +kernel
theorem dX12_goThrough_104 : decode cX12_goThrough 104 = .ok (.aload_n 0, 1) := by decide +kernel
theorem dX12_goThrough_105 : decode cX12_goThrough 105 = .ok (.getfield 149, 3) := by decide +kernel
theorem dX12_goThrough_108 : decode cX12_goThrough 108 = .ok (.lcmp, 1) := by decide +kernel
theorem dX12_goThrough_109 : decode cX12_goThrough 109 = .ok (.ifCond .ge 37, 3) := by decide +kernel
theorem dX12_goThrough_112 : decode cX12_goThrough 112 = .ok (.aload_n 0, 1) := by decide +kernel
theorem dX12_goThrough_113 : decode cX12_goThrough 113 = .ok (.lload_n 2, 1) := by decide +kernel
theorem dX12_goThrough_114 : decode cX12_goThrough 114 = .ok (.putfield 149, 3) := by decide +kernel
theorem dX12_goThrough_117 : decode cX12_goThrough 117 = .ok (.iconst 0, 1) := by decide +kernel
theorem dX12_goThrough_118 : decode cX12_goThrough 118 = .ok (.istore 4, 2) := by decide +kernel
theorem dX12_goThrough_120 : decode cX12_goThrough 120 = .ok (.iload 4, 2) := by decide +kernel
theorem dX12_goThrough_122 : decode cX12_goThrough 122 = .ok (.iload_n 1, 1) := by decide +kernel
theorem dX12_goThrough_123 : decode cX12_goThrough 123 = .ok (.if_icmp .ge 23, 3) := by decide +kernel
theorem dX12_goThrough_126 : decode cX12_goThrough 126 = .ok (.aload_n 0, 1) := by decide +kernel
theorem dX12_goThrough_127 : decode cX12_goThrough 127 = .ok (.getfield 46, 3) := by decide +kernel
theorem dX12_goThrough_130 : decode cX12_goThrough 130 = .ok (.iload 4, 2) := by decide +kernel
theorem dX12_goThrough_132 : decode cX12_goThrough 132 = .ok (.aload_n 0, 1) := by decide +kernel
theorem dX12_goThrough_133 : decode cX12_goThrough 133 = .ok (.getfield 34, 3) := by decide +kernel
theorem dX12_goThrough_136 : decode cX12_goThrough 136 = .ok (.iload 4, 2) := by decide +kernel
theorem dX12_goThrough_138 : decode cX12_goThrough 138 = .ok (.iaload, 1) := by decide +kernel
theorem dX12_goThrough_139 : decode cX12_goThrough 139 = .ok (.iastore, 1) := by decide +kernel
theorem dX12_goThrough_140 : decode cX12_goThrough 140 = .ok (.iinc 4 1, 3) := by decide +kernel
theorem dX12_goThrough_143 : decode cX12_goThrough 143 = .ok (.goto (-23), 3) := by decide +kernel
theorem dX12_goThrough_146 : decode cX12_goThrough 146 = .ok (.aload_n 0, 1) := by decide +kernel
theorem dX12_goThrough_147 : decode cX12_goThrough 147 = .ok (.dup, 1) := by decide +kernel
theorem dX12_goThrough_148 : decode cX12_goThrough 148 = .ok (.getfield 152, 3) := by decide +kernel
theorem dX12_goThrough_151 : decode cX12_goThrough 151 = .ok (.lload_n 2, 1) := by decide +kernel
theorem dX12_goThrough_152 : decode cX12_goThrough 152 = .ok (.lconst 0, 1) := by decide +kernel
theorem dX12_goThrough_153 : decode cX12_goThrough 153 = .ok (.lcmp, 1) := by decide +kernel
theorem dX12_goThrough_154 : decode cX12_goThrough 154 = .ok (.ifCond .ne 7, 3) := by decide +kernel
theorem dX12_goThrough_157 : decode cX12_goThrough 157 = .ok (.lconst 1, 1) := by decide +kernel
theorem dX12_goThrough_158 : decode cX12_goThrough 158 = .ok (.goto 4, 3) := by decide +kernel
theorem dX12_goThrough_161 : decode cX12_goThrough 161 = .ok (.lconst 0, 1) := by decide +kernel
theorem dX12_goThrough_162 : decode cX12_goThrough 162 = .ok (.ladd, 1) := by decide +kernel
theorem dX12_goThrough_163 : decode cX12_goThrough 163 = .ok (.putfield 152, 3) := by decide +kernel
theorem dX12_goThrough_166 : decode cX12_goThrough 166 = .ok (.aload_n 0, 1) := by decide +kernel
theorem dX12_goThrough_167 : decode cX12_goThrough 167 = .ok (.dup, 1) := by decide +kernel
theorem dX12_goThrough_168 : decode cX12_goThrough 168 = .ok (.getfield 142, 3) := by decide +kernel
theorem dX12_goThrough_171 : decode cX12_goThrough 171 = .ok (.lconst 1, 1) := by decide +kernel
theorem dX12_goThrough_172 : decode cX12_goThrough 172 = .ok (.ladd, 1) := by decide +kernel
theorem dX12_goThrough_173 : decode cX12_goThrough 173 = .ok (.putfield 142, 3) := by decide +kernel
theorem dX12_goThrough_176 : decode cX12_goThrough 176 = .ok (.goto (-148), 3) := by decide +kernel
theorem dX12_goThrough_179 : decode cX12_goThrough 179 = .ok (.return_, 1) := by decide +kernel
theorem dX12_length_0 : decode cX12_length 0 = .ok (.iload_n 1, 1) := by decide +kernel
theorem dX12_length_1 : decode cX12_length 1 = .ok (.i2l, 1) := by decide +kernel
theorem dX12_length_2 : decode cX12_length 2 = .ok (.lconst 1, 1) := by decide +kernel
theorem dX12_length_3 : decode cX12_length 3 = .ok (.ldc2_w 165, 3) := by decide +kernel
theorem dX12_length_6 : decode cX12_length 6 = .ok (.invokestatic 84, 3) := by decide +kernel
theorem dX12_length_9 : decode cX12_length 9 = .ok (.ifCond .eq 23, 3) := by decide +kernel
theorem dX12_length_12 : decode cX12_length 12 = .ok (.iload_n 2, 1) := by decide +kernel
theorem dX12_length_13 : decode cX12_length 13 = .ok (.i2l, 1) := by decide +kernel
theorem dX12_length_14 : decode cX12_length 14 = .ok (.lconst 0, 1) := by decide +kernel
theorem dX12_length_15 : decode cX12_length 15 = .ok (.ldc2_w 90, 3) := by decide +kernel
theorem dX12_length_18 : decode cX12_length 18 = .ok (.invokestatic 84, 3) := by decide +kernel
theorem dX12_length_21 : decode cX12_length 21 = .ok (.ifCond .eq 11, 3) := by decide +kernel
theorem dX12_length_24 : decode cX12_length 24 = .ok (.aload_n 0, 1) := by decide +kernel
theorem dX12_length_25 : decode cX12_length 25 = .ok (.iload_n 1, 1) := by decide +kernel
theorem dX12_length_26 : decode cX12_length 26 = .ok (.invokevirtual 167, 3) := by decide +kernel
theorem dX12_length_29 : decode cX12_length 29 = .ok (.ifCond .eq 7, 3) := by decide +kernel
theorem dX12_length_32 : decode cX12_length 32 = .ok (.ldc2_w 79, 3) := by decide +kernel
theorem dX12_length_35 : decode cX12_length 35 = .ok (.lreturn, 1) := by decide +kernel
theorem dX12_length_36 : decode cX12_length 36 = .ok (.aload_n 0, 1) := by decide +kernel
theorem dX12_length_37 : decode cX12_length 37 = .ok (.iload_n 1, 1) := by decide +kernel
theorem dX12_length_38 : decode cX12_length 38 = .ok (.invokevirtual 170, 3) := by decide +kernel
theorem dX12_length_41 : decode cX12_length 41 = .ok (.iload_n 2, 1) := by decide +kernel
theorem dX12_length_42 : decode cX12_length 42 = .ok (.ifCond .ne 10, 3) := by decide +kernel
theorem dX12_length_45 : decode cX12_length 45 = .ok (.aload_n 0, 1) := by decide +kernel
theorem dX12_length_46 : decode cX12_length 46 = .ok (.getfield 142, 3) := by decide +kernel
theorem dX12_length_49 : decode cX12_length 49 = .ok (.goto 31, 3) := by decide +kernel
theorem dX12_length_52 : decode cX12_length 52 = .ok (.iload_n 2, 1) := by decide +kernel
theorem dX12_length_53 : decode cX12_length 53 = .ok (.iconst 1, 1) := by decide +kernel
theorem dX12_length_54 : decode cX12_length 54 = .ok (.if_icmp .ne 10, 3) := by decide +kernel
theorem dX12_length_57 : decode cX12_length 57 = .ok (.aload_n 0, 1) := by decide +kernel
theorem dX12_length_58 : decode cX12_length 58 = .ok (.getfield 146, 3) := by decide +kernel
theorem dX12_length_61 : decode cX12_length 61 = .ok (.goto 19, 3) := by decide +kernel
theorem dX12_length_64 : decode cX12_length 64 = .ok (.iload_n 2, 1) := by decide +kernel
theorem dX12_length_65 : decode cX12_length 65 = .ok (.iconst 2, 1) := by decide +kernel
theorem dX12_length_66 : decode cX12_length 66 = .ok (.if_icmp .ne 10, 3) := by decide +kernel
theorem dX12_length_69 : decode cX12_length 69 = .ok (.aload_n 0, 1) := by decide +kernel
theorem dX12_length_70 : decode cX12_length 70 = .ok (.getfield 149, 3) := by decide +kernel
theorem dX12_length_73 : decode cX12_length 73 = .ok (.goto 7, 3) := by decide +kernel
theorem dX12_length_76 : decode cX12_length 76 = .ok (.aload_n 0, 1) := by decide +kernel
theorem dX12_length_77 : decode cX12_length 77 = .ok (.getfield 152, 3) := by decide +kernel
theorem dX12_length_80 : decode cX12_length 80 = .ok (.lreturn, 1) := by decide +kernel
theorem dX12_extreme_0 : decode cX12_extreme 0 = .ok (.iload_n 1, 1) := by decide +kernel
theorem dX12_extreme_1 : decode cX12_extreme 1 = .ok (.i2l, 1) := by decide +kernel
theorem dX12_extreme_2 : decode cX12_extreme 2 = .ok (.lconst 1, 1) := by decide +kernel
theorem dX12_extreme_3 : decode cX12_extreme 3 = .ok (.ldc2_w 165, 3) := by decide +kernel
theorem dX12_extreme_6 : decode cX12_extreme 6 = .ok (.invokestatic 84, 3) := by decide +kernel
theorem dX12_extreme_9 : decode cX12_extreme 9 = .ok (.ifCond .eq 26, 3) := by decide +kernel
theorem dX12_extreme_12 : decode cX12_extreme 12 = .ok (.iload_n 2, 1) := by decide +kernel
theorem dX12_extreme_13 : decode cX12_extreme 13 = .ok (.i2l, 1) := by decide +kernel
theorem dX12_extreme_14 : decode cX12_extreme 14 = .ok (.lconst 0, 1) := by decide +kernel
theorem dX12_extreme_15 : decode cX12_extreme 15 = .ok (.lconst 1, 1) := by decide +kernel
theorem dX12_extreme_16 : decode cX12_extreme 16 = .ok (.invokestatic 84, 3) := by decide +kernel
theorem dX12_extreme_19 : decode cX12_extreme 19 = .ok (.ifCond .eq 16, 3) := by decide +kernel
theorem dX12_extreme_22 : decode cX12_extreme 22 = .ok (.iload_n 3, 1) := by decide +kernel
theorem dX12_extreme_23 : decode cX12_extreme 23 = .ok (.i2l, 1) := by decide +kernel
theorem dX12_extreme_24 : decode cX12_extreme 24 = .ok (.lconst 0, 1) := by decide +kernel
theorem dX12_extreme_25 : decode cX12_extreme 25 = .ok (.iload_n 1, 1) := by decide +kernel
theorem dX12_extreme_26 : decode cX12_extreme 26 = .ok (.i2l, 1) := by decide +kernel
theorem dX12_extreme_27 : decode cX12_extreme 27 = .ok (.lconst 1, 1) := by decide +kernel
theorem dX12_extreme_28 : decode cX12_extreme 28 = .ok (.lsub, 1) := by decide +kernel
theorem dX12_extreme_29 : decode cX12_extreme 29 = .ok (.invokestatic 84, 3) := by decide +kernel
theorem dX12_extreme_32 : decode cX12_extreme 32 = .ok (.ifCond .ne 6, 3) := by decide +kernel
theorem dX12_extreme_35 : decode cX12_extreme 35 = .ok (.bipush (-2), 2) := by decide +kernel
theorem dX12_extreme_37 : decode cX12_extreme 37 = .ok (.ireturn, 1) := by decide +kernel
theorem dX12_extreme_38 : decode cX12_extreme 38 = .ok (.aload_n 0, 1) := by decide +kernel
theorem dX12_extreme_39 : decode cX12_extreme 39 = .ok (.iload_n 1, 1) := by decide +kernel
theorem dX12_extreme_40 : decode cX12_extreme 40 = .ok (.invokevirtual 167, 3) := by decide +kernel
theorem dX12_extreme_43 : decode cX12_extreme 43 = .ok (.ifCond .eq 6, 3) := by decide +kernel
theorem dX12_extreme_46 : decode cX12_extreme 46 = .ok (.bipush (-6), 2) := by decide +kernel
theorem dX12_extreme_48 : decode cX12_extreme 48 = .ok (.ireturn, 1) := by decide +kernel
theorem dX12_extreme_49 : decode cX12_extreme 49 = .ok (.aload_n 0, 1) := by decide +kernel
theorem dX12_extreme_50 : decode cX12_extreme 50 = .ok (.iload_n 1, 1) := by decide +kernel
theorem dX12_extreme_51 : decode cX12_extreme 51 = .ok (.invokevirtual 170, 3) := by decide +kernel
theorem dX12_extreme_54 : decode cX12_extreme 54 = .ok (.aload_n 0, 1) := by decide +kernel
theorem dX12_extreme_55 : decode cX12_extreme 55 = .ok (.getfield 142, 3) := by decide +kernel
theorem dX12_extreme_58 : decode cX12_extreme 58 = .ok (.lconst 0, 1) := by decide +kernel
theorem dX12_extreme_59 : decode cX12_extreme 59 = .ok (.lcmp, 1) := by decide +kernel
theorem dX12_extreme_60 : decode cX12_extreme 60 = .ok (.ifCond .ne 8, 3) := by decide +kernel
theorem dX12_extreme_63 : decode cX12_extreme 63 = .ok (.bipush (-9), 2) := by decide +kernel
theorem dX12_extreme_65 : decode cX12_extreme 65 = .ok (.goto 22, 3) := by decide +kernel
theorem dX12_extreme_68 : decode cX12_extreme 68 = .ok (.iload_n 2, 1) := by decide +kernel
theorem dX12_extreme_69 : decode cX12_extreme 69 = .ok (.ifCond .ne 12, 3) := by decide +kernel
theorem dX12_extreme_72 : decode cX12_extreme 72 = .ok (.aload_n 0, 1) := by decide +kernel
theorem dX12_extreme_73 : decode cX12_extreme 73 = .ok (.getfield 43, 3) := by decide +kernel
theorem dX12_extreme_76 : decode cX12_extreme 76 = .ok (.iload_n 3, 1) := by decide +kernel
theorem dX12_extreme_77 : decode cX12_extreme 77 = .ok (.iaload, 1) := by decide +kernel
theorem dX12_extreme_78 : decode cX12_extreme 78 = .ok (.goto 9, 3) := by decide +kernel
theorem dX12_extreme_81 : decode cX12_extreme 81 = .ok (.aload_n 0, 1) := by decide +kernel
theorem dX12_extreme_82 : decode cX12_extreme 82 = .ok (.getfield 46, 3) := by decide +kernel
theorem dX12_extreme_85 : decode cX12_extreme 85 = .ok (.iload_n 3, 1) := by decide +kernel
theorem dX12_extreme_86 : decode cX12_extreme 86 = .ok (.iaload, 1) := by decide +kernel
theorem dX12_extreme_87 : decode cX12_extreme 87 = .ok (.ireturn, 1) := by decide +kernel
theorem dX12_timesOf_0 : decode cX12_timesOf 0 = .ok (.iconst 1, 1) := by decide +kernel
theorem dX12_timesOf_1 : decode cX12_timesOf 1 = .ok (.istore_n 2, 1) := by decide +kernel
theorem dX12_timesOf_2 : decode cX12_timesOf 2 = .ok (.iload_n 2, 1) := by decide +kernel
theorem dX12_timesOf_3 : decode cX12_timesOf 3 = .ok (.iload_n 1, 1) := by decide +kernel
theorem dX12_timesOf_4 : decode cX12_timesOf 4 = .ok (.if_icmp .ge 73, 3) := by decide +kernel
theorem dX12_timesOf_7 : decode cX12_timesOf 7 = .ok (.iload_n 1, 1) := by decide +kernel
theorem dX12_timesOf_8 : decode cX12_timesOf 8 = .ok (.iload_n 2, 1) := by decide +kernel
theorem dX12_timesOf_9 : decode cX12_timesOf 9 = .ok (.irem, 1) := by decide +kernel
theorem dX12_timesOf_10 : decode cX12_timesOf 10 = .ok (.ifCond .ne 7, 3) := by decide +kernel
theorem dX12_timesOf_13 : decode cX12_timesOf 13 = .ok (.iconst 1, 1) := by decide +kernel
theorem dX12_timesOf_14 : decode cX12_timesOf 14 = .ok (.goto 4, 3) := by decide +kernel
theorem dX12_timesOf_17 : decode cX12_timesOf 17 = .ok (.iconst 0, 1) := by decide +kernel
theorem dX12_timesOf_18 : decode cX12_timesOf 18 = .ok (.istore_n 3, 1) := by decide +kernel
theorem dX12_timesOf_19 : decode cX12_timesOf 19 = .ok (.iload_n 2, 1) := by decide +kernel
theorem dX12_timesOf_20 : decode cX12_timesOf 20 = .ok (.istore 4, 2) := by decide +kernel
theorem dX12_timesOf_22 : decode cX12_timesOf 22 = .ok (.iload 4, 2) := by decide +kernel
theorem dX12_timesOf_24 : decode cX12_timesOf 24 = .ok (.iload_n 1, 1) := by decide +kernel
theorem dX12_timesOf_25 : decode cX12_timesOf 25 = .ok (.if_icmp .ge 38, 3) := by decide +kernel
theorem dX12_timesOf_28 : decode cX12_timesOf 28 = .ok (.iload_n 3, 1) := by decide +kernel
theorem dX12_timesOf_29 : decode cX12_timesOf 29 = .ok (.ifCond .eq 34, 3) := by decide +kernel
theorem dX12_timesOf_32 : decode cX12_timesOf 32 = .ok (.aload_n 0, 1) := by decide +kernel
theorem dX12_timesOf_33 : decode cX12_timesOf 33 = .ok (.getfield 49, 3) := by decide +kernel
theorem dX12_timesOf_36 : decode cX12_timesOf 36 = .ok (.iload 4, 2) := by decide +kernel
theorem dX12_timesOf_38 : decode cX12_timesOf 38 = .ok (.iaload, 1) := by decide +kernel
theorem dX12_timesOf_39 : decode cX12_timesOf 39 = .ok (.aload_n 0, 1) := by decide +kernel
theorem dX12_timesOf_40 : decode cX12_timesOf 40 = .ok (.getfield 49, 3) := by decide +kernel
theorem dX12_timesOf_43 : decode cX12_timesOf 43 = .ok (.iload 4, 2) := by decide +kernel
theorem dX12_timesOf_45 : decode cX12_timesOf 45 = .ok (.iload_n 2, 1) := by decide +kernel
theorem dX12_timesOf_46 : decode cX12_timesOf 46 = .ok (.isub, 1) := by decide +kernel
theorem dX12_timesOf_47 : decode cX12_timesOf 47 = .ok (.iaload, 1) := by decide +kernel
theorem dX12_timesOf_48 : decode cX12_timesOf 48 = .ok (.if_icmp .ne 7, 3) := by decide +kernel
theorem dX12_timesOf_51 : decode cX12_timesOf 51 = .ok (.iconst 1, 1) := by decide +kernel
theorem dX12_timesOf_52 : decode cX12_timesOf 52 = .ok (.goto 4, 3) := by decide +kernel
theorem dX12_timesOf_55 : decode cX12_timesOf 55 = .ok (.iconst 0, 1) := by decide +kernel
theorem dX12_timesOf_56 : decode cX12_timesOf 56 = .ok (.istore_n 3, 1) := by decide +kernel
theorem dX12_timesOf_57 : decode cX12_timesOf 57 = .ok (.iinc 4 1, 3) := by decide +kernel
theorem dX12_timesOf_60 : decode cX12_timesOf 60 = .ok (.goto (-38), 3) := by decide +kernel
theorem dX12_timesOf_63 : decode cX12_timesOf 63 = .ok (.iload_n 3, 1) := by decide +kernel
theorem dX12_timesOf_64 : decode cX12_timesOf 64 = .ok (.ifCond .eq 7, 3) := by decide +kernel
theorem dX12_timesOf_67 : decode cX12_timesOf 67 = .ok (.iload_n 1, 1) := by decide +kernel
theorem dX12_timesOf_68 : decode cX12_timesOf 68 = .ok (.iload_n 2, 1) := by decide +kernel
theorem dX12_timesOf_69 : decode cX12_timesOf 69 = .ok (.idiv, 1) := by decide +kernel
theorem dX12_timesOf_70 : decode cX12_timesOf 70 = .ok (.ireturn, 1) := by decide +kernel
theorem dX12_timesOf_71 : decode cX12_timesOf 71 = .ok (.iinc 2 1, 3) := by decide +kernel
theorem dX12_timesOf_74 : decode cX12_timesOf 74 = .ok (.goto (-72), 3) := by decide +kernel
theorem dX12_timesOf_77 : decode cX12_timesOf 77 = .ok (.iconst 1, 1) := by decide +kernel
theorem dX12_timesOf_78 : decode cX12_timesOf 78 = .ok (.ireturn, 1) := by decide +kernel
theorem dX12_isAllowed_0 : decode cX12_isAllowed 0 = .ok (.iconst 1, 1) := by decide +kernel
theorem dX12_isAllowed_1 : decode cX12_isAllowed 1 = .ok (.istore_n 2, 1) := by decide +kernel
theorem dX12_isAllowed_2 : decode cX12_isAllowed 2 = .ok (.iload_n 2, 1) := by decide +kernel
theorem dX12_isAllowed_3 : decode cX12_isAllowed 3 = .ok (.iload_n 1, 1) := by decide +kernel
theorem dX12_isAllowed_4 : decode cX12_isAllowed 4 = .ok (.if_icmp .ge 32, 3) := by decide +kernel
theorem dX12_isAllowed_7 : decode cX12_isAllowed 7 = .ok (.aload_n 0, 1) := by decide +kernel
theorem dX12_isAllowed_8 : decode cX12_isAllowed 8 = .ok (.aload_n 0, 1) := by decide +kernel
theorem dX12_isAllowed_9 : decode cX12_isAllowed 9 = .ok (.getfield 49, 3) := by decide +kernel
theorem dX12_isAllowed_12 : decode cX12_isAllowed 12 = .ok (.iload_n 2, 1) := by decide +kernel
theorem dX12_isAllowed_13 : decode cX12_isAllowed 13 = .ok (.iconst 1, 1) := by decide +kernel
theorem dX12_isAllowed_14 : decode cX12_isAllowed 14 = .ok (.isub, 1) := by decide +kernel
theorem dX12_isAllowed_15 : decode cX12_isAllowed 15 = .ok (.iaload, 1) := by decide +kernel
theorem dX12_isAllowed_16 : decode cX12_isAllowed 16 = .ok (.aload_n 0, 1) := by decide +kernel
theorem dX12_isAllowed_17 : decode cX12_isAllowed 17 = .ok (.getfield 49, 3) := by decide +kernel
theorem dX12_isAllowed_20 : decode cX12_isAllowed 20 = .ok (.iload_n 2, 1) := by decide +kernel
theorem dX12_isAllowed_21 : decode cX12_isAllowed 21 = .ok (.iaload, 1) := by decide +kernel
theorem dX12_isAllowed_22 : decode cX12_isAllowed 22 = .ok (.invokevirtual 127, 3) := by decide +kernel
theorem dX12_isAllowed_25 : decode cX12_isAllowed 25 = .ok (.ifCond .ne 5, 3) := by decide +kernel
theorem dX12_isAllowed_28 : decode cX12_isAllowed 28 = .ok (.iconst 0, 1) := by decide +kernel
theorem dX12_isAllowed_29 : decode cX12_isAllowed 29 = .ok (.ireturn, 1) := by decide +kernel
theorem dX12_isAllowed_30 : decode cX12_isAllowed 30 = .ok (.iinc 2 1, 3) := by decide +kernel
theorem dX12_isAllowed_33 : decode cX12_isAllowed 33 = .ok (.goto (-31), 3) := by decide +kernel
theorem dX12_isAllowed_36 : decode cX12_isAllowed 36 = .ok (.iconst 1, 1) := by decide +kernel
theorem dX12_isAllowed_37 : decode cX12_isAllowed 37 = .ok (.ireturn, 1) := by decide +kernel
theorem dX12_isFirstTurn_0 : decode cX12_isFirstTurn 0 = .ok (.iconst 1, 1) := by decide +kernel
theorem dX12_isFirstTurn_1 : decode cX12_isFirstTurn 1 = .ok (.istore_n 2, 1) := by decide +kernel
theorem dX12_isFirstTurn_2 : decode cX12_isFirstTurn 2 = .ok (.iload_n 2, 1) := by decide +kernel
theorem dX12_isFirstTurn_3 : decode cX12_isFirstTurn 3 = .ok (.iload_n 1, 1) := by decide +kernel
theorem dX12_isFirstTurn_4 : decode cX12_isFirstTurn 4 = .ok (.if_icmp .ge 67, 3) := by decide +kernel
theorem dX12_isFirstTurn_7 : decode cX12_isFirstTurn 7 = .ok (.iconst 0, 1) := by decide +kernel
theorem dX12_isFirstTurn_8 : decode cX12_isFirstTurn 8 = .ok (.istore_n 3, 1) := by decide +kernel
theorem dX12_isFirstTurn_9 : decode cX12_isFirstTurn 9 = .ok (.iload_n 3, 1) := by decide +kernel
theorem dX12_isFirstTurn_10 : decode cX12_isFirstTurn 10 = .ok (.iload_n 1, 1) := by decide +kernel
theorem dX12_isFirstTurn_11 : decode cX12_isFirstTurn 11 = .ok (.if_icmp .ge 28, 3) := by decide +kernel
theorem dX12_isFirstTurn_14 : decode cX12_isFirstTurn 14 = .ok (.aload_n 0, 1) := by decide +kernel
theorem dX12_isFirstTurn_15 : decode cX12_isFirstTurn 15 = .ok (.getfield 49, 3) := by decide +kernel
theorem dX12_isFirstTurn_18 : decode cX12_isFirstTurn 18 = .ok (.iload_n 3, 1) := by decide +kernel
theorem dX12_isFirstTurn_19 : decode cX12_isFirstTurn 19 = .ok (.iload_n 2, 1) := by decide +kernel
theorem dX12_isFirstTurn_20 : decode cX12_isFirstTurn 20 = .ok (.iadd, 1) := by decide +kernel
theorem dX12_isFirstTurn_21 : decode cX12_isFirstTurn 21 = .ok (.iload_n 1, 1) := by decide +kernel
theorem dX12_isFirstTurn_22 : decode cX12_isFirstTurn 22 = .ok (.irem, 1) := by decide +kernel
theorem dX12_isFirstTurn_23 : decode cX12_isFirstTurn 23 = .ok (.iaload, 1) := by decide +kernel
theorem dX12_isFirstTurn_24 : decode cX12_isFirstTurn 24 = .ok (.aload_n 0, 1) := by decide +kernel
theorem dX12_isFirstTurn_25 : decode cX12_isFirstTurn 25 = .ok (.getfield 49, 3) := by decide +kernel
theorem dX12_isFirstTurn_28 : decode cX12_isFirstTurn 28 = .ok (.iload_n 3, 1) := by decide +kernel
theorem dX12_isFirstTurn_29 : decode cX12_isFirstTurn 29 = .ok (.iaload, 1) := by decide +kernel
theorem dX12_isFirstTurn_30 : decode cX12_isFirstTurn 30 = .ok (.if_icmp .ne 9, 3) := by decide +kernel
theorem dX12_isFirstTurn_33 : decode cX12_isFirstTurn 33 = .ok (.iinc 3 1, 3) := by decide +kernel
theorem dX12_isFirstTurn_36 : decode cX12_isFirstTurn 36 = .ok (.goto (-27), 3) := by decide +kernel
theorem dX12_isFirstTurn_39 : decode cX12_isFirstTurn 39 = .ok (.iload_n 3, 1) := by decide +kernel
theorem dX12_isFirstTurn_40 : decode cX12_isFirstTurn 40 = .ok (.iload_n 1, 1) := by decide +kernel
theorem dX12_isFirstTurn_41 : decode cX12_isFirstTurn 41 = .ok (.if_icmp .ge 24, 3) := by decide +kernel
theorem dX12_isFirstTurn_44 : decode cX12_isFirstTurn 44 = .ok (.aload_n 0, 1) := by decide +kernel
theorem dX12_isFirstTurn_45 : decode cX12_isFirstTurn 45 = .ok (.getfield 49, 3) := by decide +kernel
theorem dX12_isFirstTurn_48 : decode cX12_isFirstTurn 48 = .ok (.iload_n 3, 1) := by decide +kernel
theorem dX12_isFirstTurn_49 : decode cX12_isFirstTurn 49 = .ok (.iload_n 2, 1) := by decide +kernel
theorem dX12_isFirstTurn_50 : decode cX12_isFirstTurn 50 = .ok (.iadd, 1) := by decide +kernel
theorem dX12_isFirstTurn_51 : decode cX12_isFirstTurn 51 = .ok (.iload_n 1, 1) := by decide +kernel
theorem dX12_isFirstTurn_52 : decode cX12_isFirstTurn 52 = .ok (.irem, 1) := by decide +kernel
theorem dX12_isFirstTurn_53 : decode cX12_isFirstTurn 53 = .ok (.iaload, 1) := by decide +kernel
theorem dX12_isFirstTurn_54 : decode cX12_isFirstTurn 54 = .ok (.aload_n 0, 1) := by decide +kernel
theorem dX12_isFirstTurn_55 : decode cX12_isFirstTurn 55 = .ok (.getfield 49, 3) := by decide +kernel
theorem dX12_isFirstTurn_58 : decode cX12_isFirstTurn 58 = .ok (.iload_n 3, 1) := by decide +kernel
theorem dX12_isFirstTurn_59 : decode cX12_isFirstTurn 59 = .ok (.iaload, 1) := by decide +kernel
theorem dX12_isFirstTurn_60 : decode cX12_isFirstTurn 60 = .ok (.if_icmp .ge 5, 3) := by decide +kernel
theorem dX12_isFirstTurn_63 : decode cX12_isFirstTurn 63 = .ok (.iconst 0, 1) := by decide +kernel
theorem dX12_isFirstTurn_64 : decode cX12_isFirstTurn 64 = .ok (.ireturn, 1) := by decide +kernel
theorem dX12_isFirstTurn_65 : decode cX12_isFirstTurn 65 = .ok (.iinc 2 1, 3) := by decide +kernel
theorem dX12_isFirstTurn_68 : decode cX12_isFirstTurn 68 = .ok (.goto (-66), 3) := by decide +kernel
theorem dX12_isFirstTurn_71 : decode cX12_isFirstTurn 71 = .ok (.iconst 1, 1) := by decide +kernel
theorem dX12_isFirstTurn_72 : decode cX12_isFirstTurn 72 = .ok (.ireturn, 1) := by decide +kernel
theorem dX12_isRing_0 : decode cX12_isRing 0 = .ok (.aload_n 0, 1) := by decide +kernel
theorem dX12_isRing_1 : decode cX12_isRing 1 = .ok (.iload_n 1, 1) := by decide +kernel
theorem dX12_isRing_2 : decode cX12_isRing 2 = .ok (.invokevirtual 174, 3) := by decide +kernel
theorem dX12_isRing_5 : decode cX12_isRing 5 = .ok (.ifCond .eq 45, 3) := by decide +kernel
theorem dX12_isRing_8 : decode cX12_isRing 8 = .ok (.aload_n 0, 1) := by decide +kernel
theorem dX12_isRing_9 : decode cX12_isRing 9 = .ok (.aload_n 0, 1) := by decide +kernel
theorem dX12_isRing_10 : decode cX12_isRing 10 = .ok (.getfield 49, 3) := by decide +kernel
theorem dX12_isRing_13 : decode cX12_isRing 13 = .ok (.iload_n 1, 1) := by decide +kernel
theorem dX12_isRing_14 : decode cX12_isRing 14 = .ok (.iconst 1, 1) := by decide +kernel
theorem dX12_isRing_15 : decode cX12_isRing 15 = .ok (.isub, 1) := by decide +kernel
theorem dX12_isRing_16 : decode cX12_isRing 16 = .ok (.iaload, 1) := by decide +kernel
theorem dX12_isRing_17 : decode cX12_isRing 17 = .ok (.aload_n 0, 1) := by decide +kernel
theorem dX12_isRing_18 : decode cX12_isRing 18 = .ok (.getfield 49, 3) := by decide +kernel
theorem dX12_isRing_21 : decode cX12_isRing 21 = .ok (.iconst 0, 1) := by decide +kernel
theorem dX12_isRing_22 : decode cX12_isRing 22 = .ok (.iaload, 1) := by decide +kernel
theorem dX12_isRing_23 : decode cX12_isRing 23 = .ok (.invokevirtual 127, 3) := by decide +kernel
theorem dX12_isRing_26 : decode cX12_isRing 26 = .ok (.ifCond .eq 24, 3) := by decide +kernel
theorem dX12_isRing_29 : decode cX12_isRing 29 = .ok (.aload_n 0, 1) := by decide +kernel
theorem dX12_isRing_30 : decode cX12_isRing 30 = .ok (.iload_n 1, 1) := by decide +kernel
theorem dX12_isRing_31 : decode cX12_isRing 31 = .ok (.invokevirtual 177, 3) := by decide +kernel
theorem dX12_isRing_34 : decode cX12_isRing 34 = .ok (.iconst 1, 1) := by decide +kernel
theorem dX12_isRing_35 : decode cX12_isRing 35 = .ok (.if_icmp .ne 15, 3) := by decide +kernel
theorem dX12_isRing_38 : decode cX12_isRing 38 = .ok (.aload_n 0, 1) := by decide +kernel
theorem dX12_isRing_39 : decode cX12_isRing 39 = .ok (.iload_n 1, 1) := by decide +kernel
theorem dX12_isRing_40 : decode cX12_isRing 40 = .ok (.invokevirtual 180, 3) := by decide +kernel
theorem dX12_isRing_43 : decode cX12_isRing 43 = .ok (.ifCond .eq 7, 3) := by decide +kernel
theorem dX12_isRing_46 : decode cX12_isRing 46 = .ok (.iconst 1, 1) := by decide +kernel
theorem dX12_isRing_47 : decode cX12_isRing 47 = .ok (.goto 4, 3) := by decide +kernel
theorem dX12_isRing_50 : decode cX12_isRing 50 = .ok (.iconst 0, 1) := by decide +kernel
theorem dX12_isRing_51 : decode cX12_isRing 51 = .ok (.ireturn, 1) := by decide +kernel
theorem dX12_findRings_0 : decode cX12_findRings 0 = .ok (.aload_n 0, 1) := by decide +kernel
theorem dX12_findRings_1 : decode cX12_findRings 1 = .ok (.iconst 0, 1) := by decide +kernel
theorem dX12_findRings_2 : decode cX12_findRings 2 = .ok (.putfield 183, 3) := by decide +kernel
end
section
theorem dX12_findRings_5 : decode cX12_findRings 5 = .ok (.aload_n 0, 1) := by decide +kernel
theorem dX12_findRings_6 : decode cX12_findRings 6 = .ok (.lconst 0, 1) := by decide +kernel
theorem dX12_findRings_7 : decode cX12_findRings 7 = .ok (.putfield 186, 3) := by decide +kernel
theorem dX12_findRings_10 : decode cX12_findRings 10 = .ok (.aload_n 0, 1) := by decide +kernel
theorem dX12_findRings_11 : decode cX12_findRings 11 = .ok (.invokevirtual 155, 3) := by decide +kernel
theorem dX12_findRings_14 : decode cX12_findRings 14 = .ok (.aload_n 0, 1) := by decide +kernel
theorem dX12_findRings_15 : decode cX12_findRings 15 = .ok (.iload_n 1, 1) := by decide +kernel
theorem dX12_findRings_16 : decode cX12_findRings 16 = .ok (.invokevirtual 158, 3) := by decide +kernel
theorem dX12_findRings_19 : decode cX12_findRings 19 = .ok (.ifCond .eq 112, 3) := by decide +kernel
theorem dX12_findRings_22 : decode cX12_findRings 22 = .ok (.iconst 0, 1) := by decide +kernel
theorem dX12_findRings_23 : decode cX12_findRings 23 = .ok (.istore_n 2, 1) := by decide +kernel
theorem dX12_findRings_24 : decode cX12_findRings 24 = .ok (.iload_n 2, 1) := by decide +kernel
theorem dX12_findRings_25 : decode cX12_findRings 25 = .ok (.iload_n 1, 1) := by decide +kernel
theorem dX12_findRings_26 : decode cX12_findRings 26 = .ok (.if_icmp .ge 21, 3) := by decide +kernel
theorem dX12_findRings_29 : decode cX12_findRings 29 = .ok (.aload_n 0, 1) := by decide +kernel
theorem dX12_findRings_30 : decode cX12_findRings 30 = .ok (.getfield 49, 3) := by decide +kernel
theorem dX12_findRings_33 : decode cX12_findRings 33 = .ok (.iload_n 2, 1) := by decide +kernel
theorem dX12_findRings_34 : decode cX12_findRings 34 = .ok (.aload_n 0, 1) := by decide +kernel
theorem dX12_findRings_35 : decode cX12_findRings 35 = .ok (.getfield 34, 3) := by decide +kernel
theorem dX12_findRings_38 : decode cX12_findRings 38 = .ok (.iload_n 2, 1) := by decide +kernel
theorem dX12_findRings_39 : decode cX12_findRings 39 = .ok (.iaload, 1) := by decide +kernel
theorem dX12_findRings_40 : decode cX12_findRings 40 = .ok (.iastore, 1) := by decide +kernel
theorem dX12_findRings_41 : decode cX12_findRings 41 = .ok (.iinc 2 1, 3) := by decide +kernel
theorem dX12_findRings_44 : decode cX12_findRings 44 = .ok (.goto (-20), 3) := by decide +kernel
theorem dX12_findRings_47 : decode cX12_findRings 47 = .ok (.aload_n 0, 1) := by decide +kernel
theorem dX12_findRings_48 : decode cX12_findRings 48 = .ok (.iload_n 1, 1) := by decide +kernel
theorem dX12_findRings_49 : decode cX12_findRings 49 = .ok (.invokevirtual 189, 3) := by decide +kernel
theorem dX12_findRings_52 : decode cX12_findRings 52 = .ok (.ifCond .ne 6, 3) := by decide +kernel
theorem dX12_findRings_55 : decode cX12_findRings 55 = .ok (.goto (-41), 3) := by decide +kernel
theorem dX12_findRings_58 : decode cX12_findRings 58 = .ok (.aload_n 0, 1) := by decide +kernel
theorem dX12_findRings_59 : decode cX12_findRings 59 = .ok (.getfield 183, 3) := by decide +kernel
theorem dX12_findRings_62 : decode cX12_findRings 62 = .ok (.ifCond .eq 22, 3) := by decide +kernel
theorem dX12_findRings_65 : decode cX12_findRings 65 = .ok (.aload_n 0, 1) := by decide +kernel
theorem dX12_findRings_66 : decode cX12_findRings 66 = .ok (.iload_n 1, 1) := by decide +kernel
theorem dX12_findRings_67 : decode cX12_findRings 67 = .ok (.invokevirtual 192, 3) := by decide +kernel
theorem dX12_findRings_70 : decode cX12_findRings 70 = .ok (.invokestatic 124, 3) := by decide +kernel
theorem dX12_findRings_73 : decode cX12_findRings 73 = .ok (.aload_n 0, 1) := by decide +kernel
theorem dX12_findRings_74 : decode cX12_findRings 74 = .ok (.getfield 186, 3) := by decide +kernel
theorem dX12_findRings_77 : decode cX12_findRings 77 = .ok (.invokestatic 124, 3) := by decide +kernel
theorem dX12_findRings_80 : decode cX12_findRings 80 = .ok (.lcmp, 1) := by decide +kernel
theorem dX12_findRings_81 : decode cX12_findRings 81 = .ok (.ifCond .le 37, 3) := by decide +kernel
theorem dX12_findRings_84 : decode cX12_findRings 84 = .ok (.aload_n 0, 1) := by decide +kernel
theorem dX12_findRings_85 : decode cX12_findRings 85 = .ok (.aload_n 0, 1) := by decide +kernel
theorem dX12_findRings_86 : decode cX12_findRings 86 = .ok (.iload_n 1, 1) := by decide +kernel
theorem dX12_findRings_87 : decode cX12_findRings 87 = .ok (.invokevirtual 192, 3) := by decide +kernel
theorem dX12_findRings_90 : decode cX12_findRings 90 = .ok (.putfield 186, 3) := by decide +kernel
theorem dX12_findRings_93 : decode cX12_findRings 93 = .ok (.iconst 0, 1) := by decide +kernel
theorem dX12_findRings_94 : decode cX12_findRings 94 = .ok (.istore_n 2, 1) := by decide +kernel
theorem dX12_findRings_95 : decode cX12_findRings 95 = .ok (.iload_n 2, 1) := by decide +kernel
theorem dX12_findRings_96 : decode cX12_findRings 96 = .ok (.iload_n 1, 1) := by decide +kernel
theorem dX12_findRings_97 : decode cX12_findRings 97 = .ok (.if_icmp .ge 21, 3) := by decide +kernel
theorem dX12_findRings_100 : decode cX12_findRings 100 = .ok (.aload_n 0, 1) := by decide +kernel
theorem dX12_findRings_101 : decode cX12_findRings 101 = .ok (.getfield 52, 3) := by decide +kernel
theorem dX12_findRings_104 : decode cX12_findRings 104 = .ok (.iload_n 2, 1) := by decide +kernel
theorem dX12_findRings_105 : decode cX12_findRings 105 = .ok (.aload_n 0, 1) := by decide +kernel
theorem dX12_findRings_106 : decode cX12_findRings 106 = .ok (.getfield 34, 3) := by decide +kernel
theorem dX12_findRings_109 : decode cX12_findRings 109 = .ok (.iload_n 2, 1) := by decide +kernel
theorem dX12_findRings_110 : decode cX12_findRings 110 = .ok (.iaload, 1) := by decide +kernel
theorem dX12_findRings_111 : decode cX12_findRings 111 = .ok (.iastore, 1) := by decide +kernel
theorem dX12_findRings_112 : decode cX12_findRings 112 = .ok (.iinc 2 1, 3) := by decide +kernel
theorem dX12_findRings_115 : decode cX12_findRings 115 = .ok (.goto (-20), 3) := by decide +kernel
theorem dX12_findRings_118 : decode cX12_findRings 118 = .ok (.aload_n 0, 1) := by decide +kernel
theorem dX12_findRings_119 : decode cX12_findRings 119 = .ok (.dup, 1) := by decide +kernel
theorem dX12_findRings_120 : decode cX12_findRings 120 = .ok (.getfield 183, 3) := by decide +kernel
theorem dX12_findRings_123 : decode cX12_findRings 123 = .ok (.iconst 1, 1) := by decide +kernel
theorem dX12_findRings_124 : decode cX12_findRings 124 = .ok (.iadd, 1) := by decide +kernel
theorem dX12_findRings_125 : decode cX12_findRings 125 = .ok (.putfield 183, 3) := by decide +kernel
theorem dX12_findRings_128 : decode cX12_findRings 128 = .ok (.goto (-114), 3) := by decide +kernel
theorem dX12_findRings_131 : decode cX12_findRings 131 = .ok (.return_, 1) := by decide +kernel
theorem dX12_rings_0 : decode cX12_rings 0 = .ok (.iload_n 1, 1) := by decide +kernel
theorem dX12_rings_1 : decode cX12_rings 1 = .ok (.i2l, 1) := by decide +kernel
theorem dX12_rings_2 : decode cX12_rings 2 = .ok (.lconst 1, 1) := by decide +kernel
theorem dX12_rings_3 : decode cX12_rings 3 = .ok (.ldc2_w 165, 3) := by decide +kernel
theorem dX12_rings_6 : decode cX12_rings 6 = .ok (.invokestatic 84, 3) := by decide +kernel
theorem dX12_rings_9 : decode cX12_rings 9 = .ok (.ifCond .ne 6, 3) := by decide +kernel
theorem dX12_rings_12 : decode cX12_rings 12 = .ok (.bipush (-2), 2) := by decide +kernel
theorem dX12_rings_14 : decode cX12_rings 14 = .ok (.ireturn, 1) := by decide +kernel
theorem dX12_rings_15 : decode cX12_rings 15 = .ok (.aload_n 0, 1) := by decide +kernel
theorem dX12_rings_16 : decode cX12_rings 16 = .ok (.iload_n 1, 1) := by decide +kernel
theorem dX12_rings_17 : decode cX12_rings 17 = .ok (.invokevirtual 167, 3) := by decide +kernel
theorem dX12_rings_20 : decode cX12_rings 20 = .ok (.ifCond .eq 6, 3) := by decide +kernel
theorem dX12_rings_23 : decode cX12_rings 23 = .ok (.bipush (-6), 2) := by decide +kernel
theorem dX12_rings_25 : decode cX12_rings 25 = .ok (.ireturn, 1) := by decide +kernel
theorem dX12_rings_26 : decode cX12_rings 26 = .ok (.aload_n 0, 1) := by decide +kernel
theorem dX12_rings_27 : decode cX12_rings 27 = .ok (.iload_n 1, 1) := by decide +kernel
theorem dX12_rings_28 : decode cX12_rings 28 = .ok (.invokevirtual 195, 3) := by decide +kernel
theorem dX12_rings_31 : decode cX12_rings 31 = .ok (.aload_n 0, 1) := by decide +kernel
theorem dX12_rings_32 : decode cX12_rings 32 = .ok (.getfield 183, 3) := by decide +kernel
theorem dX12_rings_35 : decode cX12_rings 35 = .ok (.ireturn, 1) := by decide +kernel
theorem dX12_ringTrack_0 : decode cX12_ringTrack 0 = .ok (.iload_n 1, 1) := by decide +kernel
theorem dX12_ringTrack_1 : decode cX12_ringTrack 1 = .ok (.i2l, 1) := by decide +kernel
theorem dX12_ringTrack_2 : decode cX12_ringTrack 2 = .ok (.lconst 1, 1) := by decide +kernel
theorem dX12_ringTrack_3 : decode cX12_ringTrack 3 = .ok (.ldc2_w 165, 3) := by decide +kernel
theorem dX12_ringTrack_6 : decode cX12_ringTrack 6 = .ok (.invokestatic 84, 3) := by decide +kernel
theorem dX12_ringTrack_9 : decode cX12_ringTrack 9 = .ok (.ifCond .eq 11, 3) := by decide +kernel
theorem dX12_ringTrack_12 : decode cX12_ringTrack 12 = .ok (.aload_n 0, 1) := by decide +kernel
theorem dX12_ringTrack_13 : decode cX12_ringTrack 13 = .ok (.iload_n 1, 1) := by decide +kernel
theorem dX12_ringTrack_14 : decode cX12_ringTrack 14 = .ok (.invokevirtual 167, 3) := by decide +kernel
theorem dX12_ringTrack_17 : decode cX12_ringTrack 17 = .ok (.ifCond .eq 7, 3) := by decide +kernel
theorem dX12_ringTrack_20 : decode cX12_ringTrack 20 = .ok (.ldc2_w 79, 3) := by decide +kernel
theorem dX12_ringTrack_23 : decode cX12_ringTrack 23 = .ok (.lreturn, 1) := by decide +kernel
theorem dX12_ringTrack_24 : decode cX12_ringTrack 24 = .ok (.aload_n 0, 1) := by decide +kernel
theorem dX12_ringTrack_25 : decode cX12_ringTrack 25 = .ok (.iload_n 1, 1) := by decide +kernel
theorem dX12_ringTrack_26 : decode cX12_ringTrack 26 = .ok (.invokevirtual 195, 3) := by decide +kernel
theorem dX12_ringTrack_29 : decode cX12_ringTrack 29 = .ok (.aload_n 0, 1) := by decide +kernel
theorem dX12_ringTrack_30 : decode cX12_ringTrack 30 = .ok (.getfield 183, 3) := by decide +kernel
theorem dX12_ringTrack_33 : decode cX12_ringTrack 33 = .ok (.ifCond .ne 9, 3) := by decide +kernel
theorem dX12_ringTrack_36 : decode cX12_ringTrack 36 = .ok (.ldc2_w 79, 3) := by decide +kernel
theorem dX12_ringTrack_39 : decode cX12_ringTrack 39 = .ok (.goto 7, 3) := by decide +kernel
theorem dX12_ringTrack_42 : decode cX12_ringTrack 42 = .ok (.aload_n 0, 1) := by decide +kernel
theorem dX12_ringTrack_43 : decode cX12_ringTrack 43 = .ok (.getfield 186, 3) := by decide +kernel
theorem dX12_ringTrack_46 : decode cX12_ringTrack 46 = .ok (.lreturn, 1) := by decide +kernel
theorem dX12_ring_0 : decode cX12_ring 0 = .ok (.iload_n 1, 1) := by decide +kernel
theorem dX12_ring_1 : decode cX12_ring 1 = .ok (.i2l, 1) := by decide +kernel
theorem dX12_ring_2 : decode cX12_ring 2 = .ok (.lconst 1, 1) := by decide +kernel
theorem dX12_ring_3 : decode cX12_ring 3 = .ok (.ldc2_w 165, 3) := by decide +kernel
theorem dX12_ring_6 : decode cX12_ring 6 = .ok (.invokestatic 84, 3) := by decide +kernel
theorem dX12_ring_9 : decode cX12_ring 9 = .ok (.ifCond .eq 16, 3) := by decide +kernel
theorem dX12_ring_12 : decode cX12_ring 12 = .ok (.iload_n 2, 1) := by decide +kernel
theorem dX12_ring_13 : decode cX12_ring 13 = .ok (.i2l, 1) := by decide +kernel
theorem dX12_ring_14 : decode cX12_ring 14 = .ok (.lconst 0, 1) := by decide +kernel
theorem dX12_ring_15 : decode cX12_ring 15 = .ok (.iload_n 1, 1) := by decide +kernel
theorem dX12_ring_16 : decode cX12_ring 16 = .ok (.i2l, 1) := by decide +kernel
theorem dX12_ring_17 : decode cX12_ring 17 = .ok (.lconst 1, 1) := by decide +kernel
theorem dX12_ring_18 : decode cX12_ring 18 = .ok (.lsub, 1) := by decide +kernel
theorem dX12_ring_19 : decode cX12_ring 19 = .ok (.invokestatic 84, 3) := by decide +kernel
theorem dX12_ring_22 : decode cX12_ring 22 = .ok (.ifCond .ne 6, 3) := by decide +kernel
theorem dX12_ring_25 : decode cX12_ring 25 = .ok (.bipush (-2), 2) := by decide +kernel
theorem dX12_ring_27 : decode cX12_ring 27 = .ok (.ireturn, 1) := by decide +kernel
theorem dX12_ring_28 : decode cX12_ring 28 = .ok (.aload_n 0, 1) := by decide +kernel
theorem dX12_ring_29 : decode cX12_ring 29 = .ok (.iload_n 1, 1) := by decide +kernel
theorem dX12_ring_30 : decode cX12_ring 30 = .ok (.invokevirtual 167, 3) := by decide +kernel
theorem dX12_ring_33 : decode cX12_ring 33 = .ok (.ifCond .eq 6, 3) := by decide +kernel
theorem dX12_ring_36 : decode cX12_ring 36 = .ok (.bipush (-6), 2) := by decide +kernel
theorem dX12_ring_38 : decode cX12_ring 38 = .ok (.ireturn, 1) := by decide +kernel
theorem dX12_ring_39 : decode cX12_ring 39 = .ok (.aload_n 0, 1) := by decide +kernel
theorem dX12_ring_40 : decode cX12_ring 40 = .ok (.iload_n 1, 1) := by decide +kernel
theorem dX12_ring_41 : decode cX12_ring 41 = .ok (.invokevirtual 195, 3) := by decide +kernel
theorem dX12_ring_44 : decode cX12_ring 44 = .ok (.aload_n 0, 1) := by decide +kernel
theorem dX12_ring_45 : decode cX12_ring 45 = .ok (.getfield 183, 3) := by decide +kernel
theorem dX12_ring_48 : decode cX12_ring 48 = .ok (.ifCond .ne 8, 3) := by decide +kernel
theorem dX12_ring_51 : decode cX12_ring 51 = .ok (.bipush (-9), 2) := by decide +kernel
theorem dX12_ring_53 : decode cX12_ring 53 = .ok (.goto 9, 3) := by decide +kernel
theorem dX12_ring_56 : decode cX12_ring 56 = .ok (.aload_n 0, 1) := by decide +kernel
theorem dX12_ring_57 : decode cX12_ring 57 = .ok (.getfield 52, 3) := by decide +kernel
theorem dX12_ring_60 : decode cX12_ring 60 = .ok (.iload_n 2, 1) := by decide +kernel
theorem dX12_ring_61 : decode cX12_ring 61 = .ok (.iaload, 1) := by decide +kernel
theorem dX12_ring_62 : decode cX12_ring 62 = .ok (.ireturn, 1) := by decide +kernel
theorem dX12_power_0 : decode cX12_power 0 = .ok (.lconst 1, 1) := by decide +kernel
theorem dX12_power_1 : decode cX12_power 1 = .ok (.lstore_n 3, 1) := by decide +kernel
theorem dX12_power_2 : decode cX12_power 2 = .ok (.iconst 0, 1) := by decide +kernel
theorem dX12_power_3 : decode cX12_power 3 = .ok (.istore 5, 2) := by decide +kernel
theorem dX12_power_5 : decode cX12_power 5 = .ok (.iload 5, 2) := by decide +kernel
theorem dX12_power_7 : decode cX12_power 7 = .ok (.iload_n 2, 1) := by decide +kernel
theorem dX12_power_8 : decode cX12_power 8 = .ok (.if_icmp .ge 13, 3) := by decide +kernel
theorem dX12_power_11 : decode cX12_power 11 = .ok (.lload_n 3, 1) := by decide +kernel
theorem dX12_power_12 : decode cX12_power 12 = .ok (.lload_n 0, 1) := by decide +kernel
theorem dX12_power_13 : decode cX12_power 13 = .ok (.lmul, 1) := by decide +kernel
theorem dX12_power_14 : decode cX12_power 14 = .ok (.lstore_n 3, 1) := by decide +kernel
theorem dX12_power_15 : decode cX12_power 15 = .ok (.iinc 5 1, 3) := by decide +kernel
theorem dX12_power_18 : decode cX12_power 18 = .ok (.goto (-13), 3) := by decide +kernel
theorem dX12_power_21 : decode cX12_power 21 = .ok (.lload_n 3, 1) := by decide +kernel
theorem dX12_power_22 : decode cX12_power 22 = .ok (.lreturn, 1) := by decide +kernel
theorem dX12_growth_0 : decode cX12_growth 0 = .ok (.iload_n 1, 1) := by decide +kernel
theorem dX12_growth_1 : decode cX12_growth 1 = .ok (.i2l, 1) := by decide +kernel
theorem dX12_growth_2 : decode cX12_growth 2 = .ok (.lconst 1, 1) := by decide +kernel
theorem dX12_growth_3 : decode cX12_growth 3 = .ok (.ldc2_w 110, 3) := by decide +kernel
theorem dX12_growth_6 : decode cX12_growth 6 = .ok (.invokestatic 84, 3) := by decide +kernel
theorem dX12_growth_9 : decode cX12_growth 9 = .ok (.ifCond .eq 27, 3) := by decide +kernel
theorem dX12_growth_12 : decode cX12_growth 12 = .ok (.iload_n 2, 1) := by decide +kernel
theorem dX12_growth_13 : decode cX12_growth 13 = .ok (.i2l, 1) := by decide +kernel
theorem dX12_growth_14 : decode cX12_growth 14 = .ok (.lconst 1, 1) := by decide +kernel
theorem dX12_growth_15 : decode cX12_growth 15 = .ok (.ldc2_w 110, 3) := by decide +kernel
theorem dX12_growth_18 : decode cX12_growth 18 = .ok (.invokestatic 84, 3) := by decide +kernel
theorem dX12_growth_21 : decode cX12_growth 21 = .ok (.ifCond .eq 15, 3) := by decide +kernel
theorem dX12_growth_24 : decode cX12_growth 24 = .ok (.iload_n 3, 1) := by decide +kernel
theorem dX12_growth_25 : decode cX12_growth 25 = .ok (.i2l, 1) := by decide +kernel
theorem dX12_growth_26 : decode cX12_growth 26 = .ok (.lconst 1, 1) := by decide +kernel
theorem dX12_growth_27 : decode cX12_growth 27 = .ok (.ldc2_w 198, 3) := by decide +kernel
theorem dX12_growth_30 : decode cX12_growth 30 = .ok (.invokestatic 84, 3) := by decide +kernel
theorem dX12_growth_33 : decode cX12_growth 33 = .ok (.ifCond .ne 6, 3) := by decide +kernel
theorem dX12_growth_36 : decode cX12_growth 36 = .ok (.bipush (-2), 2) := by decide +kernel
theorem dX12_growth_38 : decode cX12_growth 38 = .ok (.ireturn, 1) := by decide +kernel
theorem dX12_growth_39 : decode cX12_growth 39 = .ok (.aload_n 0, 1) := by decide +kernel
theorem dX12_growth_40 : decode cX12_growth 40 = .ok (.getfield 94, 3) := by decide +kernel
theorem dX12_growth_43 : decode cX12_growth 43 = .ok (.ifCond .gt 10, 3) := by decide +kernel
theorem dX12_growth_46 : decode cX12_growth 46 = .ok (.aload_n 0, 1) := by decide +kernel
theorem dX12_growth_47 : decode cX12_growth 47 = .ok (.getfield 81, 3) := by decide +kernel
theorem dX12_growth_50 : decode cX12_growth 50 = .ok (.ifCond .ne 6, 3) := by decide +kernel
theorem dX12_growth_53 : decode cX12_growth 53 = .ok (.bipush (-3), 2) := by decide +kernel
theorem dX12_growth_55 : decode cX12_growth 55 = .ok (.ireturn, 1) := by decide +kernel
theorem dX12_growth_56 : decode cX12_growth 56 = .ok (.iconst 1, 1) := by decide +kernel
theorem dX12_growth_57 : decode cX12_growth 57 = .ok (.istore 4, 2) := by decide +kernel
theorem dX12_growth_59 : decode cX12_growth 59 = .ok (.iload 4, 2) := by decide +kernel
theorem dX12_growth_61 : decode cX12_growth 61 = .ok (.iload_n 3, 1) := by decide +kernel
theorem dX12_growth_62 : decode cX12_growth 62 = .ok (.if_icmp .gt 21, 3) := by decide +kernel
theorem dX12_growth_65 : decode cX12_growth 65 = .ok (.aload_n 0, 1) := by decide +kernel
theorem dX12_growth_66 : decode cX12_growth 66 = .ok (.iload 4, 2) := by decide +kernel
theorem dX12_growth_68 : decode cX12_growth 68 = .ok (.invokevirtual 167, 3) := by decide +kernel
theorem dX12_growth_71 : decode cX12_growth 71 = .ok (.ifCond .eq 6, 3) := by decide +kernel
theorem dX12_growth_74 : decode cX12_growth 74 = .ok (.bipush (-6), 2) := by decide +kernel
theorem dX12_growth_76 : decode cX12_growth 76 = .ok (.ireturn, 1) := by decide +kernel
theorem dX12_growth_77 : decode cX12_growth 77 = .ok (.iinc 4 1, 3) := by decide +kernel
theorem dX12_growth_80 : decode cX12_growth 80 = .ok (.goto (-21), 3) := by decide +kernel
theorem dX12_growth_83 : decode cX12_growth 83 = .ok (.iconst 0, 1) := by decide +kernel
theorem dX12_growth_84 : decode cX12_growth 84 = .ok (.istore 4, 2) := by decide +kernel
theorem dX12_growth_86 : decode cX12_growth 86 = .ok (.iconst 1, 1) := by decide +kernel
theorem dX12_growth_87 : decode cX12_growth 87 = .ok (.istore 5, 2) := by decide +kernel
theorem dX12_growth_89 : decode cX12_growth 89 = .ok (.iload 5, 2) := by decide +kernel
theorem dX12_growth_91 : decode cX12_growth 91 = .ok (.iload_n 3, 1) := by decide +kernel
theorem dX12_growth_92 : decode cX12_growth 92 = .ok (.if_icmp .gt 128, 3) := by decide +kernel
theorem dX12_growth_95 : decode cX12_growth 95 = .ok (.iconst 1, 1) := by decide +kernel
theorem dX12_growth_96 : decode cX12_growth 96 = .ok (.istore 6, 2) := by decide +kernel
theorem dX12_growth_98 : decode cX12_growth 98 = .ok (.aload_n 0, 1) := by decide +kernel
theorem dX12_growth_99 : decode cX12_growth 99 = .ok (.invokevirtual 155, 3) := by decide +kernel
theorem dX12_growth_102 : decode cX12_growth 102 = .ok (.aload_n 0, 1) := by decide +kernel
theorem dX12_growth_103 : decode cX12_growth 103 = .ok (.iload 5, 2) := by decide +kernel
theorem dX12_growth_105 : decode cX12_growth 105 = .ok (.invokevirtual 158, 3) := by decide +kernel
theorem dX12_growth_108 : decode cX12_growth 108 = .ok (.ifCond .eq 99, 3) := by decide +kernel
theorem dX12_growth_111 : decode cX12_growth 111 = .ok (.aload_n 0, 1) := by decide +kernel
theorem dX12_growth_112 : decode cX12_growth 112 = .ok (.aload_n 0, 1) := by decide +kernel
theorem dX12_growth_113 : decode cX12_growth 113 = .ok (.getfield 34, 3) := by decide +kernel
theorem dX12_growth_116 : decode cX12_growth 116 = .ok (.iload 5, 2) := by decide +kernel
theorem dX12_growth_118 : decode cX12_growth 118 = .ok (.iconst 1, 1) := by decide +kernel
theorem dX12_growth_119 : decode cX12_growth 119 = .ok (.isub, 1) := by decide +kernel
theorem dX12_growth_120 : decode cX12_growth 120 = .ok (.iaload, 1) := by decide +kernel
theorem dX12_growth_121 : decode cX12_growth 121 = .ok (.aload_n 0, 1) := by decide +kernel
theorem dX12_growth_122 : decode cX12_growth 122 = .ok (.getfield 34, 3) := by decide +kernel
theorem dX12_growth_125 : decode cX12_growth 125 = .ok (.iconst 0, 1) := by decide +kernel
theorem dX12_growth_126 : decode cX12_growth 126 = .ok (.iaload, 1) := by decide +kernel
theorem dX12_growth_127 : decode cX12_growth 127 = .ok (.invokevirtual 127, 3) := by decide +kernel
theorem dX12_growth_130 : decode cX12_growth 130 = .ok (.ifCond .eq 39, 3) := by decide +kernel
theorem dX12_growth_133 : decode cX12_growth 133 = .ok (.aload_n 0, 1) := by decide +kernel
theorem dX12_growth_134 : decode cX12_growth 134 = .ok (.iload 5, 2) := by decide +kernel
theorem dX12_growth_136 : decode cX12_growth 136 = .ok (.invokevirtual 192, 3) := by decide +kernel
theorem dX12_growth_139 : decode cX12_growth 139 = .ok (.invokestatic 124, 3) := by decide +kernel
theorem dX12_growth_142 : decode cX12_growth 142 = .ok (.iload_n 2, 1) := by decide +kernel
theorem dX12_growth_143 : decode cX12_growth 143 = .ok (.i2l, 1) := by decide +kernel
theorem dX12_growth_144 : decode cX12_growth 144 = .ok (.iload 5, 2) := by decide +kernel
theorem dX12_growth_146 : decode cX12_growth 146 = .ok (.invokestatic 200, 3) := by decide +kernel
theorem dX12_growth_149 : decode cX12_growth 149 = .ok (.lmul, 1) := by decide +kernel
theorem dX12_growth_150 : decode cX12_growth 150 = .ok (.aload_n 0, 1) := by decide +kernel
theorem dX12_growth_151 : decode cX12_growth 151 = .ok (.getfield 7, 3) := by decide +kernel
theorem dX12_growth_154 : decode cX12_growth 154 = .ok (.i2l, 1) := by decide +kernel
theorem dX12_growth_155 : decode cX12_growth 155 = .ok (.iload_n 1, 1) := by decide +kernel
theorem dX12_growth_156 : decode cX12_growth 156 = .ok (.i2l, 1) := by decide +kernel
theorem dX12_growth_157 : decode cX12_growth 157 = .ok (.iload 5, 2) := by decide +kernel
theorem dX12_growth_159 : decode cX12_growth 159 = .ok (.invokestatic 200, 3) := by decide +kernel
theorem dX12_growth_162 : decode cX12_growth 162 = .ok (.lmul, 1) := by decide +kernel
theorem dX12_growth_163 : decode cX12_growth 163 = .ok (.lcmp, 1) := by decide +kernel
theorem dX12_growth_164 : decode cX12_growth 164 = .ok (.ifCond .le 5, 3) := by decide +kernel
theorem dX12_growth_167 : decode cX12_growth 167 = .ok (.iconst 1, 1) := by decide +kernel
theorem dX12_growth_168 : decode cX12_growth 168 = .ok (.ireturn, 1) := by decide +kernel
theorem dX12_growth_169 : decode cX12_growth 169 = .ok (.iload 6, 2) := by decide +kernel
theorem dX12_growth_171 : decode cX12_growth 171 = .ok (.aload_n 0, 1) := by decide +kernel
theorem dX12_growth_172 : decode cX12_growth 172 = .ok (.iload 5, 2) := by decide +kernel
theorem dX12_growth_174 : decode cX12_growth 174 = .ok (.invokevirtual 161, 3) := by decide +kernel
theorem dX12_growth_177 : decode cX12_growth 177 = .ok (.iload_n 2, 1) := by decide +kernel
theorem dX12_growth_178 : decode cX12_growth 178 = .ok (.i2l, 1) := by decide +kernel
theorem dX12_growth_179 : decode cX12_growth 179 = .ok (.iload 5, 2) := by decide +kernel
theorem dX12_growth_181 : decode cX12_growth 181 = .ok (.invokestatic 200, 3) := by decide +kernel
theorem dX12_growth_184 : decode cX12_growth 184 = .ok (.lmul, 1) := by decide +kernel
theorem dX12_growth_185 : decode cX12_growth 185 = .ok (.iload_n 1, 1) := by decide +kernel
theorem dX12_growth_186 : decode cX12_growth 186 = .ok (.i2l, 1) := by decide +kernel
theorem dX12_growth_187 : decode cX12_growth 187 = .ok (.iload 5, 2) := by decide +kernel
theorem dX12_growth_189 : decode cX12_growth 189 = .ok (.invokestatic 200, 3) := by decide +kernel
theorem dX12_growth_192 : decode cX12_growth 192 = .ok (.lcmp, 1) := by decide +kernel
theorem dX12_growth_193 : decode cX12_growth 193 = .ok (.ifCond .ge 7, 3) := by decide +kernel
theorem dX12_growth_196 : decode cX12_growth 196 = .ok (.iconst 1, 1) := by decide +kernel
theorem dX12_growth_197 : decode cX12_growth 197 = .ok (.goto 4, 3) := by decide +kernel
theorem dX12_growth_200 : decode cX12_growth 200 = .ok (.iconst 0, 1) := by decide +kernel
theorem dX12_growth_201 : decode cX12_growth 201 = .ok (.iand, 1) := by decide +kernel
theorem dX12_growth_202 : decode cX12_growth 202 = .ok (.istore 6, 2) := by decide +kernel
theorem dX12_growth_204 : decode cX12_growth 204 = .ok (.goto (-102), 3) := by decide +kernel
theorem dX12_growth_207 : decode cX12_growth 207 = .ok (.iload 4, 2) := by decide +kernel
theorem dX12_growth_209 : decode cX12_growth 209 = .ok (.iload 6, 2) := by decide +kernel
theorem dX12_growth_211 : decode cX12_growth 211 = .ok (.ior, 1) := by decide +kernel
theorem dX12_growth_212 : decode cX12_growth 212 = .ok (.istore 4, 2) := by decide +kernel
theorem dX12_growth_214 : decode cX12_growth 214 = .ok (.iinc 5 1, 3) := by decide +kernel
theorem dX12_growth_217 : decode cX12_growth 217 = .ok (.goto (-128), 3) := by decide +kernel
theorem dX12_growth_220 : decode cX12_growth 220 = .ok (.iload 4, 2) := by decide +kernel
theorem dX12_growth_222 : decode cX12_growth 222 = .ok (.ifCond .eq 7, 3) := by decide +kernel
theorem dX12_growth_225 : decode cX12_growth 225 = .ok (.iconst (-1), 1) := by decide +kernel
theorem dX12_growth_226 : decode cX12_growth 226 = .ok (.goto 4, 3) := by decide +kernel
theorem dX12_growth_229 : decode cX12_growth 229 = .ok (.iconst 0, 1) := by decide +kernel
theorem dX12_growth_230 : decode cX12_growth 230 = .ok (.ireturn, 1) := by decide +kernel
theorem dX12_chainOf_0 : decode cX12_chainOf 0 = .ok (.lconst 0, 1) := by decide +kernel
theorem dX12_chainOf_1 : decode cX12_chainOf 1 = .ok (.lstore_n 2, 1) := by decide +kernel
theorem dX12_chainOf_2 : decode cX12_chainOf 2 = .ok (.iconst 0, 1) := by decide +kernel
theorem dX12_chainOf_3 : decode cX12_chainOf 3 = .ok (.istore 4, 2) := by decide +kernel
theorem dX12_chainOf_5 : decode cX12_chainOf 5 = .ok (.iload 4, 2) := by decide +kernel
theorem dX12_chainOf_7 : decode cX12_chainOf 7 = .ok (.aload_n 0, 1) := by decide +kernel
theorem dX12_chainOf_8 : decode cX12_chainOf 8 = .ok (.getfield 7, 3) := by decide +kernel
theorem dX12_chainOf_11 : decode cX12_chainOf 11 = .ok (.aload_n 0, 1) := by decide +kernel
theorem dX12_chainOf_12 : decode cX12_chainOf 12 = .ok (.getfield 7, 3) := by decide +kernel
theorem dX12_chainOf_15 : decode cX12_chainOf 15 = .ok (.imul, 1) := by decide +kernel
theorem dX12_chainOf_16 : decode cX12_chainOf 16 = .ok (.if_icmp .ge 28, 3) := by decide +kernel
theorem dX12_chainOf_19 : decode cX12_chainOf 19 = .ok (.lload_n 2, 1) := by decide +kernel
theorem dX12_chainOf_20 : decode cX12_chainOf 20 = .ok (.ldc2_w 204, 3) := by decide +kernel
theorem dX12_chainOf_23 : decode cX12_chainOf 23 = .ok (.lmul, 1) := by decide +kernel
theorem dX12_chainOf_24 : decode cX12_chainOf 24 = .ok (.aload_n 0, 1) := by decide +kernel
theorem dX12_chainOf_25 : decode cX12_chainOf 25 = .ok (.getfield 30, 3) := by decide +kernel
theorem dX12_chainOf_28 : decode cX12_chainOf 28 = .ok (.bipush 9, 2) := by decide +kernel
theorem dX12_chainOf_30 : decode cX12_chainOf 30 = .ok (.iload_n 1, 1) := by decide +kernel
theorem dX12_chainOf_31 : decode cX12_chainOf 31 = .ok (.imul, 1) := by decide +kernel
theorem dX12_chainOf_32 : decode cX12_chainOf 32 = .ok (.iload 4, 2) := by decide +kernel
theorem dX12_chainOf_34 : decode cX12_chainOf 34 = .ok (.iadd, 1) := by decide +kernel
theorem dX12_chainOf_35 : decode cX12_chainOf 35 = .ok (.laload, 1) := by decide +kernel
theorem dX12_chainOf_36 : decode cX12_chainOf 36 = .ok (.ladd, 1) := by decide +kernel
theorem dX12_chainOf_37 : decode cX12_chainOf 37 = .ok (.lstore_n 2, 1) := by decide +kernel
theorem dX12_chainOf_38 : decode cX12_chainOf 38 = .ok (.iinc 4 1, 3) := by decide +kernel
theorem dX12_chainOf_41 : decode cX12_chainOf 41 = .ok (.goto (-36), 3) := by decide +kernel
theorem dX12_chainOf_44 : decode cX12_chainOf 44 = .ok (.lload_n 2, 1) := by decide +kernel
theorem dX12_chainOf_45 : decode cX12_chainOf 45 = .ok (.lload_n 2, 1) := by decide +kernel
theorem dX12_chainOf_46 : decode cX12_chainOf 46 = .ok (.bipush 21, 2) := by decide +kernel
theorem dX12_chainOf_48 : decode cX12_chainOf 48 = .ok (.lshr, 1) := by decide +kernel
theorem dX12_chainOf_49 : decode cX12_chainOf 49 = .ok (.lxor, 1) := by decide +kernel
theorem dX12_chainOf_50 : decode cX12_chainOf 50 = .ok (.ldc2_w 206, 3) := by decide +kernel
theorem dX12_chainOf_53 : decode cX12_chainOf 53 = .ok (.land, 1) := by decide +kernel
theorem dX12_chainOf_54 : decode cX12_chainOf 54 = .ok (.l2i, 1) := by decide +kernel
theorem dX12_chainOf_55 : decode cX12_chainOf 55 = .ok (.ireturn, 1) := by decide +kernel
theorem dX12_findAt_0 : decode cX12_findAt 0 = .ok (.aload_n 0, 1) := by decide +kernel
theorem dX12_findAt_1 : decode cX12_findAt 1 = .ok (.getfield 64, 3) := by decide +kernel
theorem dX12_findAt_4 : decode cX12_findAt 4 = .ok (.aload_n 0, 1) := by decide +kernel
theorem dX12_findAt_5 : decode cX12_findAt 5 = .ok (.iload_n 1, 1) := by decide +kernel
theorem dX12_findAt_6 : decode cX12_findAt 6 = .ok (.invokevirtual 208, 3) := by decide +kernel
theorem dX12_findAt_9 : decode cX12_findAt 9 = .ok (.iaload, 1) := by decide +kernel
theorem dX12_findAt_10 : decode cX12_findAt 10 = .ok (.istore_n 2, 1) := by decide +kernel
theorem dX12_findAt_11 : decode cX12_findAt 11 = .ok (.iload_n 2, 1) := by decide +kernel
theorem dX12_findAt_12 : decode cX12_findAt 12 = .ok (.bipush (-9), 2) := by decide +kernel
theorem dX12_findAt_14 : decode cX12_findAt 14 = .ok (.if_icmp .eq 75, 3) := by decide +kernel
theorem dX12_findAt_17 : decode cX12_findAt 17 = .ok (.iconst 0, 1) := by decide +kernel
theorem dX12_findAt_18 : decode cX12_findAt 18 = .ok (.istore_n 3, 1) := by decide +kernel
theorem dX12_findAt_19 : decode cX12_findAt 19 = .ok (.iload_n 3, 1) := by decide +kernel
theorem dX12_findAt_20 : decode cX12_findAt 20 = .ok (.aload_n 0, 1) := by decide +kernel
theorem dX12_findAt_21 : decode cX12_findAt 21 = .ok (.getfield 7, 3) := by decide +kernel
theorem dX12_findAt_24 : decode cX12_findAt 24 = .ok (.aload_n 0, 1) := by decide +kernel
theorem dX12_findAt_25 : decode cX12_findAt 25 = .ok (.getfield 7, 3) := by decide +kernel
theorem dX12_findAt_28 : decode cX12_findAt 28 = .ok (.imul, 1) := by decide +kernel
theorem dX12_findAt_29 : decode cX12_findAt 29 = .ok (.if_icmp .ge 35, 3) := by decide +kernel
theorem dX12_findAt_32 : decode cX12_findAt 32 = .ok (.aload_n 0, 1) := by decide +kernel
theorem dX12_findAt_33 : decode cX12_findAt 33 = .ok (.getfield 58, 3) := by decide +kernel
theorem dX12_findAt_36 : decode cX12_findAt 36 = .ok (.bipush 9, 2) := by decide +kernel
theorem dX12_findAt_38 : decode cX12_findAt 38 = .ok (.iload_n 2, 1) := by decide +kernel
theorem dX12_findAt_39 : decode cX12_findAt 39 = .ok (.imul, 1) := by decide +kernel
theorem dX12_findAt_40 : decode cX12_findAt 40 = .ok (.iload_n 3, 1) := by decide +kernel
theorem dX12_findAt_41 : decode cX12_findAt 41 = .ok (.iadd, 1) := by decide +kernel
theorem dX12_findAt_42 : decode cX12_findAt 42 = .ok (.laload, 1) := by decide +kernel
theorem dX12_findAt_43 : decode cX12_findAt 43 = .ok (.aload_n 0, 1) := by decide +kernel
theorem dX12_findAt_44 : decode cX12_findAt 44 = .ok (.getfield 30, 3) := by decide +kernel
theorem dX12_findAt_47 : decode cX12_findAt 47 = .ok (.bipush 9, 2) := by decide +kernel
theorem dX12_findAt_49 : decode cX12_findAt 49 = .ok (.iload_n 1, 1) := by decide +kernel
theorem dX12_findAt_50 : decode cX12_findAt 50 = .ok (.imul, 1) := by decide +kernel
theorem dX12_findAt_51 : decode cX12_findAt 51 = .ok (.iload_n 3, 1) := by decide +kernel
theorem dX12_findAt_52 : decode cX12_findAt 52 = .ok (.iadd, 1) := by decide +kernel
theorem dX12_findAt_53 : decode cX12_findAt 53 = .ok (.laload, 1) := by decide +kernel
theorem dX12_findAt_54 : decode cX12_findAt 54 = .ok (.lcmp, 1) := by decide +kernel
theorem dX12_findAt_55 : decode cX12_findAt 55 = .ok (.ifCond .ne 9, 3) := by decide +kernel
theorem dX12_findAt_58 : decode cX12_findAt 58 = .ok (.iinc 3 1, 3) := by decide +kernel
theorem dX12_findAt_61 : decode cX12_findAt 61 = .ok (.goto (-42), 3) := by decide +kernel
theorem dX12_findAt_64 : decode cX12_findAt 64 = .ok (.iload_n 3, 1) := by decide +kernel
theorem dX12_findAt_65 : decode cX12_findAt 65 = .ok (.aload_n 0, 1) := by decide +kernel
theorem dX12_findAt_66 : decode cX12_findAt 66 = .ok (.getfield 7, 3) := by decide +kernel
theorem dX12_findAt_69 : decode cX12_findAt 69 = .ok (.aload_n 0, 1) := by decide +kernel
theorem dX12_findAt_70 : decode cX12_findAt 70 = .ok (.getfield 7, 3) := by decide +kernel
theorem dX12_findAt_73 : decode cX12_findAt 73 = .ok (.imul, 1) := by decide +kernel
theorem dX12_findAt_74 : decode cX12_findAt 74 = .ok (.if_icmp .ne 5, 3) := by decide +kernel
theorem dX12_findAt_77 : decode cX12_findAt 77 = .ok (.iload_n 2, 1) := by decide +kernel
theorem dX12_findAt_78 : decode cX12_findAt 78 = .ok (.ireturn, 1) := by decide +kernel
theorem dX12_findAt_79 : decode cX12_findAt 79 = .ok (.aload_n 0, 1) := by decide +kernel
theorem dX12_findAt_80 : decode cX12_findAt 80 = .ok (.getfield 67, 3) := by decide +kernel
theorem dX12_findAt_83 : decode cX12_findAt 83 = .ok (.iload_n 2, 1) := by decide +kernel
theorem dX12_findAt_84 : decode cX12_findAt 84 = .ok (.iaload, 1) := by decide +kernel
theorem dX12_findAt_85 : decode cX12_findAt 85 = .ok (.istore_n 2, 1) := by decide +kernel
theorem dX12_findAt_86 : decode cX12_findAt 86 = .ok (.goto (-75), 3) := by decide +kernel
theorem dX12_findAt_89 : decode cX12_findAt 89 = .ok (.bipush (-9), 2) := by decide +kernel
theorem dX12_findAt_91 : decode cX12_findAt 91 = .ok (.ireturn, 1) := by decide +kernel
theorem dX12_comes_0 : decode cX12_comes 0 = .ok (.iconst 0, 1) := by decide +kernel
theorem dX12_comes_1 : decode cX12_comes 1 = .ok (.istore_n 3, 1) := by decide +kernel
theorem dX12_comes_2 : decode cX12_comes 2 = .ok (.iload_n 3, 1) := by decide +kernel
theorem dX12_comes_3 : decode cX12_comes 3 = .ok (.aload_n 0, 1) := by decide +kernel
theorem dX12_comes_4 : decode cX12_comes 4 = .ok (.getfield 7, 3) := by decide +kernel
theorem dX12_comes_7 : decode cX12_comes 7 = .ok (.aload_n 0, 1) := by decide +kernel
theorem dX12_comes_8 : decode cX12_comes 8 = .ok (.getfield 7, 3) := by decide +kernel
theorem dX12_comes_11 : decode cX12_comes 11 = .ok (.imul, 1) := by decide +kernel
theorem dX12_comes_12 : decode cX12_comes 12 = .ok (.if_icmp .ge 34, 3) := by decide +kernel
theorem dX12_comes_15 : decode cX12_comes 15 = .ok (.aload_n 0, 1) := by decide +kernel
theorem dX12_comes_16 : decode cX12_comes 16 = .ok (.getfield 30, 3) := by decide +kernel
theorem dX12_comes_19 : decode cX12_comes 19 = .ok (.bipush 9, 2) := by decide +kernel
theorem dX12_comes_21 : decode cX12_comes 21 = .ok (.iload_n 1, 1) := by decide +kernel
theorem dX12_comes_22 : decode cX12_comes 22 = .ok (.imul, 1) := by decide +kernel
theorem dX12_comes_23 : decode cX12_comes 23 = .ok (.iload_n 3, 1) := by decide +kernel
theorem dX12_comes_24 : decode cX12_comes 24 = .ok (.iadd, 1) := by decide +kernel
theorem dX12_comes_25 : decode cX12_comes 25 = .ok (.laload, 1) := by decide +kernel
theorem dX12_comes_26 : decode cX12_comes 26 = .ok (.ldc2_w 211, 3) := by decide +kernel
theorem dX12_comes_29 : decode cX12_comes 29 = .ok (.ldc2_w 213, 3) := by decide +kernel
theorem dX12_comes_32 : decode cX12_comes 32 = .ok (.invokestatic 84, 3) := by decide +kernel
theorem dX12_comes_35 : decode cX12_comes 35 = .ok (.ifCond .ne 5, 3) := by decide +kernel
theorem dX12_comes_38 : decode cX12_comes 38 = .ok (.iconst 0, 1) := by decide +kernel
theorem dX12_comes_39 : decode cX12_comes 39 = .ok (.ireturn, 1) := by decide +kernel
end
section
theorem dX12_comes_40 : decode cX12_comes 40 = .ok (.iinc 3 1, 3) := by decide +kernel
theorem dX12_comes_43 : decode cX12_comes 43 = .ok (.goto (-41), 3) := by decide +kernel
theorem dX12_comes_46 : decode cX12_comes 46 = .ok (.aload_n 0, 1) := by decide +kernel
theorem dX12_comes_47 : decode cX12_comes 47 = .ok (.iload_n 1, 1) := by decide +kernel
theorem dX12_comes_48 : decode cX12_comes 48 = .ok (.invokevirtual 215, 3) := by decide +kernel
theorem dX12_comes_51 : decode cX12_comes 51 = .ok (.bipush (-9), 2) := by decide +kernel
theorem dX12_comes_53 : decode cX12_comes 53 = .ok (.if_icmp .eq 5, 3) := by decide +kernel
theorem dX12_comes_56 : decode cX12_comes 56 = .ok (.iconst 1, 1) := by decide +kernel
theorem dX12_comes_57 : decode cX12_comes 57 = .ok (.ireturn, 1) := by decide +kernel
theorem dX12_comes_58 : decode cX12_comes 58 = .ok (.aload_n 0, 1) := by decide +kernel
theorem dX12_comes_59 : decode cX12_comes 59 = .ok (.getfield 55, 3) := by decide +kernel
theorem dX12_comes_62 : decode cX12_comes 62 = .ok (.sipush 2000, 3) := by decide +kernel
theorem dX12_comes_65 : decode cX12_comes 65 = .ok (.if_icmp .ne 5, 3) := by decide +kernel
theorem dX12_comes_68 : decode cX12_comes 68 = .ok (.iconst 0, 1) := by decide +kernel
theorem dX12_comes_69 : decode cX12_comes 69 = .ok (.ireturn, 1) := by decide +kernel
theorem dX12_comes_70 : decode cX12_comes 70 = .ok (.aload_n 0, 1) := by decide +kernel
theorem dX12_comes_71 : decode cX12_comes 71 = .ok (.iload_n 1, 1) := by decide +kernel
theorem dX12_comes_72 : decode cX12_comes 72 = .ok (.invokevirtual 208, 3) := by decide +kernel
theorem dX12_comes_75 : decode cX12_comes 75 = .ok (.istore_n 3, 1) := by decide +kernel
theorem dX12_comes_76 : decode cX12_comes 76 = .ok (.iconst 0, 1) := by decide +kernel
theorem dX12_comes_77 : decode cX12_comes 77 = .ok (.istore 4, 2) := by decide +kernel
theorem dX12_comes_79 : decode cX12_comes 79 = .ok (.iload 4, 2) := by decide +kernel
theorem dX12_comes_81 : decode cX12_comes 81 = .ok (.aload_n 0, 1) := by decide +kernel
theorem dX12_comes_82 : decode cX12_comes 82 = .ok (.getfield 7, 3) := by decide +kernel
theorem dX12_comes_85 : decode cX12_comes 85 = .ok (.aload_n 0, 1) := by decide +kernel
theorem dX12_comes_86 : decode cX12_comes 86 = .ok (.getfield 7, 3) := by decide +kernel
theorem dX12_comes_89 : decode cX12_comes 89 = .ok (.imul, 1) := by decide +kernel
theorem dX12_comes_90 : decode cX12_comes 90 = .ok (.if_icmp .ge 36, 3) := by decide +kernel
theorem dX12_comes_93 : decode cX12_comes 93 = .ok (.aload_n 0, 1) := by decide +kernel
theorem dX12_comes_94 : decode cX12_comes 94 = .ok (.getfield 58, 3) := by decide +kernel
theorem dX12_comes_97 : decode cX12_comes 97 = .ok (.bipush 9, 2) := by decide +kernel
theorem dX12_comes_99 : decode cX12_comes 99 = .ok (.aload_n 0, 1) := by decide +kernel
theorem dX12_comes_100 : decode cX12_comes 100 = .ok (.getfield 55, 3) := by decide +kernel
theorem dX12_comes_103 : decode cX12_comes 103 = .ok (.imul, 1) := by decide +kernel
theorem dX12_comes_104 : decode cX12_comes 104 = .ok (.iload 4, 2) := by decide +kernel
theorem dX12_comes_106 : decode cX12_comes 106 = .ok (.iadd, 1) := by decide +kernel
theorem dX12_comes_107 : decode cX12_comes 107 = .ok (.aload_n 0, 1) := by decide +kernel
theorem dX12_comes_108 : decode cX12_comes 108 = .ok (.getfield 30, 3) := by decide +kernel
theorem dX12_comes_111 : decode cX12_comes 111 = .ok (.bipush 9, 2) := by decide +kernel
theorem dX12_comes_113 : decode cX12_comes 113 = .ok (.iload_n 1, 1) := by decide +kernel
theorem dX12_comes_114 : decode cX12_comes 114 = .ok (.imul, 1) := by decide +kernel
theorem dX12_comes_115 : decode cX12_comes 115 = .ok (.iload 4, 2) := by decide +kernel
theorem dX12_comes_117 : decode cX12_comes 117 = .ok (.iadd, 1) := by decide +kernel
theorem dX12_comes_118 : decode cX12_comes 118 = .ok (.laload, 1) := by decide +kernel
theorem dX12_comes_119 : decode cX12_comes 119 = .ok (.lastore, 1) := by decide +kernel
theorem dX12_comes_120 : decode cX12_comes 120 = .ok (.iinc 4 1, 3) := by decide +kernel
theorem dX12_comes_123 : decode cX12_comes 123 = .ok (.goto (-44), 3) := by decide +kernel
theorem dX12_comes_126 : decode cX12_comes 126 = .ok (.aload_n 0, 1) := by decide +kernel
theorem dX12_comes_127 : decode cX12_comes 127 = .ok (.getfield 61, 3) := by decide +kernel
theorem dX12_comes_130 : decode cX12_comes 130 = .ok (.aload_n 0, 1) := by decide +kernel
theorem dX12_comes_131 : decode cX12_comes 131 = .ok (.getfield 55, 3) := by decide +kernel
theorem dX12_comes_134 : decode cX12_comes 134 = .ok (.iload_n 2, 1) := by decide +kernel
theorem dX12_comes_135 : decode cX12_comes 135 = .ok (.iastore, 1) := by decide +kernel
theorem dX12_comes_136 : decode cX12_comes 136 = .ok (.aload_n 0, 1) := by decide +kernel
theorem dX12_comes_137 : decode cX12_comes 137 = .ok (.getfield 67, 3) := by decide +kernel
theorem dX12_comes_140 : decode cX12_comes 140 = .ok (.aload_n 0, 1) := by decide +kernel
theorem dX12_comes_141 : decode cX12_comes 141 = .ok (.getfield 55, 3) := by decide +kernel
theorem dX12_comes_144 : decode cX12_comes 144 = .ok (.aload_n 0, 1) := by decide +kernel
theorem dX12_comes_145 : decode cX12_comes 145 = .ok (.getfield 64, 3) := by decide +kernel
theorem dX12_comes_148 : decode cX12_comes 148 = .ok (.iload_n 3, 1) := by decide +kernel
theorem dX12_comes_149 : decode cX12_comes 149 = .ok (.iaload, 1) := by decide +kernel
theorem dX12_comes_150 : decode cX12_comes 150 = .ok (.iastore, 1) := by decide +kernel
theorem dX12_comes_151 : decode cX12_comes 151 = .ok (.aload_n 0, 1) := by decide +kernel
theorem dX12_comes_152 : decode cX12_comes 152 = .ok (.getfield 64, 3) := by decide +kernel
theorem dX12_comes_155 : decode cX12_comes 155 = .ok (.iload_n 3, 1) := by decide +kernel
theorem dX12_comes_156 : decode cX12_comes 156 = .ok (.aload_n 0, 1) := by decide +kernel
theorem dX12_comes_157 : decode cX12_comes 157 = .ok (.getfield 55, 3) := by decide +kernel
theorem dX12_comes_160 : decode cX12_comes 160 = .ok (.iastore, 1) := by decide +kernel
theorem dX12_comes_161 : decode cX12_comes 161 = .ok (.aload_n 0, 1) := by decide +kernel
theorem dX12_comes_162 : decode cX12_comes 162 = .ok (.dup, 1) := by decide +kernel
theorem dX12_comes_163 : decode cX12_comes 163 = .ok (.getfield 55, 3) := by decide +kernel
theorem dX12_comes_166 : decode cX12_comes 166 = .ok (.iconst 1, 1) := by decide +kernel
theorem dX12_comes_167 : decode cX12_comes 167 = .ok (.iadd, 1) := by decide +kernel
theorem dX12_comes_168 : decode cX12_comes 168 = .ok (.putfield 55, 3) := by decide +kernel
theorem dX12_comes_171 : decode cX12_comes 171 = .ok (.iconst 1, 1) := by decide +kernel
theorem dX12_comes_172 : decode cX12_comes 172 = .ok (.ireturn, 1) := by decide +kernel
theorem dX12_layProduct_0 : decode cX12_layProduct 0 = .ok (.iconst 0, 1) := by decide +kernel
theorem dX12_layProduct_1 : decode cX12_layProduct 1 = .ok (.istore_n 3, 1) := by decide +kernel
theorem dX12_layProduct_2 : decode cX12_layProduct 2 = .ok (.iload_n 3, 1) := by decide +kernel
theorem dX12_layProduct_3 : decode cX12_layProduct 3 = .ok (.aload_n 0, 1) := by decide +kernel
theorem dX12_layProduct_4 : decode cX12_layProduct 4 = .ok (.getfield 7, 3) := by decide +kernel
theorem dX12_layProduct_7 : decode cX12_layProduct 7 = .ok (.aload_n 0, 1) := by decide +kernel
theorem dX12_layProduct_8 : decode cX12_layProduct 8 = .ok (.getfield 7, 3) := by decide +kernel
theorem dX12_layProduct_11 : decode cX12_layProduct 11 = .ok (.imul, 1) := by decide +kernel
theorem dX12_layProduct_12 : decode cX12_layProduct 12 = .ok (.if_icmp .ge 31, 3) := by decide +kernel
theorem dX12_layProduct_15 : decode cX12_layProduct 15 = .ok (.aload_n 0, 1) := by decide +kernel
theorem dX12_layProduct_16 : decode cX12_layProduct 16 = .ok (.getfield 30, 3) := by decide +kernel
theorem dX12_layProduct_19 : decode cX12_layProduct 19 = .ok (.bipush 9, 2) := by decide +kernel
theorem dX12_layProduct_21 : decode cX12_layProduct 21 = .ok (.iload_n 2, 1) := by decide +kernel
theorem dX12_layProduct_22 : decode cX12_layProduct 22 = .ok (.imul, 1) := by decide +kernel
theorem dX12_layProduct_23 : decode cX12_layProduct 23 = .ok (.iload_n 3, 1) := by decide +kernel
theorem dX12_layProduct_24 : decode cX12_layProduct 24 = .ok (.iadd, 1) := by decide +kernel
theorem dX12_layProduct_25 : decode cX12_layProduct 25 = .ok (.aload_n 0, 1) := by decide +kernel
theorem dX12_layProduct_26 : decode cX12_layProduct 26 = .ok (.getfield 58, 3) := by decide +kernel
theorem dX12_layProduct_29 : decode cX12_layProduct 29 = .ok (.bipush 9, 2) := by decide +kernel
theorem dX12_layProduct_31 : decode cX12_layProduct 31 = .ok (.iload_n 1, 1) := by decide +kernel
theorem dX12_layProduct_32 : decode cX12_layProduct 32 = .ok (.imul, 1) := by decide +kernel
theorem dX12_layProduct_33 : decode cX12_layProduct 33 = .ok (.iload_n 3, 1) := by decide +kernel
theorem dX12_layProduct_34 : decode cX12_layProduct 34 = .ok (.iadd, 1) := by decide +kernel
theorem dX12_layProduct_35 : decode cX12_layProduct 35 = .ok (.laload, 1) := by decide +kernel
theorem dX12_layProduct_36 : decode cX12_layProduct 36 = .ok (.lastore, 1) := by decide +kernel
theorem dX12_layProduct_37 : decode cX12_layProduct 37 = .ok (.iinc 3 1, 3) := by decide +kernel
theorem dX12_layProduct_40 : decode cX12_layProduct 40 = .ok (.goto (-38), 3) := by decide +kernel
theorem dX12_layProduct_43 : decode cX12_layProduct 43 = .ok (.return_, 1) := by decide +kernel
theorem dX12_close_0 : decode cX12_close 0 = .ok (.aload_n 0, 1) := by decide +kernel
theorem dX12_close_1 : decode cX12_close 1 = .ok (.getfield 81, 3) := by decide +kernel
theorem dX12_close_4 : decode cX12_close 4 = .ok (.ifCond .ne 6, 3) := by decide +kernel
theorem dX12_close_7 : decode cX12_close 7 = .ok (.bipush (-3), 2) := by decide +kernel
theorem dX12_close_9 : decode cX12_close 9 = .ok (.ireturn, 1) := by decide +kernel
theorem dX12_close_10 : decode cX12_close 10 = .ok (.aload_n 0, 1) := by decide +kernel
theorem dX12_close_11 : decode cX12_close 11 = .ok (.iconst 0, 1) := by decide +kernel
theorem dX12_close_12 : decode cX12_close 12 = .ok (.putfield 55, 3) := by decide +kernel
theorem dX12_close_15 : decode cX12_close 15 = .ok (.iconst 0, 1) := by decide +kernel
theorem dX12_close_16 : decode cX12_close 16 = .ok (.istore_n 1, 1) := by decide +kernel
theorem dX12_close_17 : decode cX12_close 17 = .ok (.iload_n 1, 1) := by decide +kernel
theorem dX12_close_18 : decode cX12_close 18 = .ok (.sipush 4096, 3) := by decide +kernel
theorem dX12_close_21 : decode cX12_close 21 = .ok (.if_icmp .ge 17, 3) := by decide +kernel
theorem dX12_close_24 : decode cX12_close 24 = .ok (.aload_n 0, 1) := by decide +kernel
theorem dX12_close_25 : decode cX12_close 25 = .ok (.getfield 64, 3) := by decide +kernel
theorem dX12_close_28 : decode cX12_close 28 = .ok (.iload_n 1, 1) := by decide +kernel
theorem dX12_close_29 : decode cX12_close 29 = .ok (.bipush (-9), 2) := by decide +kernel
theorem dX12_close_31 : decode cX12_close 31 = .ok (.iastore, 1) := by decide +kernel
theorem dX12_close_32 : decode cX12_close 32 = .ok (.iinc 1 1, 3) := by decide +kernel
theorem dX12_close_35 : decode cX12_close 35 = .ok (.goto (-18), 3) := by decide +kernel
theorem dX12_close_38 : decode cX12_close 38 = .ok (.iconst 1, 1) := by decide +kernel
theorem dX12_close_39 : decode cX12_close 39 = .ok (.istore_n 1, 1) := by decide +kernel
theorem dX12_close_40 : decode cX12_close 40 = .ok (.aload_n 0, 1) := by decide +kernel
theorem dX12_close_41 : decode cX12_close 41 = .ok (.invokevirtual 132, 3) := by decide +kernel
theorem dX12_close_44 : decode cX12_close 44 = .ok (.iconst 0, 1) := by decide +kernel
theorem dX12_close_45 : decode cX12_close 45 = .ok (.istore_n 2, 1) := by decide +kernel
theorem dX12_close_46 : decode cX12_close 46 = .ok (.iload_n 2, 1) := by decide +kernel
theorem dX12_close_47 : decode cX12_close 47 = .ok (.aload_n 0, 1) := by decide +kernel
theorem dX12_close_48 : decode cX12_close 48 = .ok (.getfield 81, 3) := by decide +kernel
theorem dX12_close_51 : decode cX12_close 51 = .ok (.if_icmp .ge 26, 3) := by decide +kernel
theorem dX12_close_54 : decode cX12_close 54 = .ok (.iload_n 1, 1) := by decide +kernel
theorem dX12_close_55 : decode cX12_close 55 = .ok (.ifCond .eq 22, 3) := by decide +kernel
theorem dX12_close_58 : decode cX12_close 58 = .ok (.aload_n 0, 1) := by decide +kernel
theorem dX12_close_59 : decode cX12_close 59 = .ok (.iconst 0, 1) := by decide +kernel
theorem dX12_close_60 : decode cX12_close 60 = .ok (.iload_n 2, 1) := by decide +kernel
theorem dX12_close_61 : decode cX12_close 61 = .ok (.invokevirtual 138, 3) := by decide +kernel
theorem dX12_close_64 : decode cX12_close 64 = .ok (.aload_n 0, 1) := by decide +kernel
theorem dX12_close_65 : decode cX12_close 65 = .ok (.iconst 1, 1) := by decide +kernel
theorem dX12_close_66 : decode cX12_close 66 = .ok (.iconst 1, 1) := by decide +kernel
theorem dX12_close_67 : decode cX12_close 67 = .ok (.invokevirtual 218, 3) := by decide +kernel
theorem dX12_close_70 : decode cX12_close 70 = .ok (.istore_n 1, 1) := by decide +kernel
theorem dX12_close_71 : decode cX12_close 71 = .ok (.iinc 2 1, 3) := by decide +kernel
theorem dX12_close_74 : decode cX12_close 74 = .ok (.goto (-28), 3) := by decide +kernel
theorem dX12_close_77 : decode cX12_close 77 = .ok (.iconst 0, 1) := by decide +kernel
theorem dX12_close_78 : decode cX12_close 78 = .ok (.istore_n 2, 1) := by decide +kernel
theorem dX12_close_79 : decode cX12_close 79 = .ok (.iload_n 2, 1) := by decide +kernel
theorem dX12_close_80 : decode cX12_close 80 = .ok (.aload_n 0, 1) := by decide +kernel
theorem dX12_close_81 : decode cX12_close 81 = .ok (.getfield 55, 3) := by decide +kernel
theorem dX12_close_84 : decode cX12_close 84 = .ok (.if_icmp .ge 59, 3) := by decide +kernel
theorem dX12_close_87 : decode cX12_close 87 = .ok (.iload_n 1, 1) := by decide +kernel
theorem dX12_close_88 : decode cX12_close 88 = .ok (.ifCond .eq 55, 3) := by decide +kernel
theorem dX12_close_91 : decode cX12_close 91 = .ok (.iconst 0, 1) := by decide +kernel
theorem dX12_close_92 : decode cX12_close 92 = .ok (.istore_n 3, 1) := by decide +kernel
theorem dX12_close_93 : decode cX12_close 93 = .ok (.iload_n 3, 1) := by decide +kernel
theorem dX12_close_94 : decode cX12_close 94 = .ok (.aload_n 0, 1) := by decide +kernel
theorem dX12_close_95 : decode cX12_close 95 = .ok (.getfield 81, 3) := by decide +kernel
theorem dX12_close_98 : decode cX12_close 98 = .ok (.if_icmp .ge 39, 3) := by decide +kernel
theorem dX12_close_101 : decode cX12_close 101 = .ok (.iload_n 1, 1) := by decide +kernel
theorem dX12_close_102 : decode cX12_close 102 = .ok (.ifCond .eq 35, 3) := by decide +kernel
theorem dX12_close_105 : decode cX12_close 105 = .ok (.aload_n 0, 1) := by decide +kernel
theorem dX12_close_106 : decode cX12_close 106 = .ok (.iload_n 2, 1) := by decide +kernel
theorem dX12_close_107 : decode cX12_close 107 = .ok (.iconst 0, 1) := by decide +kernel
theorem dX12_close_108 : decode cX12_close 108 = .ok (.invokevirtual 221, 3) := by decide +kernel
theorem dX12_close_111 : decode cX12_close 111 = .ok (.aload_n 0, 1) := by decide +kernel
theorem dX12_close_112 : decode cX12_close 112 = .ok (.iconst 0, 1) := by decide +kernel
theorem dX12_close_113 : decode cX12_close 113 = .ok (.iload_n 3, 1) := by decide +kernel
theorem dX12_close_114 : decode cX12_close 114 = .ok (.invokevirtual 138, 3) := by decide +kernel
theorem dX12_close_117 : decode cX12_close 117 = .ok (.aload_n 0, 1) := by decide +kernel
theorem dX12_close_118 : decode cX12_close 118 = .ok (.iconst 1, 1) := by decide +kernel
theorem dX12_close_119 : decode cX12_close 119 = .ok (.aload_n 0, 1) := by decide +kernel
theorem dX12_close_120 : decode cX12_close 120 = .ok (.getfield 61, 3) := by decide +kernel
theorem dX12_close_123 : decode cX12_close 123 = .ok (.iload_n 2, 1) := by decide +kernel
theorem dX12_close_124 : decode cX12_close 124 = .ok (.iaload, 1) := by decide +kernel
theorem dX12_close_125 : decode cX12_close 125 = .ok (.iconst 1, 1) := by decide +kernel
theorem dX12_close_126 : decode cX12_close 126 = .ok (.iadd, 1) := by decide +kernel
theorem dX12_close_127 : decode cX12_close 127 = .ok (.invokevirtual 218, 3) := by decide +kernel
theorem dX12_close_130 : decode cX12_close 130 = .ok (.istore_n 1, 1) := by decide +kernel
theorem dX12_close_131 : decode cX12_close 131 = .ok (.iinc 3 1, 3) := by decide +kernel
theorem dX12_close_134 : decode cX12_close 134 = .ok (.goto (-41), 3) := by decide +kernel
theorem dX12_close_137 : decode cX12_close 137 = .ok (.iinc 2 1, 3) := by decide +kernel
theorem dX12_close_140 : decode cX12_close 140 = .ok (.goto (-61), 3) := by decide +kernel
theorem dX12_close_143 : decode cX12_close 143 = .ok (.iload_n 1, 1) := by decide +kernel
theorem dX12_close_144 : decode cX12_close 144 = .ok (.ifCond .ne 12, 3) := by decide +kernel
theorem dX12_close_147 : decode cX12_close 147 = .ok (.aload_n 0, 1) := by decide +kernel
theorem dX12_close_148 : decode cX12_close 148 = .ok (.bipush (-9), 2) := by decide +kernel
theorem dX12_close_150 : decode cX12_close 150 = .ok (.putfield 55, 3) := by decide +kernel
theorem dX12_close_153 : decode cX12_close 153 = .ok (.bipush (-6), 2) := by decide +kernel
theorem dX12_close_155 : decode cX12_close 155 = .ok (.ireturn, 1) := by decide +kernel
theorem dX12_close_156 : decode cX12_close 156 = .ok (.aload_n 0, 1) := by decide +kernel
theorem dX12_close_157 : decode cX12_close 157 = .ok (.getfield 55, 3) := by decide +kernel
theorem dX12_close_160 : decode cX12_close 160 = .ok (.ireturn, 1) := by decide +kernel
theorem dX12_multiply_0 : decode cX12_multiply 0 = .ok (.iconst 0, 1) := by decide +kernel
theorem dX12_multiply_1 : decode cX12_multiply 1 = .ok (.istore_n 3, 1) := by decide +kernel
theorem dX12_multiply_2 : decode cX12_multiply 2 = .ok (.iload_n 3, 1) := by decide +kernel
theorem dX12_multiply_3 : decode cX12_multiply 3 = .ok (.aload_n 0, 1) := by decide +kernel
theorem dX12_multiply_4 : decode cX12_multiply 4 = .ok (.getfield 7, 3) := by decide +kernel
theorem dX12_multiply_7 : decode cX12_multiply 7 = .ok (.if_icmp .ge 116, 3) := by decide +kernel
theorem dX12_multiply_10 : decode cX12_multiply 10 = .ok (.iconst 0, 1) := by decide +kernel
theorem dX12_multiply_11 : decode cX12_multiply 11 = .ok (.istore 4, 2) := by decide +kernel
theorem dX12_multiply_13 : decode cX12_multiply 13 = .ok (.iload 4, 2) := by decide +kernel
theorem dX12_multiply_15 : decode cX12_multiply 15 = .ok (.aload_n 0, 1) := by decide +kernel
theorem dX12_multiply_16 : decode cX12_multiply 16 = .ok (.getfield 7, 3) := by decide +kernel
theorem dX12_multiply_19 : decode cX12_multiply 19 = .ok (.if_icmp .ge 98, 3) := by decide +kernel
theorem dX12_multiply_22 : decode cX12_multiply 22 = .ok (.lconst 0, 1) := by decide +kernel
theorem dX12_multiply_23 : decode cX12_multiply 23 = .ok (.lstore 5, 2) := by decide +kernel
theorem dX12_multiply_25 : decode cX12_multiply 25 = .ok (.iconst 0, 1) := by decide +kernel
theorem dX12_multiply_26 : decode cX12_multiply 26 = .ok (.istore 7, 2) := by decide +kernel
theorem dX12_multiply_28 : decode cX12_multiply 28 = .ok (.iload 7, 2) := by decide +kernel
theorem dX12_multiply_30 : decode cX12_multiply 30 = .ok (.aload_n 0, 1) := by decide +kernel
theorem dX12_multiply_31 : decode cX12_multiply 31 = .ok (.getfield 7, 3) := by decide +kernel
theorem dX12_multiply_34 : decode cX12_multiply 34 = .ok (.if_icmp .ge 54, 3) := by decide +kernel
theorem dX12_multiply_37 : decode cX12_multiply 37 = .ok (.lload 5, 2) := by decide +kernel
theorem dX12_multiply_39 : decode cX12_multiply 39 = .ok (.aload_n 0, 1) := by decide +kernel
theorem dX12_multiply_40 : decode cX12_multiply 40 = .ok (.getfield 58, 3) := by decide +kernel
theorem dX12_multiply_43 : decode cX12_multiply 43 = .ok (.bipush 9, 2) := by decide +kernel
theorem dX12_multiply_45 : decode cX12_multiply 45 = .ok (.iload_n 1, 1) := by decide +kernel
theorem dX12_multiply_46 : decode cX12_multiply 46 = .ok (.imul, 1) := by decide +kernel
theorem dX12_multiply_47 : decode cX12_multiply 47 = .ok (.aload_n 0, 1) := by decide +kernel
theorem dX12_multiply_48 : decode cX12_multiply 48 = .ok (.getfield 7, 3) := by decide +kernel
theorem dX12_multiply_51 : decode cX12_multiply 51 = .ok (.iload_n 3, 1) := by decide +kernel
theorem dX12_multiply_52 : decode cX12_multiply 52 = .ok (.imul, 1) := by decide +kernel
theorem dX12_multiply_53 : decode cX12_multiply 53 = .ok (.iadd, 1) := by decide +kernel
theorem dX12_multiply_54 : decode cX12_multiply 54 = .ok (.iload 7, 2) := by decide +kernel
theorem dX12_multiply_56 : decode cX12_multiply 56 = .ok (.iadd, 1) := by decide +kernel
theorem dX12_multiply_57 : decode cX12_multiply 57 = .ok (.laload, 1) := by decide +kernel
theorem dX12_multiply_58 : decode cX12_multiply 58 = .ok (.aload_n 0, 1) := by decide +kernel
theorem dX12_multiply_59 : decode cX12_multiply 59 = .ok (.getfield 58, 3) := by decide +kernel
theorem dX12_multiply_62 : decode cX12_multiply 62 = .ok (.bipush 9, 2) := by decide +kernel
theorem dX12_multiply_64 : decode cX12_multiply 64 = .ok (.iload_n 2, 1) := by decide +kernel
theorem dX12_multiply_65 : decode cX12_multiply 65 = .ok (.imul, 1) := by decide +kernel
theorem dX12_multiply_66 : decode cX12_multiply 66 = .ok (.aload_n 0, 1) := by decide +kernel
theorem dX12_multiply_67 : decode cX12_multiply 67 = .ok (.getfield 7, 3) := by decide +kernel
theorem dX12_multiply_70 : decode cX12_multiply 70 = .ok (.iload 7, 2) := by decide +kernel
theorem dX12_multiply_72 : decode cX12_multiply 72 = .ok (.imul, 1) := by decide +kernel
theorem dX12_multiply_73 : decode cX12_multiply 73 = .ok (.iadd, 1) := by decide +kernel
theorem dX12_multiply_74 : decode cX12_multiply 74 = .ok (.iload 4, 2) := by decide +kernel
theorem dX12_multiply_76 : decode cX12_multiply 76 = .ok (.iadd, 1) := by decide +kernel
theorem dX12_multiply_77 : decode cX12_multiply 77 = .ok (.laload, 1) := by decide +kernel
theorem dX12_multiply_78 : decode cX12_multiply 78 = .ok (.lmul, 1) := by decide +kernel
theorem dX12_multiply_79 : decode cX12_multiply 79 = .ok (.ladd, 1) := by decide +kernel
theorem dX12_multiply_80 : decode cX12_multiply 80 = .ok (.lstore 5, 2) := by decide +kernel
theorem dX12_multiply_82 : decode cX12_multiply 82 = .ok (.iinc 7 1, 3) := by decide +kernel
theorem dX12_multiply_85 : decode cX12_multiply 85 = .ok (.goto (-57), 3) := by decide +kernel
theorem dX12_multiply_88 : decode cX12_multiply 88 = .ok (.aload_n 0, 1) := by decide +kernel
theorem dX12_multiply_89 : decode cX12_multiply 89 = .ok (.getfield 30, 3) := by decide +kernel
theorem dX12_multiply_92 : decode cX12_multiply 92 = .ok (.bipush 9, 2) := by decide +kernel
theorem dX12_multiply_94 : decode cX12_multiply 94 = .ok (.aload_n 0, 1) := by decide +kernel
theorem dX12_multiply_95 : decode cX12_multiply 95 = .ok (.getfield 7, 3) := by decide +kernel
theorem dX12_multiply_98 : decode cX12_multiply 98 = .ok (.iload_n 3, 1) := by decide +kernel
theorem dX12_multiply_99 : decode cX12_multiply 99 = .ok (.imul, 1) := by decide +kernel
theorem dX12_multiply_100 : decode cX12_multiply 100 = .ok (.iadd, 1) := by decide +kernel
theorem dX12_multiply_101 : decode cX12_multiply 101 = .ok (.iload 4, 2) := by decide +kernel
theorem dX12_multiply_103 : decode cX12_multiply 103 = .ok (.iadd, 1) := by decide +kernel
theorem dX12_multiply_104 : decode cX12_multiply 104 = .ok (.aload_n 0, 1) := by decide +kernel
theorem dX12_multiply_105 : decode cX12_multiply 105 = .ok (.lload 5, 2) := by decide +kernel
theorem dX12_multiply_107 : decode cX12_multiply 107 = .ok (.invokevirtual 120, 3) := by decide +kernel
theorem dX12_multiply_110 : decode cX12_multiply 110 = .ok (.lastore, 1) := by decide +kernel
theorem dX12_multiply_111 : decode cX12_multiply 111 = .ok (.iinc 4 1, 3) := by decide +kernel
theorem dX12_multiply_114 : decode cX12_multiply 114 = .ok (.goto (-101), 3) := by decide +kernel
theorem dX12_multiply_117 : decode cX12_multiply 117 = .ok (.iinc 3 1, 3) := by decide +kernel
theorem dX12_multiply_120 : decode cX12_multiply 120 = .ok (.goto (-118), 3) := by decide +kernel
theorem dX12_multiply_123 : decode cX12_multiply 123 = .ok (.return_, 1) := by decide +kernel
theorem dX12_isNought_0 : decode cX12_isNought 0 = .ok (.iconst 1, 1) := by decide +kernel
theorem dX12_isNought_1 : decode cX12_isNought 1 = .ok (.istore_n 2, 1) := by decide +kernel
theorem dX12_isNought_2 : decode cX12_isNought 2 = .ok (.iconst 0, 1) := by decide +kernel
theorem dX12_isNought_3 : decode cX12_isNought 3 = .ok (.istore_n 3, 1) := by decide +kernel
theorem dX12_isNought_4 : decode cX12_isNought 4 = .ok (.iload_n 3, 1) := by decide +kernel
theorem dX12_isNought_5 : decode cX12_isNought 5 = .ok (.aload_n 0, 1) := by decide +kernel
theorem dX12_isNought_6 : decode cX12_isNought 6 = .ok (.getfield 7, 3) := by decide +kernel
theorem dX12_isNought_9 : decode cX12_isNought 9 = .ok (.aload_n 0, 1) := by decide +kernel
theorem dX12_isNought_10 : decode cX12_isNought 10 = .ok (.getfield 7, 3) := by decide +kernel
theorem dX12_isNought_13 : decode cX12_isNought 13 = .ok (.imul, 1) := by decide +kernel
theorem dX12_isNought_14 : decode cX12_isNought 14 = .ok (.if_icmp .ge 33, 3) := by decide +kernel
theorem dX12_isNought_17 : decode cX12_isNought 17 = .ok (.iload_n 2, 1) := by decide +kernel
theorem dX12_isNought_18 : decode cX12_isNought 18 = .ok (.aload_n 0, 1) := by decide +kernel
theorem dX12_isNought_19 : decode cX12_isNought 19 = .ok (.getfield 58, 3) := by decide +kernel
theorem dX12_isNought_22 : decode cX12_isNought 22 = .ok (.bipush 9, 2) := by decide +kernel
theorem dX12_isNought_24 : decode cX12_isNought 24 = .ok (.iload_n 1, 1) := by decide +kernel
theorem dX12_isNought_25 : decode cX12_isNought 25 = .ok (.imul, 1) := by decide +kernel
theorem dX12_isNought_26 : decode cX12_isNought 26 = .ok (.iload_n 3, 1) := by decide +kernel
theorem dX12_isNought_27 : decode cX12_isNought 27 = .ok (.iadd, 1) := by decide +kernel
theorem dX12_isNought_28 : decode cX12_isNought 28 = .ok (.laload, 1) := by decide +kernel
theorem dX12_isNought_29 : decode cX12_isNought 29 = .ok (.lconst 0, 1) := by decide +kernel
theorem dX12_isNought_30 : decode cX12_isNought 30 = .ok (.lcmp, 1) := by decide +kernel
theorem dX12_isNought_31 : decode cX12_isNought 31 = .ok (.ifCond .ne 7, 3) := by decide +kernel
theorem dX12_isNought_34 : decode cX12_isNought 34 = .ok (.iconst 1, 1) := by decide +kernel
theorem dX12_isNought_35 : decode cX12_isNought 35 = .ok (.goto 4, 3) := by decide +kernel
theorem dX12_isNought_38 : decode cX12_isNought 38 = .ok (.iconst 0, 1) := by decide +kernel
theorem dX12_isNought_39 : decode cX12_isNought 39 = .ok (.iand, 1) := by decide +kernel
theorem dX12_isNought_40 : decode cX12_isNought 40 = .ok (.istore_n 2, 1) := by decide +kernel
theorem dX12_isNought_41 : decode cX12_isNought 41 = .ok (.iinc 3 1, 3) := by decide +kernel
theorem dX12_isNought_44 : decode cX12_isNought 44 = .ok (.goto (-40), 3) := by decide +kernel
theorem dX12_isNought_47 : decode cX12_isNought 47 = .ok (.iload_n 2, 1) := by decide +kernel
theorem dX12_isNought_48 : decode cX12_isNought 48 = .ok (.ireturn, 1) := by decide +kernel
theorem dX12_isOne_0 : decode cX12_isOne 0 = .ok (.iconst 1, 1) := by decide +kernel
theorem dX12_isOne_1 : decode cX12_isOne 1 = .ok (.istore_n 2, 1) := by decide +kernel
theorem dX12_isOne_2 : decode cX12_isOne 2 = .ok (.iconst 0, 1) := by decide +kernel
theorem dX12_isOne_3 : decode cX12_isOne 3 = .ok (.istore_n 3, 1) := by decide +kernel
theorem dX12_isOne_4 : decode cX12_isOne 4 = .ok (.iload_n 3, 1) := by decide +kernel
theorem dX12_isOne_5 : decode cX12_isOne 5 = .ok (.aload_n 0, 1) := by decide +kernel
theorem dX12_isOne_6 : decode cX12_isOne 6 = .ok (.getfield 7, 3) := by decide +kernel
theorem dX12_isOne_9 : decode cX12_isOne 9 = .ok (.if_icmp .ge 69, 3) := by decide +kernel
theorem dX12_isOne_12 : decode cX12_isOne 12 = .ok (.iconst 0, 1) := by decide +kernel
theorem dX12_isOne_13 : decode cX12_isOne 13 = .ok (.istore 4, 2) := by decide +kernel
theorem dX12_isOne_15 : decode cX12_isOne 15 = .ok (.iload 4, 2) := by decide +kernel
theorem dX12_isOne_17 : decode cX12_isOne 17 = .ok (.aload_n 0, 1) := by decide +kernel
theorem dX12_isOne_18 : decode cX12_isOne 18 = .ok (.getfield 7, 3) := by decide +kernel
theorem dX12_isOne_21 : decode cX12_isOne 21 = .ok (.if_icmp .ge 51, 3) := by decide +kernel
theorem dX12_isOne_24 : decode cX12_isOne 24 = .ok (.iload_n 2, 1) := by decide +kernel
theorem dX12_isOne_25 : decode cX12_isOne 25 = .ok (.aload_n 0, 1) := by decide +kernel
theorem dX12_isOne_26 : decode cX12_isOne 26 = .ok (.getfield 58, 3) := by decide +kernel
theorem dX12_isOne_29 : decode cX12_isOne 29 = .ok (.bipush 9, 2) := by decide +kernel
theorem dX12_isOne_31 : decode cX12_isOne 31 = .ok (.iload_n 1, 1) := by decide +kernel
theorem dX12_isOne_32 : decode cX12_isOne 32 = .ok (.imul, 1) := by decide +kernel
theorem dX12_isOne_33 : decode cX12_isOne 33 = .ok (.aload_n 0, 1) := by decide +kernel
theorem dX12_isOne_34 : decode cX12_isOne 34 = .ok (.getfield 7, 3) := by decide +kernel
theorem dX12_isOne_37 : decode cX12_isOne 37 = .ok (.iload_n 3, 1) := by decide +kernel
theorem dX12_isOne_38 : decode cX12_isOne 38 = .ok (.imul, 1) := by decide +kernel
theorem dX12_isOne_39 : decode cX12_isOne 39 = .ok (.iadd, 1) := by decide +kernel
theorem dX12_isOne_40 : decode cX12_isOne 40 = .ok (.iload 4, 2) := by decide +kernel
theorem dX12_isOne_42 : decode cX12_isOne 42 = .ok (.iadd, 1) := by decide +kernel
theorem dX12_isOne_43 : decode cX12_isOne 43 = .ok (.laload, 1) := by decide +kernel
theorem dX12_isOne_44 : decode cX12_isOne 44 = .ok (.iload_n 3, 1) := by decide +kernel
theorem dX12_isOne_45 : decode cX12_isOne 45 = .ok (.iload 4, 2) := by decide +kernel
theorem dX12_isOne_47 : decode cX12_isOne 47 = .ok (.if_icmp .ne 7, 3) := by decide +kernel
theorem dX12_isOne_50 : decode cX12_isOne 50 = .ok (.lconst 1, 1) := by decide +kernel
theorem dX12_isOne_51 : decode cX12_isOne 51 = .ok (.goto 4, 3) := by decide +kernel
theorem dX12_isOne_54 : decode cX12_isOne 54 = .ok (.lconst 0, 1) := by decide +kernel
theorem dX12_isOne_55 : decode cX12_isOne 55 = .ok (.lcmp, 1) := by decide +kernel
theorem dX12_isOne_56 : decode cX12_isOne 56 = .ok (.ifCond .ne 7, 3) := by decide +kernel
theorem dX12_isOne_59 : decode cX12_isOne 59 = .ok (.iconst 1, 1) := by decide +kernel
theorem dX12_isOne_60 : decode cX12_isOne 60 = .ok (.goto 4, 3) := by decide +kernel
theorem dX12_isOne_63 : decode cX12_isOne 63 = .ok (.iconst 0, 1) := by decide +kernel
theorem dX12_isOne_64 : decode cX12_isOne 64 = .ok (.iand, 1) := by decide +kernel
theorem dX12_isOne_65 : decode cX12_isOne 65 = .ok (.istore_n 2, 1) := by decide +kernel
theorem dX12_isOne_66 : decode cX12_isOne 66 = .ok (.iinc 4 1, 3) := by decide +kernel
theorem dX12_isOne_69 : decode cX12_isOne 69 = .ok (.goto (-54), 3) := by decide +kernel
theorem dX12_isOne_72 : decode cX12_isOne 72 = .ok (.iinc 3 1, 3) := by decide +kernel
theorem dX12_isOne_75 : decode cX12_isOne 75 = .ok (.goto (-71), 3) := by decide +kernel
theorem dX12_isOne_78 : decode cX12_isOne 78 = .ok (.iload_n 2, 1) := by decide +kernel
theorem dX12_isOne_79 : decode cX12_isOne 79 = .ok (.ireturn, 1) := by decide +kernel
theorem dX12_closed_0 : decode cX12_closed 0 = .ok (.iload_n 1, 1) := by decide +kernel
theorem dX12_closed_1 : decode cX12_closed 1 = .ok (.i2l, 1) := by decide +kernel
theorem dX12_closed_2 : decode cX12_closed 2 = .ok (.lconst 0, 1) := by decide +kernel
theorem dX12_closed_3 : decode cX12_closed 3 = .ok (.ldc2_w 224, 3) := by decide +kernel
theorem dX12_closed_6 : decode cX12_closed 6 = .ok (.invokestatic 84, 3) := by decide +kernel
theorem dX12_closed_9 : decode cX12_closed 9 = .ok (.ifCond .ne 6, 3) := by decide +kernel
theorem dX12_closed_12 : decode cX12_closed 12 = .ok (.bipush (-2), 2) := by decide +kernel
theorem dX12_closed_14 : decode cX12_closed 14 = .ok (.ireturn, 1) := by decide +kernel
theorem dX12_closed_15 : decode cX12_closed 15 = .ok (.aload_n 0, 1) := by decide +kernel
theorem dX12_closed_16 : decode cX12_closed 16 = .ok (.getfield 55, 3) := by decide +kernel
theorem dX12_closed_19 : decode cX12_closed 19 = .ok (.bipush (-9), 2) := by decide +kernel
theorem dX12_closed_21 : decode cX12_closed 21 = .ok (.if_icmp .ne 6, 3) := by decide +kernel
theorem dX12_closed_24 : decode cX12_closed 24 = .ok (.bipush (-3), 2) := by decide +kernel
theorem dX12_closed_26 : decode cX12_closed 26 = .ok (.ireturn, 1) := by decide +kernel
theorem dX12_closed_27 : decode cX12_closed 27 = .ok (.iconst 0, 1) := by decide +kernel
theorem dX12_closed_28 : decode cX12_closed 28 = .ok (.istore_n 2, 1) := by decide +kernel
theorem dX12_closed_29 : decode cX12_closed 29 = .ok (.iload_n 1, 1) := by decide +kernel
theorem dX12_closed_30 : decode cX12_closed 30 = .ok (.tableswitch 139 0 3 #[30, 35, 69, 98], 30) := by decide +kernel
theorem dX12_closed_60 : decode cX12_closed 60 = .ok (.aload_n 0, 1) := by decide +kernel
theorem dX12_closed_61 : decode cX12_closed 61 = .ok (.getfield 55, 3) := by decide +kernel
theorem dX12_closed_64 : decode cX12_closed 64 = .ok (.ireturn, 1) := by decide +kernel
theorem dX12_closed_65 : decode cX12_closed 65 = .ok (.iconst 0, 1) := by decide +kernel
theorem dX12_closed_66 : decode cX12_closed 66 = .ok (.istore_n 3, 1) := by decide +kernel
theorem dX12_closed_67 : decode cX12_closed 67 = .ok (.iload_n 3, 1) := by decide +kernel
theorem dX12_closed_68 : decode cX12_closed 68 = .ok (.aload_n 0, 1) := by decide +kernel
theorem dX12_closed_69 : decode cX12_closed 69 = .ok (.getfield 55, 3) := by decide +kernel
theorem dX12_closed_72 : decode cX12_closed 72 = .ok (.if_icmp .ge 25, 3) := by decide +kernel
theorem dX12_closed_75 : decode cX12_closed 75 = .ok (.iload_n 2, 1) := by decide +kernel
theorem dX12_closed_76 : decode cX12_closed 76 = .ok (.aload_n 0, 1) := by decide +kernel
theorem dX12_closed_77 : decode cX12_closed 77 = .ok (.iload_n 3, 1) := by decide +kernel
theorem dX12_closed_78 : decode cX12_closed 78 = .ok (.invokevirtual 226, 3) := by decide +kernel
theorem dX12_closed_81 : decode cX12_closed 81 = .ok (.ifCond .eq 7, 3) := by decide +kernel
theorem dX12_closed_84 : decode cX12_closed 84 = .ok (.iconst 1, 1) := by decide +kernel
theorem dX12_closed_85 : decode cX12_closed 85 = .ok (.goto 4, 3) := by decide +kernel
theorem dX12_closed_88 : decode cX12_closed 88 = .ok (.iconst 0, 1) := by decide +kernel
theorem dX12_closed_89 : decode cX12_closed 89 = .ok (.ior, 1) := by decide +kernel
theorem dX12_closed_90 : decode cX12_closed 90 = .ok (.istore_n 2, 1) := by decide +kernel
theorem dX12_closed_91 : decode cX12_closed 91 = .ok (.iinc 3 1, 3) := by decide +kernel
theorem dX12_closed_94 : decode cX12_closed 94 = .ok (.goto (-27), 3) := by decide +kernel
theorem dX12_closed_97 : decode cX12_closed 97 = .ok (.iload_n 2, 1) := by decide +kernel
theorem dX12_closed_98 : decode cX12_closed 98 = .ok (.ireturn, 1) := by decide +kernel
theorem dX12_closed_99 : decode cX12_closed 99 = .ok (.iconst 0, 1) := by decide +kernel
theorem dX12_closed_100 : decode cX12_closed 100 = .ok (.istore_n 3, 1) := by decide +kernel
theorem dX12_closed_101 : decode cX12_closed 101 = .ok (.iload_n 3, 1) := by decide +kernel
theorem dX12_closed_102 : decode cX12_closed 102 = .ok (.aload_n 0, 1) := by decide +kernel
theorem dX12_closed_103 : decode cX12_closed 103 = .ok (.getfield 55, 3) := by decide +kernel
theorem dX12_closed_106 : decode cX12_closed 106 = .ok (.if_icmp .ge 19, 3) := by decide +kernel
theorem dX12_closed_109 : decode cX12_closed 109 = .ok (.aload_n 0, 1) := by decide +kernel
theorem dX12_closed_110 : decode cX12_closed 110 = .ok (.iload_n 3, 1) := by decide +kernel
theorem dX12_closed_111 : decode cX12_closed 111 = .ok (.invokevirtual 229, 3) := by decide +kernel
theorem dX12_closed_114 : decode cX12_closed 114 = .ok (.ifCond .eq 5, 3) := by decide +kernel
theorem dX12_closed_117 : decode cX12_closed 117 = .ok (.iload_n 3, 1) := by decide +kernel
theorem dX12_closed_118 : decode cX12_closed 118 = .ok (.ireturn, 1) := by decide +kernel
theorem dX12_closed_119 : decode cX12_closed 119 = .ok (.iinc 3 1, 3) := by decide +kernel
theorem dX12_closed_122 : decode cX12_closed 122 = .ok (.goto (-21), 3) := by decide +kernel
end
section
theorem dX12_closed_125 : decode cX12_closed 125 = .ok (.bipush (-9), 2) := by decide +kernel
theorem dX12_closed_127 : decode cX12_closed 127 = .ok (.ireturn, 1) := by decide +kernel
theorem dX12_closed_128 : decode cX12_closed 128 = .ok (.iconst 0, 1) := by decide +kernel
theorem dX12_closed_129 : decode cX12_closed 129 = .ok (.istore_n 3, 1) := by decide +kernel
theorem dX12_closed_130 : decode cX12_closed 130 = .ok (.iload_n 3, 1) := by decide +kernel
theorem dX12_closed_131 : decode cX12_closed 131 = .ok (.aload_n 0, 1) := by decide +kernel
theorem dX12_closed_132 : decode cX12_closed 132 = .ok (.getfield 55, 3) := by decide +kernel
theorem dX12_closed_135 : decode cX12_closed 135 = .ok (.if_icmp .ge 32, 3) := by decide +kernel
theorem dX12_closed_138 : decode cX12_closed 138 = .ok (.aload_n 0, 1) := by decide +kernel
theorem dX12_closed_139 : decode cX12_closed 139 = .ok (.iload_n 3, 1) := by decide +kernel
theorem dX12_closed_140 : decode cX12_closed 140 = .ok (.iload_n 3, 1) := by decide +kernel
theorem dX12_closed_141 : decode cX12_closed 141 = .ok (.invokevirtual 232, 3) := by decide +kernel
theorem dX12_closed_144 : decode cX12_closed 144 = .ok (.iload_n 2, 1) := by decide +kernel
theorem dX12_closed_145 : decode cX12_closed 145 = .ok (.aload_n 0, 1) := by decide +kernel
theorem dX12_closed_146 : decode cX12_closed 146 = .ok (.iconst 1, 1) := by decide +kernel
theorem dX12_closed_147 : decode cX12_closed 147 = .ok (.invokevirtual 215, 3) := by decide +kernel
theorem dX12_closed_150 : decode cX12_closed 150 = .ok (.iload_n 3, 1) := by decide +kernel
theorem dX12_closed_151 : decode cX12_closed 151 = .ok (.if_icmp .ne 7, 3) := by decide +kernel
theorem dX12_closed_154 : decode cX12_closed 154 = .ok (.iconst 1, 1) := by decide +kernel
theorem dX12_closed_155 : decode cX12_closed 155 = .ok (.goto 4, 3) := by decide +kernel
theorem dX12_closed_158 : decode cX12_closed 158 = .ok (.iconst 0, 1) := by decide +kernel
theorem dX12_closed_159 : decode cX12_closed 159 = .ok (.iadd, 1) := by decide +kernel
theorem dX12_closed_160 : decode cX12_closed 160 = .ok (.istore_n 2, 1) := by decide +kernel
theorem dX12_closed_161 : decode cX12_closed 161 = .ok (.iinc 3 1, 3) := by decide +kernel
theorem dX12_closed_164 : decode cX12_closed 164 = .ok (.goto (-34), 3) := by decide +kernel
theorem dX12_closed_167 : decode cX12_closed 167 = .ok (.iload_n 2, 1) := by decide +kernel
theorem dX12_closed_168 : decode cX12_closed 168 = .ok (.ireturn, 1) := by decide +kernel
theorem dX12_closed_169 : decode cX12_closed 169 = .ok (.aload_n 0, 1) := by decide +kernel
theorem dX12_closed_170 : decode cX12_closed 170 = .ok (.getfield 61, 3) := by decide +kernel
theorem dX12_closed_173 : decode cX12_closed 173 = .ok (.aload_n 0, 1) := by decide +kernel
theorem dX12_closed_174 : decode cX12_closed 174 = .ok (.getfield 55, 3) := by decide +kernel
theorem dX12_closed_177 : decode cX12_closed 177 = .ok (.iconst 1, 1) := by decide +kernel
theorem dX12_closed_178 : decode cX12_closed 178 = .ok (.isub, 1) := by decide +kernel
theorem dX12_closed_179 : decode cX12_closed 179 = .ok (.iaload, 1) := by decide +kernel
theorem dX12_closed_180 : decode cX12_closed 180 = .ok (.ireturn, 1) := by decide +kernel
theorem dX12_isProduct_0 : decode cX12_isProduct 0 = .ok (.iload_n 1, 1) := by decide +kernel
theorem dX12_isProduct_1 : decode cX12_isProduct 1 = .ok (.ifCond .lt 15, 3) := by decide +kernel
theorem dX12_isProduct_4 : decode cX12_isProduct 4 = .ok (.iload_n 1, 1) := by decide +kernel
theorem dX12_isProduct_5 : decode cX12_isProduct 5 = .ok (.aload_n 0, 1) := by decide +kernel
theorem dX12_isProduct_6 : decode cX12_isProduct 6 = .ok (.getfield 55, 3) := by decide +kernel
theorem dX12_isProduct_9 : decode cX12_isProduct 9 = .ok (.if_icmp .ge 7, 3) := by decide +kernel
theorem dX12_isProduct_12 : decode cX12_isProduct 12 = .ok (.iconst 1, 1) := by decide +kernel
theorem dX12_isProduct_13 : decode cX12_isProduct 13 = .ok (.goto 4, 3) := by decide +kernel
theorem dX12_isProduct_16 : decode cX12_isProduct 16 = .ok (.iconst 0, 1) := by decide +kernel
theorem dX12_isProduct_17 : decode cX12_isProduct 17 = .ok (.ireturn, 1) := by decide +kernel
theorem dX12_product_0 : decode cX12_product 0 = .ok (.aload_n 0, 1) := by decide +kernel
theorem dX12_product_1 : decode cX12_product 1 = .ok (.iload_n 1, 1) := by decide +kernel
theorem dX12_product_2 : decode cX12_product 2 = .ok (.invokevirtual 235, 3) := by decide +kernel
theorem dX12_product_5 : decode cX12_product 5 = .ok (.ifCond .eq 33, 3) := by decide +kernel
theorem dX12_product_8 : decode cX12_product 8 = .ok (.aload_n 0, 1) := by decide +kernel
theorem dX12_product_9 : decode cX12_product 9 = .ok (.iload_n 2, 1) := by decide +kernel
theorem dX12_product_10 : decode cX12_product 10 = .ok (.iload_n 3, 1) := by decide +kernel
theorem dX12_product_11 : decode cX12_product 11 = .ok (.invokevirtual 116, 3) := by decide +kernel
theorem dX12_product_14 : decode cX12_product 14 = .ok (.ifCond .eq 24, 3) := by decide +kernel
theorem dX12_product_17 : decode cX12_product 17 = .ok (.aload_n 0, 1) := by decide +kernel
theorem dX12_product_18 : decode cX12_product 18 = .ok (.getfield 58, 3) := by decide +kernel
theorem dX12_product_21 : decode cX12_product 21 = .ok (.bipush 9, 2) := by decide +kernel
theorem dX12_product_23 : decode cX12_product 23 = .ok (.iload_n 1, 1) := by decide +kernel
theorem dX12_product_24 : decode cX12_product 24 = .ok (.imul, 1) := by decide +kernel
theorem dX12_product_25 : decode cX12_product 25 = .ok (.aload_n 0, 1) := by decide +kernel
theorem dX12_product_26 : decode cX12_product 26 = .ok (.getfield 7, 3) := by decide +kernel
theorem dX12_product_29 : decode cX12_product 29 = .ok (.iload_n 2, 1) := by decide +kernel
theorem dX12_product_30 : decode cX12_product 30 = .ok (.imul, 1) := by decide +kernel
theorem dX12_product_31 : decode cX12_product 31 = .ok (.iadd, 1) := by decide +kernel
theorem dX12_product_32 : decode cX12_product 32 = .ok (.iload_n 3, 1) := by decide +kernel
theorem dX12_product_33 : decode cX12_product 33 = .ok (.iadd, 1) := by decide +kernel
theorem dX12_product_34 : decode cX12_product 34 = .ok (.laload, 1) := by decide +kernel
theorem dX12_product_35 : decode cX12_product 35 = .ok (.goto 6, 3) := by decide +kernel
theorem dX12_product_38 : decode cX12_product 38 = .ok (.ldc2_w 79, 3) := by decide +kernel
theorem dX12_product_41 : decode cX12_product 41 = .ok (.lreturn, 1) := by decide +kernel
theorem dX12_times_0 : decode cX12_times 0 = .ok (.aload_n 0, 1) := by decide +kernel
theorem dX12_times_1 : decode cX12_times 1 = .ok (.iload_n 1, 1) := by decide +kernel
theorem dX12_times_2 : decode cX12_times 2 = .ok (.invokevirtual 235, 3) := by decide +kernel
theorem dX12_times_5 : decode cX12_times 5 = .ok (.ifCond .eq 11, 3) := by decide +kernel
theorem dX12_times_8 : decode cX12_times 8 = .ok (.aload_n 0, 1) := by decide +kernel
theorem dX12_times_9 : decode cX12_times 9 = .ok (.iload_n 2, 1) := by decide +kernel
theorem dX12_times_10 : decode cX12_times 10 = .ok (.invokevirtual 235, 3) := by decide +kernel
theorem dX12_times_13 : decode cX12_times 13 = .ok (.ifCond .ne 5, 3) := by decide +kernel
theorem dX12_times_16 : decode cX12_times 16 = .ok (.iconst (-1), 1) := by decide +kernel
theorem dX12_times_17 : decode cX12_times 17 = .ok (.ireturn, 1) := by decide +kernel
theorem dX12_times_18 : decode cX12_times 18 = .ok (.aload_n 0, 1) := by decide +kernel
theorem dX12_times_19 : decode cX12_times 19 = .ok (.iload_n 1, 1) := by decide +kernel
theorem dX12_times_20 : decode cX12_times 20 = .ok (.iload_n 2, 1) := by decide +kernel
theorem dX12_times_21 : decode cX12_times 21 = .ok (.invokevirtual 232, 3) := by decide +kernel
theorem dX12_times_24 : decode cX12_times 24 = .ok (.aload_n 0, 1) := by decide +kernel
theorem dX12_times_25 : decode cX12_times 25 = .ok (.iconst 1, 1) := by decide +kernel
theorem dX12_times_26 : decode cX12_times 26 = .ok (.invokevirtual 215, 3) := by decide +kernel
theorem dX12_times_29 : decode cX12_times 29 = .ok (.ireturn, 1) := by decide +kernel
theorem dX12_isWord_0 : decode cX12_isWord 0 = .ok (.iload_n 1, 1) := by decide +kernel
theorem dX12_isWord_1 : decode cX12_isWord 1 = .ok (.ifCond .lt 15, 3) := by decide +kernel
theorem dX12_isWord_4 : decode cX12_isWord 4 = .ok (.iload_n 1, 1) := by decide +kernel
theorem dX12_isWord_5 : decode cX12_isWord 5 = .ok (.aload_n 0, 1) := by decide +kernel
theorem dX12_isWord_6 : decode cX12_isWord 6 = .ok (.getfield 97, 3) := by decide +kernel
theorem dX12_isWord_9 : decode cX12_isWord 9 = .ok (.if_icmp .ge 7, 3) := by decide +kernel
theorem dX12_isWord_12 : decode cX12_isWord 12 = .ok (.iconst 1, 1) := by decide +kernel
theorem dX12_isWord_13 : decode cX12_isWord 13 = .ok (.goto 4, 3) := by decide +kernel
theorem dX12_isWord_16 : decode cX12_isWord 16 = .ok (.iconst 0, 1) := by decide +kernel
theorem dX12_isWord_17 : decode cX12_isWord 17 = .ok (.ireturn, 1) := by decide +kernel
theorem dX12_word_0 : decode cX12_word 0 = .ok (.aload_n 0, 1) := by decide +kernel
theorem dX12_word_1 : decode cX12_word 1 = .ok (.iconst 0, 1) := by decide +kernel
theorem dX12_word_2 : decode cX12_word 2 = .ok (.putfield 76, 3) := by decide +kernel
theorem dX12_word_5 : decode cX12_word 5 = .ok (.aload_n 0, 1) := by decide +kernel
theorem dX12_word_6 : decode cX12_word 6 = .ok (.iload_n 1, 1) := by decide +kernel
theorem dX12_word_7 : decode cX12_word 7 = .ok (.iload_n 2, 1) := by decide +kernel
theorem dX12_word_8 : decode cX12_word 8 = .ok (.invokevirtual 104, 3) := by decide +kernel
theorem dX12_word_11 : decode cX12_word 11 = .ok (.istore 5, 2) := by decide +kernel
theorem dX12_word_13 : decode cX12_word 13 = .ok (.iload 5, 2) := by decide +kernel
theorem dX12_word_15 : decode cX12_word 15 = .ok (.ifCond .eq 6, 3) := by decide +kernel
theorem dX12_word_18 : decode cX12_word 18 = .ok (.iload 5, 2) := by decide +kernel
theorem dX12_word_20 : decode cX12_word 20 = .ok (.ireturn, 1) := by decide +kernel
theorem dX12_word_21 : decode cX12_word 21 = .ok (.iload 4, 2) := by decide +kernel
theorem dX12_word_23 : decode cX12_word 23 = .ok (.ifCond .ge 9, 3) := by decide +kernel
theorem dX12_word_26 : decode cX12_word 26 = .ok (.aload_n 0, 1) := by decide +kernel
theorem dX12_word_27 : decode cX12_word 27 = .ok (.iconst 4, 1) := by decide +kernel
theorem dX12_word_28 : decode cX12_word 28 = .ok (.invokevirtual 100, 3) := by decide +kernel
theorem dX12_word_31 : decode cX12_word 31 = .ok (.ireturn, 1) := by decide +kernel
theorem dX12_word_32 : decode cX12_word 32 = .ok (.iload_n 3, 1) := by decide +kernel
theorem dX12_word_33 : decode cX12_word 33 = .ok (.ifCond .lt 26, 3) := by decide +kernel
theorem dX12_word_36 : decode cX12_word 36 = .ok (.iload_n 3, 1) := by decide +kernel
theorem dX12_word_37 : decode cX12_word 37 = .ok (.aload_n 0, 1) := by decide +kernel
theorem dX12_word_38 : decode cX12_word 38 = .ok (.getfield 24, 3) := by decide +kernel
theorem dX12_word_41 : decode cX12_word 41 = .ok (.iload_n 1, 1) := by decide +kernel
theorem dX12_word_42 : decode cX12_word 42 = .ok (.iaload, 1) := by decide +kernel
theorem dX12_word_43 : decode cX12_word 43 = .ok (.if_icmp .gt 16, 3) := by decide +kernel
theorem dX12_word_46 : decode cX12_word 46 = .ok (.iload 4, 2) := by decide +kernel
theorem dX12_word_48 : decode cX12_word 48 = .ok (.aload_n 0, 1) := by decide +kernel
theorem dX12_word_49 : decode cX12_word 49 = .ok (.getfield 24, 3) := by decide +kernel
theorem dX12_word_52 : decode cX12_word 52 = .ok (.iload_n 1, 1) := by decide +kernel
theorem dX12_word_53 : decode cX12_word 53 = .ok (.iaload, 1) := by decide +kernel
theorem dX12_word_54 : decode cX12_word 54 = .ok (.iload_n 3, 1) := by decide +kernel
theorem dX12_word_55 : decode cX12_word 55 = .ok (.isub, 1) := by decide +kernel
theorem dX12_word_56 : decode cX12_word 56 = .ok (.if_icmp .le 9, 3) := by decide +kernel
theorem dX12_word_59 : decode cX12_word 59 = .ok (.aload_n 0, 1) := by decide +kernel
theorem dX12_word_60 : decode cX12_word 60 = .ok (.iconst 3, 1) := by decide +kernel
theorem dX12_word_61 : decode cX12_word 61 = .ok (.invokevirtual 100, 3) := by decide +kernel
theorem dX12_word_64 : decode cX12_word 64 = .ok (.ireturn, 1) := by decide +kernel
theorem dX12_word_65 : decode cX12_word 65 = .ok (.iload 4, 2) := by decide +kernel
theorem dX12_word_67 : decode cX12_word 67 = .ok (.i2l, 1) := by decide +kernel
theorem dX12_word_68 : decode cX12_word 68 = .ok (.lconst 1, 1) := by decide +kernel
theorem dX12_word_69 : decode cX12_word 69 = .ok (.ldc2_w 238, 3) := by decide +kernel
theorem dX12_word_72 : decode cX12_word 72 = .ok (.invokestatic 84, 3) := by decide +kernel
theorem dX12_word_75 : decode cX12_word 75 = .ok (.ifCond .ne 6, 3) := by decide +kernel
theorem dX12_word_78 : decode cX12_word 78 = .ok (.bipush (-2), 2) := by decide +kernel
theorem dX12_word_80 : decode cX12_word 80 = .ok (.ireturn, 1) := by decide +kernel
theorem dX12_word_81 : decode cX12_word 81 = .ok (.iconst 0, 1) := by decide +kernel
theorem dX12_word_82 : decode cX12_word 82 = .ok (.istore 6, 2) := by decide +kernel
theorem dX12_word_84 : decode cX12_word 84 = .ok (.iload 6, 2) := by decide +kernel
theorem dX12_word_86 : decode cX12_word 86 = .ok (.iload 4, 2) := by decide +kernel
theorem dX12_word_88 : decode cX12_word 88 = .ok (.if_icmp .ge 32, 3) := by decide +kernel
theorem dX12_word_91 : decode cX12_word 91 = .ok (.aload_n 0, 1) := by decide +kernel
theorem dX12_word_92 : decode cX12_word 92 = .ok (.aload_n 0, 1) := by decide +kernel
theorem dX12_word_93 : decode cX12_word 93 = .ok (.getfield 27, 3) := by decide +kernel
theorem dX12_word_96 : decode cX12_word 96 = .ok (.bipush 40, 2) := by decide +kernel
theorem dX12_word_98 : decode cX12_word 98 = .ok (.iload_n 1, 1) := by decide +kernel
theorem dX12_word_99 : decode cX12_word 99 = .ok (.imul, 1) := by decide +kernel
theorem dX12_word_100 : decode cX12_word 100 = .ok (.iload_n 3, 1) := by decide +kernel
theorem dX12_word_101 : decode cX12_word 101 = .ok (.iadd, 1) := by decide +kernel
theorem dX12_word_102 : decode cX12_word 102 = .ok (.iload 6, 2) := by decide +kernel
theorem dX12_word_104 : decode cX12_word 104 = .ok (.iadd, 1) := by decide +kernel
theorem dX12_word_105 : decode cX12_word 105 = .ok (.iaload, 1) := by decide +kernel
theorem dX12_word_106 : decode cX12_word 106 = .ok (.invokevirtual 112, 3) := by decide +kernel
theorem dX12_word_109 : decode cX12_word 109 = .ok (.ifCond .ne 5, 3) := by decide +kernel
theorem dX12_word_112 : decode cX12_word 112 = .ok (.iconst (-1), 1) := by decide +kernel
theorem dX12_word_113 : decode cX12_word 113 = .ok (.ireturn, 1) := by decide +kernel
theorem dX12_word_114 : decode cX12_word 114 = .ok (.iinc 6 1, 3) := by decide +kernel
theorem dX12_word_117 : decode cX12_word 117 = .ok (.goto (-33), 3) := by decide +kernel
theorem dX12_word_120 : decode cX12_word 120 = .ok (.aload_n 0, 1) := by decide +kernel
theorem dX12_word_121 : decode cX12_word 121 = .ok (.getfield 97, 3) := by decide +kernel
theorem dX12_word_124 : decode cX12_word 124 = .ok (.bipush 10, 2) := by decide +kernel
theorem dX12_word_126 : decode cX12_word 126 = .ok (.if_icmp .ne 6, 3) := by decide +kernel
theorem dX12_word_129 : decode cX12_word 129 = .ok (.bipush (-4), 2) := by decide +kernel
theorem dX12_word_131 : decode cX12_word 131 = .ok (.ireturn, 1) := by decide +kernel
theorem dX12_word_132 : decode cX12_word 132 = .ok (.iconst 0, 1) := by decide +kernel
theorem dX12_word_133 : decode cX12_word 133 = .ok (.istore 6, 2) := by decide +kernel
theorem dX12_word_135 : decode cX12_word 135 = .ok (.iload 6, 2) := by decide +kernel
theorem dX12_word_137 : decode cX12_word 137 = .ok (.iload 4, 2) := by decide +kernel
theorem dX12_word_139 : decode cX12_word 139 = .ok (.if_icmp .ge 38, 3) := by decide +kernel
theorem dX12_word_142 : decode cX12_word 142 = .ok (.aload_n 0, 1) := by decide +kernel
theorem dX12_word_143 : decode cX12_word 143 = .ok (.getfield 70, 3) := by decide +kernel
theorem dX12_word_146 : decode cX12_word 146 = .ok (.bipush 12, 2) := by decide +kernel
theorem dX12_word_148 : decode cX12_word 148 = .ok (.aload_n 0, 1) := by decide +kernel
theorem dX12_word_149 : decode cX12_word 149 = .ok (.getfield 97, 3) := by decide +kernel
theorem dX12_word_152 : decode cX12_word 152 = .ok (.imul, 1) := by decide +kernel
theorem dX12_word_153 : decode cX12_word 153 = .ok (.iload 6, 2) := by decide +kernel
theorem dX12_word_155 : decode cX12_word 155 = .ok (.iadd, 1) := by decide +kernel
theorem dX12_word_156 : decode cX12_word 156 = .ok (.aload_n 0, 1) := by decide +kernel
theorem dX12_word_157 : decode cX12_word 157 = .ok (.getfield 27, 3) := by decide +kernel
theorem dX12_word_160 : decode cX12_word 160 = .ok (.bipush 40, 2) := by decide +kernel
theorem dX12_word_162 : decode cX12_word 162 = .ok (.iload_n 1, 1) := by decide +kernel
theorem dX12_word_163 : decode cX12_word 163 = .ok (.imul, 1) := by decide +kernel
theorem dX12_word_164 : decode cX12_word 164 = .ok (.iload_n 3, 1) := by decide +kernel
theorem dX12_word_165 : decode cX12_word 165 = .ok (.iadd, 1) := by decide +kernel
theorem dX12_word_166 : decode cX12_word 166 = .ok (.iload 6, 2) := by decide +kernel
theorem dX12_word_168 : decode cX12_word 168 = .ok (.iadd, 1) := by decide +kernel
theorem dX12_word_169 : decode cX12_word 169 = .ok (.iaload, 1) := by decide +kernel
theorem dX12_word_170 : decode cX12_word 170 = .ok (.iastore, 1) := by decide +kernel
theorem dX12_word_171 : decode cX12_word 171 = .ok (.iinc 6 1, 3) := by decide +kernel
theorem dX12_word_174 : decode cX12_word 174 = .ok (.goto (-39), 3) := by decide +kernel
theorem dX12_word_177 : decode cX12_word 177 = .ok (.aload_n 0, 1) := by decide +kernel
theorem dX12_word_178 : decode cX12_word 178 = .ok (.getfield 73, 3) := by decide +kernel
theorem dX12_word_181 : decode cX12_word 181 = .ok (.aload_n 0, 1) := by decide +kernel
theorem dX12_word_182 : decode cX12_word 182 = .ok (.getfield 97, 3) := by decide +kernel
theorem dX12_word_185 : decode cX12_word 185 = .ok (.iload 4, 2) := by decide +kernel
theorem dX12_word_187 : decode cX12_word 187 = .ok (.iastore, 1) := by decide +kernel
theorem dX12_word_188 : decode cX12_word 188 = .ok (.aload_n 0, 1) := by decide +kernel
theorem dX12_word_189 : decode cX12_word 189 = .ok (.dup, 1) := by decide +kernel
theorem dX12_word_190 : decode cX12_word 190 = .ok (.getfield 97, 3) := by decide +kernel
theorem dX12_word_193 : decode cX12_word 193 = .ok (.iconst 1, 1) := by decide +kernel
theorem dX12_word_194 : decode cX12_word 194 = .ok (.iadd, 1) := by decide +kernel
theorem dX12_word_195 : decode cX12_word 195 = .ok (.putfield 97, 3) := by decide +kernel
theorem dX12_word_198 : decode cX12_word 198 = .ok (.aload_n 0, 1) := by decide +kernel
theorem dX12_word_199 : decode cX12_word 199 = .ok (.getfield 97, 3) := by decide +kernel
theorem dX12_word_202 : decode cX12_word 202 = .ok (.iconst 1, 1) := by decide +kernel
theorem dX12_word_203 : decode cX12_word 203 = .ok (.isub, 1) := by decide +kernel
theorem dX12_word_204 : decode cX12_word 204 = .ok (.ireturn, 1) := by decide +kernel
theorem dX12_join_0 : decode cX12_join 0 = .ok (.aload_n 0, 1) := by decide +kernel
theorem dX12_join_1 : decode cX12_join 1 = .ok (.iload_n 1, 1) := by decide +kernel
theorem dX12_join_2 : decode cX12_join 2 = .ok (.invokevirtual 240, 3) := by decide +kernel
theorem dX12_join_5 : decode cX12_join 5 = .ok (.ifCond .eq 11, 3) := by decide +kernel
theorem dX12_join_8 : decode cX12_join 8 = .ok (.aload_n 0, 1) := by decide +kernel
theorem dX12_join_9 : decode cX12_join 9 = .ok (.iload_n 2, 1) := by decide +kernel
theorem dX12_join_10 : decode cX12_join 10 = .ok (.invokevirtual 240, 3) := by decide +kernel
theorem dX12_join_13 : decode cX12_join 13 = .ok (.ifCond .ne 5, 3) := by decide +kernel
theorem dX12_join_16 : decode cX12_join 16 = .ok (.iconst (-1), 1) := by decide +kernel
theorem dX12_join_17 : decode cX12_join 17 = .ok (.ireturn, 1) := by decide +kernel
theorem dX12_join_18 : decode cX12_join 18 = .ok (.aload_n 0, 1) := by decide +kernel
theorem dX12_join_19 : decode cX12_join 19 = .ok (.getfield 73, 3) := by decide +kernel
theorem dX12_join_22 : decode cX12_join 22 = .ok (.iload_n 1, 1) := by decide +kernel
theorem dX12_join_23 : decode cX12_join 23 = .ok (.iaload, 1) := by decide +kernel
theorem dX12_join_24 : decode cX12_join 24 = .ok (.aload_n 0, 1) := by decide +kernel
theorem dX12_join_25 : decode cX12_join 25 = .ok (.getfield 73, 3) := by decide +kernel
theorem dX12_join_28 : decode cX12_join 28 = .ok (.iload_n 2, 1) := by decide +kernel
theorem dX12_join_29 : decode cX12_join 29 = .ok (.iaload, 1) := by decide +kernel
theorem dX12_join_30 : decode cX12_join 30 = .ok (.iadd, 1) := by decide +kernel
theorem dX12_join_31 : decode cX12_join 31 = .ok (.bipush 12, 2) := by decide +kernel
theorem dX12_join_33 : decode cX12_join 33 = .ok (.if_icmp .le 6, 3) := by decide +kernel
theorem dX12_join_36 : decode cX12_join 36 = .ok (.bipush (-2), 2) := by decide +kernel
theorem dX12_join_38 : decode cX12_join 38 = .ok (.ireturn, 1) := by decide +kernel
theorem dX12_join_39 : decode cX12_join 39 = .ok (.aload_n 0, 1) := by decide +kernel
theorem dX12_join_40 : decode cX12_join 40 = .ok (.getfield 97, 3) := by decide +kernel
theorem dX12_join_43 : decode cX12_join 43 = .ok (.bipush 10, 2) := by decide +kernel
theorem dX12_join_45 : decode cX12_join 45 = .ok (.if_icmp .ne 6, 3) := by decide +kernel
theorem dX12_join_48 : decode cX12_join 48 = .ok (.bipush (-4), 2) := by decide +kernel
theorem dX12_join_50 : decode cX12_join 50 = .ok (.ireturn, 1) := by decide +kernel
theorem dX12_join_51 : decode cX12_join 51 = .ok (.iconst 0, 1) := by decide +kernel
theorem dX12_join_52 : decode cX12_join 52 = .ok (.istore_n 3, 1) := by decide +kernel
theorem dX12_join_53 : decode cX12_join 53 = .ok (.iload_n 3, 1) := by decide +kernel
theorem dX12_join_54 : decode cX12_join 54 = .ok (.aload_n 0, 1) := by decide +kernel
theorem dX12_join_55 : decode cX12_join 55 = .ok (.getfield 73, 3) := by decide +kernel
theorem dX12_join_58 : decode cX12_join 58 = .ok (.iload_n 1, 1) := by decide +kernel
theorem dX12_join_59 : decode cX12_join 59 = .ok (.iaload, 1) := by decide +kernel
theorem dX12_join_60 : decode cX12_join 60 = .ok (.if_icmp .ge 34, 3) := by decide +kernel
theorem dX12_join_63 : decode cX12_join 63 = .ok (.aload_n 0, 1) := by decide +kernel
theorem dX12_join_64 : decode cX12_join 64 = .ok (.getfield 70, 3) := by decide +kernel
theorem dX12_join_67 : decode cX12_join 67 = .ok (.bipush 12, 2) := by decide +kernel
theorem dX12_join_69 : decode cX12_join 69 = .ok (.aload_n 0, 1) := by decide +kernel
theorem dX12_join_70 : decode cX12_join 70 = .ok (.getfield 97, 3) := by decide +kernel
theorem dX12_join_73 : decode cX12_join 73 = .ok (.imul, 1) := by decide +kernel
theorem dX12_join_74 : decode cX12_join 74 = .ok (.iload_n 3, 1) := by decide +kernel
theorem dX12_join_75 : decode cX12_join 75 = .ok (.iadd, 1) := by decide +kernel
theorem dX12_join_76 : decode cX12_join 76 = .ok (.aload_n 0, 1) := by decide +kernel
theorem dX12_join_77 : decode cX12_join 77 = .ok (.getfield 70, 3) := by decide +kernel
theorem dX12_join_80 : decode cX12_join 80 = .ok (.bipush 12, 2) := by decide +kernel
theorem dX12_join_82 : decode cX12_join 82 = .ok (.iload_n 1, 1) := by decide +kernel
theorem dX12_join_83 : decode cX12_join 83 = .ok (.imul, 1) := by decide +kernel
theorem dX12_join_84 : decode cX12_join 84 = .ok (.iload_n 3, 1) := by decide +kernel
theorem dX12_join_85 : decode cX12_join 85 = .ok (.iadd, 1) := by decide +kernel
theorem dX12_join_86 : decode cX12_join 86 = .ok (.iaload, 1) := by decide +kernel
theorem dX12_join_87 : decode cX12_join 87 = .ok (.iastore, 1) := by decide +kernel
theorem dX12_join_88 : decode cX12_join 88 = .ok (.iinc 3 1, 3) := by decide +kernel
theorem dX12_join_91 : decode cX12_join 91 = .ok (.goto (-38), 3) := by decide +kernel
theorem dX12_join_94 : decode cX12_join 94 = .ok (.iconst 0, 1) := by decide +kernel
theorem dX12_join_95 : decode cX12_join 95 = .ok (.istore_n 3, 1) := by decide +kernel
theorem dX12_join_96 : decode cX12_join 96 = .ok (.iload_n 3, 1) := by decide +kernel
theorem dX12_join_97 : decode cX12_join 97 = .ok (.aload_n 0, 1) := by decide +kernel
theorem dX12_join_98 : decode cX12_join 98 = .ok (.getfield 73, 3) := by decide +kernel
theorem dX12_join_101 : decode cX12_join 101 = .ok (.iload_n 2, 1) := by decide +kernel
theorem dX12_join_102 : decode cX12_join 102 = .ok (.iaload, 1) := by decide +kernel
theorem dX12_join_103 : decode cX12_join 103 = .ok (.if_icmp .ge 41, 3) := by decide +kernel
theorem dX12_join_106 : decode cX12_join 106 = .ok (.aload_n 0, 1) := by decide +kernel
theorem dX12_join_107 : decode cX12_join 107 = .ok (.getfield 70, 3) := by decide +kernel
theorem dX12_join_110 : decode cX12_join 110 = .ok (.bipush 12, 2) := by decide +kernel
theorem dX12_join_112 : decode cX12_join 112 = .ok (.aload_n 0, 1) := by decide +kernel
theorem dX12_join_113 : decode cX12_join 113 = .ok (.getfield 97, 3) := by decide +kernel
theorem dX12_join_116 : decode cX12_join 116 = .ok (.imul, 1) := by decide +kernel
theorem dX12_join_117 : decode cX12_join 117 = .ok (.aload_n 0, 1) := by decide +kernel
theorem dX12_join_118 : decode cX12_join 118 = .ok (.getfield 73, 3) := by decide +kernel
theorem dX12_join_121 : decode cX12_join 121 = .ok (.iload_n 1, 1) := by decide +kernel
theorem dX12_join_122 : decode cX12_join 122 = .ok (.iaload, 1) := by decide +kernel
theorem dX12_join_123 : decode cX12_join 123 = .ok (.iadd, 1) := by decide +kernel
theorem dX12_join_124 : decode cX12_join 124 = .ok (.iload_n 3, 1) := by decide +kernel
theorem dX12_join_125 : decode cX12_join 125 = .ok (.iadd, 1) := by decide +kernel
theorem dX12_join_126 : decode cX12_join 126 = .ok (.aload_n 0, 1) := by decide +kernel
theorem dX12_join_127 : decode cX12_join 127 = .ok (.getfield 70, 3) := by decide +kernel
theorem dX12_join_130 : decode cX12_join 130 = .ok (.bipush 12, 2) := by decide +kernel
theorem dX12_join_132 : decode cX12_join 132 = .ok (.iload_n 2, 1) := by decide +kernel
theorem dX12_join_133 : decode cX12_join 133 = .ok (.imul, 1) := by decide +kernel
theorem dX12_join_134 : decode cX12_join 134 = .ok (.iload_n 3, 1) := by decide +kernel
theorem dX12_join_135 : decode cX12_join 135 = .ok (.iadd, 1) := by decide +kernel
theorem dX12_join_136 : decode cX12_join 136 = .ok (.iaload, 1) := by decide +kernel
theorem dX12_join_137 : decode cX12_join 137 = .ok (.iastore, 1) := by decide +kernel
theorem dX12_join_138 : decode cX12_join 138 = .ok (.iinc 3 1, 3) := by decide +kernel
theorem dX12_join_141 : decode cX12_join 141 = .ok (.goto (-45), 3) := by decide +kernel
theorem dX12_join_144 : decode cX12_join 144 = .ok (.aload_n 0, 1) := by decide +kernel
theorem dX12_join_145 : decode cX12_join 145 = .ok (.getfield 73, 3) := by decide +kernel
theorem dX12_join_148 : decode cX12_join 148 = .ok (.aload_n 0, 1) := by decide +kernel
theorem dX12_join_149 : decode cX12_join 149 = .ok (.getfield 97, 3) := by decide +kernel
theorem dX12_join_152 : decode cX12_join 152 = .ok (.aload_n 0, 1) := by decide +kernel
theorem dX12_join_153 : decode cX12_join 153 = .ok (.getfield 73, 3) := by decide +kernel
theorem dX12_join_156 : decode cX12_join 156 = .ok (.iload_n 1, 1) := by decide +kernel
theorem dX12_join_157 : decode cX12_join 157 = .ok (.iaload, 1) := by decide +kernel
theorem dX12_join_158 : decode cX12_join 158 = .ok (.aload_n 0, 1) := by decide +kernel
theorem dX12_join_159 : decode cX12_join 159 = .ok (.getfield 73, 3) := by decide +kernel
theorem dX12_join_162 : decode cX12_join 162 = .ok (.iload_n 2, 1) := by decide +kernel
theorem dX12_join_163 : decode cX12_join 163 = .ok (.iaload, 1) := by decide +kernel
theorem dX12_join_164 : decode cX12_join 164 = .ok (.iadd, 1) := by decide +kernel
theorem dX12_join_165 : decode cX12_join 165 = .ok (.iastore, 1) := by decide +kernel
theorem dX12_join_166 : decode cX12_join 166 = .ok (.aload_n 0, 1) := by decide +kernel
theorem dX12_join_167 : decode cX12_join 167 = .ok (.dup, 1) := by decide +kernel
theorem dX12_join_168 : decode cX12_join 168 = .ok (.getfield 97, 3) := by decide +kernel
theorem dX12_join_171 : decode cX12_join 171 = .ok (.iconst 1, 1) := by decide +kernel
theorem dX12_join_172 : decode cX12_join 172 = .ok (.iadd, 1) := by decide +kernel
theorem dX12_join_173 : decode cX12_join 173 = .ok (.putfield 97, 3) := by decide +kernel
theorem dX12_join_176 : decode cX12_join 176 = .ok (.aload_n 0, 1) := by decide +kernel
theorem dX12_join_177 : decode cX12_join 177 = .ok (.getfield 97, 3) := by decide +kernel
theorem dX12_join_180 : decode cX12_join 180 = .ok (.iconst 1, 1) := by decide +kernel
theorem dX12_join_181 : decode cX12_join 181 = .ok (.isub, 1) := by decide +kernel
theorem dX12_join_182 : decode cX12_join 182 = .ok (.ireturn, 1) := by decide +kernel
theorem dX12_letter_0 : decode cX12_letter 0 = .ok (.aload_n 0, 1) := by decide +kernel
theorem dX12_letter_1 : decode cX12_letter 1 = .ok (.iload_n 1, 1) := by decide +kernel
theorem dX12_letter_2 : decode cX12_letter 2 = .ok (.invokevirtual 240, 3) := by decide +kernel
theorem dX12_letter_5 : decode cX12_letter 5 = .ok (.ifCond .eq 35, 3) := by decide +kernel
theorem dX12_letter_8 : decode cX12_letter 8 = .ok (.iload_n 2, 1) := by decide +kernel
theorem dX12_letter_9 : decode cX12_letter 9 = .ok (.i2l, 1) := by decide +kernel
theorem dX12_letter_10 : decode cX12_letter 10 = .ok (.lconst 0, 1) := by decide +kernel
theorem dX12_letter_11 : decode cX12_letter 11 = .ok (.aload_n 0, 1) := by decide +kernel
theorem dX12_letter_12 : decode cX12_letter 12 = .ok (.getfield 73, 3) := by decide +kernel
theorem dX12_letter_15 : decode cX12_letter 15 = .ok (.iload_n 1, 1) := by decide +kernel
theorem dX12_letter_16 : decode cX12_letter 16 = .ok (.iaload, 1) := by decide +kernel
theorem dX12_letter_17 : decode cX12_letter 17 = .ok (.i2l, 1) := by decide +kernel
theorem dX12_letter_18 : decode cX12_letter 18 = .ok (.lconst 1, 1) := by decide +kernel
theorem dX12_letter_19 : decode cX12_letter 19 = .ok (.lsub, 1) := by decide +kernel
theorem dX12_letter_20 : decode cX12_letter 20 = .ok (.invokestatic 84, 3) := by decide +kernel
theorem dX12_letter_23 : decode cX12_letter 23 = .ok (.ifCond .eq 17, 3) := by decide +kernel
theorem dX12_letter_26 : decode cX12_letter 26 = .ok (.aload_n 0, 1) := by decide +kernel
theorem dX12_letter_27 : decode cX12_letter 27 = .ok (.getfield 70, 3) := by decide +kernel
theorem dX12_letter_30 : decode cX12_letter 30 = .ok (.bipush 12, 2) := by decide +kernel
theorem dX12_letter_32 : decode cX12_letter 32 = .ok (.iload_n 1, 1) := by decide +kernel
theorem dX12_letter_33 : decode cX12_letter 33 = .ok (.imul, 1) := by decide +kernel
theorem dX12_letter_34 : decode cX12_letter 34 = .ok (.iload_n 2, 1) := by decide +kernel
theorem dX12_letter_35 : decode cX12_letter 35 = .ok (.iadd, 1) := by decide +kernel
theorem dX12_letter_36 : decode cX12_letter 36 = .ok (.iaload, 1) := by decide +kernel
theorem dX12_letter_37 : decode cX12_letter 37 = .ok (.goto 4, 3) := by decide +kernel
theorem dX12_letter_40 : decode cX12_letter 40 = .ok (.iconst (-1), 1) := by decide +kernel
theorem dX12_letter_41 : decode cX12_letter 41 = .ok (.ireturn, 1) := by decide +kernel
theorem dX12_about_0 : decode cX12_about 0 = .ok (.aload_n 0, 1) := by decide +kernel
theorem dX12_about_1 : decode cX12_about 1 = .ok (.iload_n 1, 1) := by decide +kernel
theorem dX12_about_2 : decode cX12_about 2 = .ok (.invokevirtual 240, 3) := by decide +kernel
theorem dX12_about_5 : decode cX12_about 5 = .ok (.ifCond .ne 5, 3) := by decide +kernel
theorem dX12_about_8 : decode cX12_about 8 = .ok (.iconst (-1), 1) := by decide +kernel
theorem dX12_about_9 : decode cX12_about 9 = .ok (.ireturn, 1) := by decide +kernel
theorem dX12_about_10 : decode cX12_about 10 = .ok (.aload_n 0, 1) := by decide +kernel
theorem dX12_about_11 : decode cX12_about 11 = .ok (.getfield 73, 3) := by decide +kernel
theorem dX12_about_14 : decode cX12_about 14 = .ok (.iload_n 1, 1) := by decide +kernel
theorem dX12_about_15 : decode cX12_about 15 = .ok (.iaload, 1) := by decide +kernel
theorem dX12_about_16 : decode cX12_about 16 = .ok (.istore_n 3, 1) := by decide +kernel
theorem dX12_about_17 : decode cX12_about 17 = .ok (.iconst 0, 1) := by decide +kernel
theorem dX12_about_18 : decode cX12_about 18 = .ok (.istore 4, 2) := by decide +kernel
theorem dX12_about_20 : decode cX12_about 20 = .ok (.iload 4, 2) := by decide +kernel
theorem dX12_about_22 : decode cX12_about 22 = .ok (.iload_n 3, 1) := by decide +kernel
theorem dX12_about_23 : decode cX12_about 23 = .ok (.if_icmp .ge 28, 3) := by decide +kernel
theorem dX12_about_26 : decode cX12_about 26 = .ok (.aload_n 0, 1) := by decide +kernel
theorem dX12_about_27 : decode cX12_about 27 = .ok (.getfield 49, 3) := by decide +kernel
theorem dX12_about_30 : decode cX12_about 30 = .ok (.iload 4, 2) := by decide +kernel
theorem dX12_about_32 : decode cX12_about 32 = .ok (.aload_n 0, 1) := by decide +kernel
theorem dX12_about_33 : decode cX12_about 33 = .ok (.getfield 70, 3) := by decide +kernel
theorem dX12_about_36 : decode cX12_about 36 = .ok (.bipush 12, 2) := by decide +kernel
theorem dX12_about_38 : decode cX12_about 38 = .ok (.iload_n 1, 1) := by decide +kernel
theorem dX12_about_39 : decode cX12_about 39 = .ok (.imul, 1) := by decide +kernel
theorem dX12_about_40 : decode cX12_about 40 = .ok (.iload 4, 2) := by decide +kernel
theorem dX12_about_42 : decode cX12_about 42 = .ok (.iadd, 1) := by decide +kernel
theorem dX12_about_43 : decode cX12_about 43 = .ok (.iaload, 1) := by decide +kernel
theorem dX12_about_44 : decode cX12_about 44 = .ok (.iastore, 1) := by decide +kernel
theorem dX12_about_45 : decode cX12_about 45 = .ok (.iinc 4 1, 3) := by decide +kernel
theorem dX12_about_48 : decode cX12_about 48 = .ok (.goto (-28), 3) := by decide +kernel
theorem dX12_about_51 : decode cX12_about 51 = .ok (.iload_n 2, 1) := by decide +kernel
theorem dX12_about_52 : decode cX12_about 52 = .ok (.tableswitch 68 0 3 #[32, 34, 48, 62], 32) := by decide +kernel
theorem dX12_about_84 : decode cX12_about 84 = .ok (.iload_n 3, 1) := by decide +kernel
theorem dX12_about_85 : decode cX12_about 85 = .ok (.ireturn, 1) := by decide +kernel
theorem dX12_about_86 : decode cX12_about 86 = .ok (.aload_n 0, 1) := by decide +kernel
theorem dX12_about_87 : decode cX12_about 87 = .ok (.iload_n 3, 1) := by decide +kernel
theorem dX12_about_88 : decode cX12_about 88 = .ok (.invokevirtual 174, 3) := by decide +kernel
theorem dX12_about_91 : decode cX12_about 91 = .ok (.ifCond .eq 7, 3) := by decide +kernel
theorem dX12_about_94 : decode cX12_about 94 = .ok (.iconst 1, 1) := by decide +kernel
theorem dX12_about_95 : decode cX12_about 95 = .ok (.goto 4, 3) := by decide +kernel
theorem dX12_about_98 : decode cX12_about 98 = .ok (.iconst 0, 1) := by decide +kernel
theorem dX12_about_99 : decode cX12_about 99 = .ok (.ireturn, 1) := by decide +kernel
theorem dX12_about_100 : decode cX12_about 100 = .ok (.aload_n 0, 1) := by decide +kernel
theorem dX12_about_101 : decode cX12_about 101 = .ok (.iload_n 3, 1) := by decide +kernel
theorem dX12_about_102 : decode cX12_about 102 = .ok (.invokevirtual 189, 3) := by decide +kernel
end
section
theorem dX12_about_105 : decode cX12_about 105 = .ok (.ifCond .eq 7, 3) := by decide +kernel
theorem dX12_about_108 : decode cX12_about 108 = .ok (.iconst 1, 1) := by decide +kernel
theorem dX12_about_109 : decode cX12_about 109 = .ok (.goto 4, 3) := by decide +kernel
theorem dX12_about_112 : decode cX12_about 112 = .ok (.iconst 0, 1) := by decide +kernel
theorem dX12_about_113 : decode cX12_about 113 = .ok (.ireturn, 1) := by decide +kernel
theorem dX12_about_114 : decode cX12_about 114 = .ok (.aload_n 0, 1) := by decide +kernel
theorem dX12_about_115 : decode cX12_about 115 = .ok (.iload_n 3, 1) := by decide +kernel
theorem dX12_about_116 : decode cX12_about 116 = .ok (.invokevirtual 177, 3) := by decide +kernel
theorem dX12_about_119 : decode cX12_about 119 = .ok (.ireturn, 1) := by decide +kernel
theorem dX12_about_120 : decode cX12_about 120 = .ok (.bipush (-2), 2) := by decide +kernel
theorem dX12_about_122 : decode cX12_about 122 = .ok (.ireturn, 1) := by decide +kernel
theorem dX12_multiplyOut_0 : decode cX12_multiplyOut 0 = .ok (.aload_n 0, 1) := by decide +kernel
theorem dX12_multiplyOut_1 : decode cX12_multiplyOut 1 = .ok (.invokevirtual 132, 3) := by decide +kernel
theorem dX12_multiplyOut_4 : decode cX12_multiplyOut 4 = .ok (.iconst 0, 1) := by decide +kernel
theorem dX12_multiplyOut_5 : decode cX12_multiplyOut 5 = .ok (.istore_n 2, 1) := by decide +kernel
theorem dX12_multiplyOut_6 : decode cX12_multiplyOut 6 = .ok (.iload_n 2, 1) := by decide +kernel
theorem dX12_multiplyOut_7 : decode cX12_multiplyOut 7 = .ok (.aload_n 0, 1) := by decide +kernel
theorem dX12_multiplyOut_8 : decode cX12_multiplyOut 8 = .ok (.getfield 73, 3) := by decide +kernel
theorem dX12_multiplyOut_11 : decode cX12_multiplyOut 11 = .ok (.iload_n 1, 1) := by decide +kernel
theorem dX12_multiplyOut_12 : decode cX12_multiplyOut 12 = .ok (.iaload, 1) := by decide +kernel
theorem dX12_multiplyOut_13 : decode cX12_multiplyOut 13 = .ok (.if_icmp .ge 25, 3) := by decide +kernel
theorem dX12_multiplyOut_16 : decode cX12_multiplyOut 16 = .ok (.aload_n 0, 1) := by decide +kernel
theorem dX12_multiplyOut_17 : decode cX12_multiplyOut 17 = .ok (.iload_n 2, 1) := by decide +kernel
theorem dX12_multiplyOut_18 : decode cX12_multiplyOut 18 = .ok (.aload_n 0, 1) := by decide +kernel
theorem dX12_multiplyOut_19 : decode cX12_multiplyOut 19 = .ok (.getfield 70, 3) := by decide +kernel
theorem dX12_multiplyOut_22 : decode cX12_multiplyOut 22 = .ok (.bipush 12, 2) := by decide +kernel
theorem dX12_multiplyOut_24 : decode cX12_multiplyOut 24 = .ok (.iload_n 1, 1) := by decide +kernel
theorem dX12_multiplyOut_25 : decode cX12_multiplyOut 25 = .ok (.imul, 1) := by decide +kernel
theorem dX12_multiplyOut_26 : decode cX12_multiplyOut 26 = .ok (.iload_n 2, 1) := by decide +kernel
theorem dX12_multiplyOut_27 : decode cX12_multiplyOut 27 = .ok (.iadd, 1) := by decide +kernel
theorem dX12_multiplyOut_28 : decode cX12_multiplyOut 28 = .ok (.iaload, 1) := by decide +kernel
theorem dX12_multiplyOut_29 : decode cX12_multiplyOut 29 = .ok (.invokevirtual 138, 3) := by decide +kernel
theorem dX12_multiplyOut_32 : decode cX12_multiplyOut 32 = .ok (.iinc 2 1, 3) := by decide +kernel
theorem dX12_multiplyOut_35 : decode cX12_multiplyOut 35 = .ok (.goto (-29), 3) := by decide +kernel
theorem dX12_multiplyOut_38 : decode cX12_multiplyOut 38 = .ok (.return_, 1) := by decide +kernel
theorem dX12_entryOf_0 : decode cX12_entryOf 0 = .ok (.aload_n 0, 1) := by decide +kernel
theorem dX12_entryOf_1 : decode cX12_entryOf 1 = .ok (.iload_n 1, 1) := by decide +kernel
theorem dX12_entryOf_2 : decode cX12_entryOf 2 = .ok (.invokevirtual 240, 3) := by decide +kernel
theorem dX12_entryOf_5 : decode cX12_entryOf 5 = .ok (.ifCond .eq 12, 3) := by decide +kernel
theorem dX12_entryOf_8 : decode cX12_entryOf 8 = .ok (.aload_n 0, 1) := by decide +kernel
theorem dX12_entryOf_9 : decode cX12_entryOf 9 = .ok (.iload_n 2, 1) := by decide +kernel
theorem dX12_entryOf_10 : decode cX12_entryOf 10 = .ok (.iload_n 3, 1) := by decide +kernel
theorem dX12_entryOf_11 : decode cX12_entryOf 11 = .ok (.invokevirtual 116, 3) := by decide +kernel
theorem dX12_entryOf_14 : decode cX12_entryOf 14 = .ok (.ifCond .ne 7, 3) := by decide +kernel
theorem dX12_entryOf_17 : decode cX12_entryOf 17 = .ok (.ldc2_w 79, 3) := by decide +kernel
theorem dX12_entryOf_20 : decode cX12_entryOf 20 = .ok (.lreturn, 1) := by decide +kernel
theorem dX12_entryOf_21 : decode cX12_entryOf 21 = .ok (.aload_n 0, 1) := by decide +kernel
theorem dX12_entryOf_22 : decode cX12_entryOf 22 = .ok (.iload_n 1, 1) := by decide +kernel
theorem dX12_entryOf_23 : decode cX12_entryOf 23 = .ok (.invokevirtual 243, 3) := by decide +kernel
theorem dX12_entryOf_26 : decode cX12_entryOf 26 = .ok (.aload_n 0, 1) := by decide +kernel
theorem dX12_entryOf_27 : decode cX12_entryOf 27 = .ok (.getfield 30, 3) := by decide +kernel
theorem dX12_entryOf_30 : decode cX12_entryOf 30 = .ok (.bipush 9, 2) := by decide +kernel
theorem dX12_entryOf_32 : decode cX12_entryOf 32 = .ok (.aload_n 0, 1) := by decide +kernel
theorem dX12_entryOf_33 : decode cX12_entryOf 33 = .ok (.getfield 73, 3) := by decide +kernel
theorem dX12_entryOf_36 : decode cX12_entryOf 36 = .ok (.iload_n 1, 1) := by decide +kernel
theorem dX12_entryOf_37 : decode cX12_entryOf 37 = .ok (.iaload, 1) := by decide +kernel
theorem dX12_entryOf_38 : decode cX12_entryOf 38 = .ok (.imul, 1) := by decide +kernel
theorem dX12_entryOf_39 : decode cX12_entryOf 39 = .ok (.aload_n 0, 1) := by decide +kernel
theorem dX12_entryOf_40 : decode cX12_entryOf 40 = .ok (.getfield 7, 3) := by decide +kernel
theorem dX12_entryOf_43 : decode cX12_entryOf 43 = .ok (.iload_n 2, 1) := by decide +kernel
theorem dX12_entryOf_44 : decode cX12_entryOf 44 = .ok (.imul, 1) := by decide +kernel
theorem dX12_entryOf_45 : decode cX12_entryOf 45 = .ok (.iadd, 1) := by decide +kernel
theorem dX12_entryOf_46 : decode cX12_entryOf 46 = .ok (.iload_n 3, 1) := by decide +kernel
theorem dX12_entryOf_47 : decode cX12_entryOf 47 = .ok (.iadd, 1) := by decide +kernel
theorem dX12_entryOf_48 : decode cX12_entryOf 48 = .ok (.laload, 1) := by decide +kernel
theorem dX12_entryOf_49 : decode cX12_entryOf 49 = .ok (.lreturn, 1) := by decide +kernel
theorem dX12_size_0 : decode cX12_size 0 = .ok (.aload_n 0, 1) := by decide +kernel
theorem dX12_size_1 : decode cX12_size 1 = .ok (.iload_n 1, 1) := by decide +kernel
theorem dX12_size_2 : decode cX12_size 2 = .ok (.invokevirtual 240, 3) := by decide +kernel
theorem dX12_size_5 : decode cX12_size 5 = .ok (.ifCond .eq 13, 3) := by decide +kernel
theorem dX12_size_8 : decode cX12_size 8 = .ok (.iload_n 2, 1) := by decide +kernel
theorem dX12_size_9 : decode cX12_size 9 = .ok (.i2l, 1) := by decide +kernel
theorem dX12_size_10 : decode cX12_size 10 = .ok (.lconst 0, 1) := by decide +kernel
theorem dX12_size_11 : decode cX12_size 11 = .ok (.lconst 1, 1) := by decide +kernel
theorem dX12_size_12 : decode cX12_size 12 = .ok (.invokestatic 84, 3) := by decide +kernel
theorem dX12_size_15 : decode cX12_size 15 = .ok (.ifCond .ne 7, 3) := by decide +kernel
theorem dX12_size_18 : decode cX12_size 18 = .ok (.ldc2_w 79, 3) := by decide +kernel
theorem dX12_size_21 : decode cX12_size 21 = .ok (.lreturn, 1) := by decide +kernel
theorem dX12_size_22 : decode cX12_size 22 = .ok (.aload_n 0, 1) := by decide +kernel
theorem dX12_size_23 : decode cX12_size 23 = .ok (.iload_n 1, 1) := by decide +kernel
theorem dX12_size_24 : decode cX12_size 24 = .ok (.invokevirtual 243, 3) := by decide +kernel
theorem dX12_size_27 : decode cX12_size 27 = .ok (.iload_n 2, 1) := by decide +kernel
theorem dX12_size_28 : decode cX12_size 28 = .ok (.ifCond .ne 16, 3) := by decide +kernel
theorem dX12_size_31 : decode cX12_size 31 = .ok (.aload_n 0, 1) := by decide +kernel
theorem dX12_size_32 : decode cX12_size 32 = .ok (.aload_n 0, 1) := by decide +kernel
theorem dX12_size_33 : decode cX12_size 33 = .ok (.getfield 73, 3) := by decide +kernel
theorem dX12_size_36 : decode cX12_size 36 = .ok (.iload_n 1, 1) := by decide +kernel
theorem dX12_size_37 : decode cX12_size 37 = .ok (.iaload, 1) := by decide +kernel
theorem dX12_size_38 : decode cX12_size 38 = .ok (.invokevirtual 161, 3) := by decide +kernel
theorem dX12_size_41 : decode cX12_size 41 = .ok (.goto 13, 3) := by decide +kernel
theorem dX12_size_44 : decode cX12_size 44 = .ok (.aload_n 0, 1) := by decide +kernel
theorem dX12_size_45 : decode cX12_size 45 = .ok (.aload_n 0, 1) := by decide +kernel
theorem dX12_size_46 : decode cX12_size 46 = .ok (.getfield 73, 3) := by decide +kernel
theorem dX12_size_49 : decode cX12_size 49 = .ok (.iload_n 1, 1) := by decide +kernel
theorem dX12_size_50 : decode cX12_size 50 = .ok (.iaload, 1) := by decide +kernel
theorem dX12_size_51 : decode cX12_size 51 = .ok (.invokevirtual 192, 3) := by decide +kernel
theorem dX12_size_54 : decode cX12_size 54 = .ok (.lreturn, 1) := by decide +kernel
theorem dX12_sheet_0 : decode cX12_sheet 0 = .ok (.aload_n 0, 1) := by decide +kernel
theorem dX12_sheet_1 : decode cX12_sheet 1 = .ok (.iconst 0, 1) := by decide +kernel
theorem dX12_sheet_2 : decode cX12_sheet 2 = .ok (.putfield 76, 3) := by decide +kernel
theorem dX12_sheet_5 : decode cX12_sheet 5 = .ok (.iload_n 1, 1) := by decide +kernel
theorem dX12_sheet_6 : decode cX12_sheet 6 = .ok (.i2l, 1) := by decide +kernel
theorem dX12_sheet_7 : decode cX12_sheet 7 = .ok (.lconst 0, 1) := by decide +kernel
theorem dX12_sheet_8 : decode cX12_sheet 8 = .ok (.ldc2_w 90, 3) := by decide +kernel
theorem dX12_sheet_11 : decode cX12_sheet 11 = .ok (.invokestatic 84, 3) := by decide +kernel
theorem dX12_sheet_14 : decode cX12_sheet 14 = .ok (.ifCond .ne 5, 3) := by decide +kernel
theorem dX12_sheet_17 : decode cX12_sheet 17 = .ok (.iconst (-1), 1) := by decide +kernel
theorem dX12_sheet_18 : decode cX12_sheet 18 = .ok (.ireturn, 1) := by decide +kernel
theorem dX12_sheet_19 : decode cX12_sheet 19 = .ok (.iload_n 2, 1) := by decide +kernel
theorem dX12_sheet_20 : decode cX12_sheet 20 = .ok (.i2l, 1) := by decide +kernel
theorem dX12_sheet_21 : decode cX12_sheet 21 = .ok (.lconst 0, 1) := by decide +kernel
theorem dX12_sheet_22 : decode cX12_sheet 22 = .ok (.ldc2_w 88, 3) := by decide +kernel
theorem dX12_sheet_25 : decode cX12_sheet 25 = .ok (.invokestatic 84, 3) := by decide +kernel
theorem dX12_sheet_28 : decode cX12_sheet 28 = .ok (.ifCond .eq 9, 3) := by decide +kernel
theorem dX12_sheet_31 : decode cX12_sheet 31 = .ok (.iload_n 3, 1) := by decide +kernel
theorem dX12_sheet_32 : decode cX12_sheet 32 = .ok (.bipush 40, 2) := by decide +kernel
theorem dX12_sheet_34 : decode cX12_sheet 34 = .ok (.if_icmp .le 6, 3) := by decide +kernel
theorem dX12_sheet_37 : decode cX12_sheet 37 = .ok (.bipush (-2), 2) := by decide +kernel
theorem dX12_sheet_39 : decode cX12_sheet 39 = .ok (.ireturn, 1) := by decide +kernel
theorem dX12_sheet_40 : decode cX12_sheet 40 = .ok (.iload_n 3, 1) := by decide +kernel
theorem dX12_sheet_41 : decode cX12_sheet 41 = .ok (.ifCond .ge 9, 3) := by decide +kernel
theorem dX12_sheet_44 : decode cX12_sheet 44 = .ok (.aload_n 0, 1) := by decide +kernel
theorem dX12_sheet_45 : decode cX12_sheet 45 = .ok (.iconst 4, 1) := by decide +kernel
theorem dX12_sheet_46 : decode cX12_sheet 46 = .ok (.invokevirtual 100, 3) := by decide +kernel
theorem dX12_sheet_49 : decode cX12_sheet 49 = .ok (.ireturn, 1) := by decide +kernel
theorem dX12_sheet_50 : decode cX12_sheet 50 = .ok (.aload_n 0, 1) := by decide +kernel
theorem dX12_sheet_51 : decode cX12_sheet 51 = .ok (.getfield 21, 3) := by decide +kernel
theorem dX12_sheet_54 : decode cX12_sheet 54 = .ok (.iload_n 1, 1) := by decide +kernel
theorem dX12_sheet_55 : decode cX12_sheet 55 = .ok (.iload_n 2, 1) := by decide +kernel
theorem dX12_sheet_56 : decode cX12_sheet 56 = .ok (.iastore, 1) := by decide +kernel
theorem dX12_sheet_57 : decode cX12_sheet 57 = .ok (.aload_n 0, 1) := by decide +kernel
theorem dX12_sheet_58 : decode cX12_sheet 58 = .ok (.getfield 24, 3) := by decide +kernel
theorem dX12_sheet_61 : decode cX12_sheet 61 = .ok (.iload_n 1, 1) := by decide +kernel
theorem dX12_sheet_62 : decode cX12_sheet 62 = .ok (.iload_n 3, 1) := by decide +kernel
theorem dX12_sheet_63 : decode cX12_sheet 63 = .ok (.iastore, 1) := by decide +kernel
theorem dX12_sheet_64 : decode cX12_sheet 64 = .ok (.iconst 0, 1) := by decide +kernel
theorem dX12_sheet_65 : decode cX12_sheet 65 = .ok (.istore 4, 2) := by decide +kernel
theorem dX12_sheet_67 : decode cX12_sheet 67 = .ok (.iload 4, 2) := by decide +kernel
theorem dX12_sheet_69 : decode cX12_sheet 69 = .ok (.bipush 40, 2) := by decide +kernel
theorem dX12_sheet_71 : decode cX12_sheet 71 = .ok (.if_icmp .ge 22, 3) := by decide +kernel
theorem dX12_sheet_74 : decode cX12_sheet 74 = .ok (.aload_n 0, 1) := by decide +kernel
theorem dX12_sheet_75 : decode cX12_sheet 75 = .ok (.getfield 27, 3) := by decide +kernel
theorem dX12_sheet_78 : decode cX12_sheet 78 = .ok (.bipush 40, 2) := by decide +kernel
theorem dX12_sheet_80 : decode cX12_sheet 80 = .ok (.iload_n 1, 1) := by decide +kernel
theorem dX12_sheet_81 : decode cX12_sheet 81 = .ok (.imul, 1) := by decide +kernel
theorem dX12_sheet_82 : decode cX12_sheet 82 = .ok (.iload 4, 2) := by decide +kernel
theorem dX12_sheet_84 : decode cX12_sheet 84 = .ok (.iadd, 1) := by decide +kernel
theorem dX12_sheet_85 : decode cX12_sheet 85 = .ok (.iconst 0, 1) := by decide +kernel
theorem dX12_sheet_86 : decode cX12_sheet 86 = .ok (.iastore, 1) := by decide +kernel
theorem dX12_sheet_87 : decode cX12_sheet 87 = .ok (.iinc 4 1, 3) := by decide +kernel
theorem dX12_sheet_90 : decode cX12_sheet 90 = .ok (.goto (-23), 3) := by decide +kernel
theorem dX12_sheet_93 : decode cX12_sheet 93 = .ok (.iconst 1, 1) := by decide +kernel
theorem dX12_sheet_94 : decode cX12_sheet 94 = .ok (.ireturn, 1) := by decide +kernel
theorem dX12_lose_0 : decode cX12_lose 0 = .ok (.iload_n 1, 1) := by decide +kernel
theorem dX12_lose_1 : decode cX12_lose 1 = .ok (.i2l, 1) := by decide +kernel
theorem dX12_lose_2 : decode cX12_lose 2 = .ok (.lconst 0, 1) := by decide +kernel
theorem dX12_lose_3 : decode cX12_lose 3 = .ok (.ldc2_w 90, 3) := by decide +kernel
theorem dX12_lose_6 : decode cX12_lose 6 = .ok (.invokestatic 84, 3) := by decide +kernel
theorem dX12_lose_9 : decode cX12_lose 9 = .ok (.ifCond .ne 5, 3) := by decide +kernel
theorem dX12_lose_12 : decode cX12_lose 12 = .ok (.iconst (-1), 1) := by decide +kernel
theorem dX12_lose_13 : decode cX12_lose 13 = .ok (.ireturn, 1) := by decide +kernel
theorem dX12_lose_14 : decode cX12_lose 14 = .ok (.aload_n 0, 1) := by decide +kernel
theorem dX12_lose_15 : decode cX12_lose 15 = .ok (.getfield 21, 3) := by decide +kernel
theorem dX12_lose_18 : decode cX12_lose 18 = .ok (.iload_n 1, 1) := by decide +kernel
theorem dX12_lose_19 : decode cX12_lose 19 = .ok (.iaload, 1) := by decide +kernel
theorem dX12_lose_20 : decode cX12_lose 20 = .ok (.bipush (-9), 2) := by decide +kernel
theorem dX12_lose_22 : decode cX12_lose 22 = .ok (.if_icmp .ne 7, 3) := by decide +kernel
theorem dX12_lose_25 : decode cX12_lose 25 = .ok (.iconst 0, 1) := by decide +kernel
theorem dX12_lose_26 : decode cX12_lose 26 = .ok (.goto 4, 3) := by decide +kernel
theorem dX12_lose_29 : decode cX12_lose 29 = .ok (.iconst 1, 1) := by decide +kernel
theorem dX12_lose_30 : decode cX12_lose 30 = .ok (.istore_n 2, 1) := by decide +kernel
theorem dX12_lose_31 : decode cX12_lose 31 = .ok (.aload_n 0, 1) := by decide +kernel
theorem dX12_lose_32 : decode cX12_lose 32 = .ok (.getfield 21, 3) := by decide +kernel
theorem dX12_lose_35 : decode cX12_lose 35 = .ok (.iload_n 1, 1) := by decide +kernel
theorem dX12_lose_36 : decode cX12_lose 36 = .ok (.bipush (-9), 2) := by decide +kernel
theorem dX12_lose_38 : decode cX12_lose 38 = .ok (.iastore, 1) := by decide +kernel
theorem dX12_lose_39 : decode cX12_lose 39 = .ok (.iload_n 2, 1) := by decide +kernel
theorem dX12_lose_40 : decode cX12_lose 40 = .ok (.ireturn, 1) := by decide +kernel
theorem dX12_put_0 : decode cX12_put 0 = .ok (.aload_n 0, 1) := by decide +kernel
theorem dX12_put_1 : decode cX12_put 1 = .ok (.iconst 0, 1) := by decide +kernel
theorem dX12_put_2 : decode cX12_put 2 = .ok (.putfield 76, 3) := by decide +kernel
theorem dX12_put_5 : decode cX12_put 5 = .ok (.iload_n 1, 1) := by decide +kernel
theorem dX12_put_6 : decode cX12_put 6 = .ok (.i2l, 1) := by decide +kernel
theorem dX12_put_7 : decode cX12_put 7 = .ok (.lconst 0, 1) := by decide +kernel
theorem dX12_put_8 : decode cX12_put 8 = .ok (.ldc2_w 90, 3) := by decide +kernel
theorem dX12_put_11 : decode cX12_put 11 = .ok (.invokestatic 84, 3) := by decide +kernel
theorem dX12_put_14 : decode cX12_put 14 = .ok (.ifCond .ne 5, 3) := by decide +kernel
theorem dX12_put_17 : decode cX12_put 17 = .ok (.iconst (-1), 1) := by decide +kernel
theorem dX12_put_18 : decode cX12_put 18 = .ok (.ireturn, 1) := by decide +kernel
theorem dX12_put_19 : decode cX12_put 19 = .ok (.aload_n 0, 1) := by decide +kernel
theorem dX12_put_20 : decode cX12_put 20 = .ok (.getfield 21, 3) := by decide +kernel
theorem dX12_put_23 : decode cX12_put 23 = .ok (.iload_n 1, 1) := by decide +kernel
theorem dX12_put_24 : decode cX12_put 24 = .ok (.iaload, 1) := by decide +kernel
theorem dX12_put_25 : decode cX12_put 25 = .ok (.bipush (-9), 2) := by decide +kernel
theorem dX12_put_27 : decode cX12_put 27 = .ok (.if_icmp .ne 9, 3) := by decide +kernel
theorem dX12_put_30 : decode cX12_put 30 = .ok (.aload_n 0, 1) := by decide +kernel
theorem dX12_put_31 : decode cX12_put 31 = .ok (.iconst 1, 1) := by decide +kernel
theorem dX12_put_32 : decode cX12_put 32 = .ok (.invokevirtual 100, 3) := by decide +kernel
theorem dX12_put_35 : decode cX12_put 35 = .ok (.ireturn, 1) := by decide +kernel
theorem dX12_put_36 : decode cX12_put 36 = .ok (.iload_n 2, 1) := by decide +kernel
theorem dX12_put_37 : decode cX12_put 37 = .ok (.i2l, 1) := by decide +kernel
theorem dX12_put_38 : decode cX12_put 38 = .ok (.lconst 0, 1) := by decide +kernel
theorem dX12_put_39 : decode cX12_put 39 = .ok (.aload_n 0, 1) := by decide +kernel
theorem dX12_put_40 : decode cX12_put 40 = .ok (.getfield 24, 3) := by decide +kernel
theorem dX12_put_43 : decode cX12_put 43 = .ok (.iload_n 1, 1) := by decide +kernel
theorem dX12_put_44 : decode cX12_put 44 = .ok (.iaload, 1) := by decide +kernel
theorem dX12_put_45 : decode cX12_put 45 = .ok (.i2l, 1) := by decide +kernel
theorem dX12_put_46 : decode cX12_put 46 = .ok (.lconst 1, 1) := by decide +kernel
theorem dX12_put_47 : decode cX12_put 47 = .ok (.lsub, 1) := by decide +kernel
theorem dX12_put_48 : decode cX12_put 48 = .ok (.invokestatic 84, 3) := by decide +kernel
theorem dX12_put_51 : decode cX12_put 51 = .ok (.ifCond .ne 9, 3) := by decide +kernel
theorem dX12_put_54 : decode cX12_put 54 = .ok (.aload_n 0, 1) := by decide +kernel
theorem dX12_put_55 : decode cX12_put 55 = .ok (.iconst 3, 1) := by decide +kernel
theorem dX12_put_56 : decode cX12_put 56 = .ok (.invokevirtual 100, 3) := by decide +kernel
theorem dX12_put_59 : decode cX12_put 59 = .ok (.ireturn, 1) := by decide +kernel
theorem dX12_put_60 : decode cX12_put 60 = .ok (.aload_n 0, 1) := by decide +kernel
theorem dX12_put_61 : decode cX12_put 61 = .ok (.getfield 27, 3) := by decide +kernel
theorem dX12_put_64 : decode cX12_put 64 = .ok (.bipush 40, 2) := by decide +kernel
theorem dX12_put_66 : decode cX12_put 66 = .ok (.iload_n 1, 1) := by decide +kernel
theorem dX12_put_67 : decode cX12_put 67 = .ok (.imul, 1) := by decide +kernel
theorem dX12_put_68 : decode cX12_put 68 = .ok (.iload_n 2, 1) := by decide +kernel
theorem dX12_put_69 : decode cX12_put 69 = .ok (.iadd, 1) := by decide +kernel
theorem dX12_put_70 : decode cX12_put 70 = .ok (.aload_n 0, 1) := by decide +kernel
theorem dX12_put_71 : decode cX12_put 71 = .ok (.getfield 21, 3) := by decide +kernel
theorem dX12_put_74 : decode cX12_put 74 = .ok (.iload_n 1, 1) := by decide +kernel
theorem dX12_put_75 : decode cX12_put 75 = .ok (.iaload, 1) := by decide +kernel
theorem dX12_put_76 : decode cX12_put 76 = .ok (.ifCond .ne 8, 3) := by decide +kernel
theorem dX12_put_79 : decode cX12_put 79 = .ok (.iload_n 3, 1) := by decide +kernel
theorem dX12_put_80 : decode cX12_put 80 = .ok (.i2b, 1) := by decide +kernel
theorem dX12_put_81 : decode cX12_put 81 = .ok (.goto 19, 3) := by decide +kernel
theorem dX12_put_84 : decode cX12_put 84 = .ok (.aload_n 0, 1) := by decide +kernel
theorem dX12_put_85 : decode cX12_put 85 = .ok (.getfield 21, 3) := by decide +kernel
theorem dX12_put_88 : decode cX12_put 88 = .ok (.iload_n 1, 1) := by decide +kernel
theorem dX12_put_89 : decode cX12_put 89 = .ok (.iaload, 1) := by decide +kernel
theorem dX12_put_90 : decode cX12_put 90 = .ok (.iconst 1, 1) := by decide +kernel
theorem dX12_put_91 : decode cX12_put 91 = .ok (.if_icmp .ne 8, 3) := by decide +kernel
theorem dX12_put_94 : decode cX12_put 94 = .ok (.iload_n 3, 1) := by decide +kernel
theorem dX12_put_95 : decode cX12_put 95 = .ok (.i2s, 1) := by decide +kernel
theorem dX12_put_96 : decode cX12_put 96 = .ok (.goto 4, 3) := by decide +kernel
theorem dX12_put_99 : decode cX12_put 99 = .ok (.iload_n 3, 1) := by decide +kernel
theorem dX12_put_100 : decode cX12_put 100 = .ok (.iastore, 1) := by decide +kernel
theorem dX12_put_101 : decode cX12_put 101 = .ok (.iconst 1, 1) := by decide +kernel
theorem dX12_put_102 : decode cX12_put 102 = .ok (.ireturn, 1) := by decide +kernel
theorem dX12_at_0 : decode cX12_at 0 = .ok (.aload_n 0, 1) := by decide +kernel
theorem dX12_at_1 : decode cX12_at 1 = .ok (.iconst 0, 1) := by decide +kernel
theorem dX12_at_2 : decode cX12_at 2 = .ok (.putfield 76, 3) := by decide +kernel
theorem dX12_at_5 : decode cX12_at 5 = .ok (.iload_n 1, 1) := by decide +kernel
theorem dX12_at_6 : decode cX12_at 6 = .ok (.i2l, 1) := by decide +kernel
theorem dX12_at_7 : decode cX12_at 7 = .ok (.lconst 0, 1) := by decide +kernel
theorem dX12_at_8 : decode cX12_at 8 = .ok (.ldc2_w 90, 3) := by decide +kernel
theorem dX12_at_11 : decode cX12_at 11 = .ok (.invokestatic 84, 3) := by decide +kernel
theorem dX12_at_14 : decode cX12_at 14 = .ok (.ifCond .eq 15, 3) := by decide +kernel
theorem dX12_at_17 : decode cX12_at 17 = .ok (.iload_n 3, 1) := by decide +kernel
theorem dX12_at_18 : decode cX12_at 18 = .ok (.i2l, 1) := by decide +kernel
theorem dX12_at_19 : decode cX12_at 19 = .ok (.lconst 0, 1) := by decide +kernel
theorem dX12_at_20 : decode cX12_at 20 = .ok (.ldc2_w 88, 3) := by decide +kernel
theorem dX12_at_23 : decode cX12_at 23 = .ok (.invokestatic 84, 3) := by decide +kernel
theorem dX12_at_26 : decode cX12_at 26 = .ok (.ifCond .ne 7, 3) := by decide +kernel
theorem dX12_at_29 : decode cX12_at 29 = .ok (.ldc2_w 79, 3) := by decide +kernel
theorem dX12_at_32 : decode cX12_at 32 = .ok (.lreturn, 1) := by decide +kernel
theorem dX12_at_33 : decode cX12_at 33 = .ok (.aload_n 0, 1) := by decide +kernel
theorem dX12_at_34 : decode cX12_at 34 = .ok (.getfield 21, 3) := by decide +kernel
theorem dX12_at_37 : decode cX12_at 37 = .ok (.iload_n 1, 1) := by decide +kernel
theorem dX12_at_38 : decode cX12_at 38 = .ok (.iaload, 1) := by decide +kernel
theorem dX12_at_39 : decode cX12_at 39 = .ok (.bipush (-9), 2) := by decide +kernel
theorem dX12_at_41 : decode cX12_at 41 = .ok (.if_icmp .eq 19, 3) := by decide +kernel
theorem dX12_at_44 : decode cX12_at 44 = .ok (.aload_n 0, 1) := by decide +kernel
theorem dX12_at_45 : decode cX12_at 45 = .ok (.getfield 21, 3) := by decide +kernel
theorem dX12_at_48 : decode cX12_at 48 = .ok (.iload_n 1, 1) := by decide +kernel
theorem dX12_at_49 : decode cX12_at 49 = .ok (.iaload, 1) := by decide +kernel
theorem dX12_at_50 : decode cX12_at 50 = .ok (.iload_n 3, 1) := by decide +kernel
theorem dX12_at_51 : decode cX12_at 51 = .ok (.if_icmp .eq 9, 3) := by decide +kernel
theorem dX12_at_54 : decode cX12_at 54 = .ok (.aload_n 0, 1) := by decide +kernel
theorem dX12_at_55 : decode cX12_at 55 = .ok (.iconst 2, 1) := by decide +kernel
theorem dX12_at_56 : decode cX12_at 56 = .ok (.invokevirtual 246, 3) := by decide +kernel
theorem dX12_at_59 : decode cX12_at 59 = .ok (.lreturn, 1) := by decide +kernel
theorem dX12_at_60 : decode cX12_at 60 = .ok (.aload_n 0, 1) := by decide +kernel
theorem dX12_at_61 : decode cX12_at 61 = .ok (.getfield 21, 3) := by decide +kernel
theorem dX12_at_64 : decode cX12_at 64 = .ok (.iload_n 1, 1) := by decide +kernel
theorem dX12_at_65 : decode cX12_at 65 = .ok (.iaload, 1) := by decide +kernel
theorem dX12_at_66 : decode cX12_at 66 = .ok (.bipush (-9), 2) := by decide +kernel
theorem dX12_at_68 : decode cX12_at 68 = .ok (.if_icmp .ne 9, 3) := by decide +kernel
theorem dX12_at_71 : decode cX12_at 71 = .ok (.aload_n 0, 1) := by decide +kernel
theorem dX12_at_72 : decode cX12_at 72 = .ok (.iconst 1, 1) := by decide +kernel
theorem dX12_at_73 : decode cX12_at 73 = .ok (.invokevirtual 246, 3) := by decide +kernel
theorem dX12_at_76 : decode cX12_at 76 = .ok (.lreturn, 1) := by decide +kernel
theorem dX12_at_77 : decode cX12_at 77 = .ok (.iload_n 2, 1) := by decide +kernel
theorem dX12_at_78 : decode cX12_at 78 = .ok (.i2l, 1) := by decide +kernel
theorem dX12_at_79 : decode cX12_at 79 = .ok (.lconst 0, 1) := by decide +kernel
theorem dX12_at_80 : decode cX12_at 80 = .ok (.aload_n 0, 1) := by decide +kernel
theorem dX12_at_81 : decode cX12_at 81 = .ok (.getfield 24, 3) := by decide +kernel
theorem dX12_at_84 : decode cX12_at 84 = .ok (.iload_n 1, 1) := by decide +kernel
theorem dX12_at_85 : decode cX12_at 85 = .ok (.iaload, 1) := by decide +kernel
theorem dX12_at_86 : decode cX12_at 86 = .ok (.i2l, 1) := by decide +kernel
theorem dX12_at_87 : decode cX12_at 87 = .ok (.lconst 1, 1) := by decide +kernel
theorem dX12_at_88 : decode cX12_at 88 = .ok (.lsub, 1) := by decide +kernel
theorem dX12_at_89 : decode cX12_at 89 = .ok (.invokestatic 84, 3) := by decide +kernel
theorem dX12_at_92 : decode cX12_at 92 = .ok (.ifCond .ne 9, 3) := by decide +kernel
theorem dX12_at_95 : decode cX12_at 95 = .ok (.aload_n 0, 1) := by decide +kernel
theorem dX12_at_96 : decode cX12_at 96 = .ok (.iconst 3, 1) := by decide +kernel
theorem dX12_at_97 : decode cX12_at 97 = .ok (.invokevirtual 246, 3) := by decide +kernel
theorem dX12_at_100 : decode cX12_at 100 = .ok (.lreturn, 1) := by decide +kernel
theorem dX12_at_101 : decode cX12_at 101 = .ok (.aload_n 0, 1) := by decide +kernel
theorem dX12_at_102 : decode cX12_at 102 = .ok (.getfield 27, 3) := by decide +kernel
theorem dX12_at_105 : decode cX12_at 105 = .ok (.bipush 40, 2) := by decide +kernel
theorem dX12_at_107 : decode cX12_at 107 = .ok (.iload_n 1, 1) := by decide +kernel
theorem dX12_at_108 : decode cX12_at 108 = .ok (.imul, 1) := by decide +kernel
theorem dX12_at_109 : decode cX12_at 109 = .ok (.iload_n 2, 1) := by decide +kernel
theorem dX12_at_110 : decode cX12_at 110 = .ok (.iadd, 1) := by decide +kernel
theorem dX12_at_111 : decode cX12_at 111 = .ok (.iaload, 1) := by decide +kernel
theorem dX12_at_112 : decode cX12_at 112 = .ok (.i2l, 1) := by decide +kernel
theorem dX12_at_113 : decode cX12_at 113 = .ok (.lreturn, 1) := by decide +kernel
theorem dX12_begins_0 : decode cX12_begins 0 = .ok (.aload_n 0, 1) := by decide +kernel
theorem dX12_begins_1 : decode cX12_begins 1 = .ok (.bipush 31, 2) := by decide +kernel
theorem dX12_begins_3 : decode cX12_begins 3 = .ok (.aload_n 0, 1) := by decide +kernel
theorem dX12_begins_4 : decode cX12_begins 4 = .ok (.getfield 249, 3) := by decide +kernel
theorem dX12_begins_7 : decode cX12_begins 7 = .ok (.imul, 1) := by decide +kernel
theorem dX12_begins_8 : decode cX12_begins 8 = .ok (.iload_n 1, 1) := by decide +kernel
theorem dX12_begins_9 : decode cX12_begins 9 = .ok (.iadd, 1) := by decide +kernel
theorem dX12_begins_10 : decode cX12_begins 10 = .ok (.putfield 249, 3) := by decide +kernel
theorem dX12_begins_13 : decode cX12_begins 13 = .ok (.return_, 1) := by decide +kernel
theorem dX12_greatestOf_0 : decode cX12_greatestOf 0 = .ok (.aload_n 0, 1) := by decide +kernel
theorem dX12_greatestOf_1 : decode cX12_greatestOf 1 = .ok (.getfield 13, 3) := by decide +kernel
theorem dX12_greatestOf_4 : decode cX12_greatestOf 4 = .ok (.bipush 9, 2) := by decide +kernel
theorem dX12_greatestOf_6 : decode cX12_greatestOf 6 = .ok (.iload_n 1, 1) := by decide +kernel
theorem dX12_greatestOf_7 : decode cX12_greatestOf 7 = .ok (.imul, 1) := by decide +kernel
theorem dX12_greatestOf_8 : decode cX12_greatestOf 8 = .ok (.iaload, 1) := by decide +kernel
theorem dX12_greatestOf_9 : decode cX12_greatestOf 9 = .ok (.istore_n 2, 1) := by decide +kernel
theorem dX12_greatestOf_10 : decode cX12_greatestOf 10 = .ok (.iconst 0, 1) := by decide +kernel
theorem dX12_greatestOf_11 : decode cX12_greatestOf 11 = .ok (.istore_n 3, 1) := by decide +kernel
theorem dX12_greatestOf_12 : decode cX12_greatestOf 12 = .ok (.iload_n 3, 1) := by decide +kernel
theorem dX12_greatestOf_13 : decode cX12_greatestOf 13 = .ok (.aload_n 0, 1) := by decide +kernel
theorem dX12_greatestOf_14 : decode cX12_greatestOf 14 = .ok (.getfield 7, 3) := by decide +kernel
theorem dX12_greatestOf_17 : decode cX12_greatestOf 17 = .ok (.aload_n 0, 1) := by decide +kernel
theorem dX12_greatestOf_18 : decode cX12_greatestOf 18 = .ok (.getfield 7, 3) := by decide +kernel
theorem dX12_greatestOf_21 : decode cX12_greatestOf 21 = .ok (.imul, 1) := by decide +kernel
theorem dX12_greatestOf_22 : decode cX12_greatestOf 22 = .ok (.if_icmp .ge 40, 3) := by decide +kernel
theorem dX12_greatestOf_25 : decode cX12_greatestOf 25 = .ok (.aload_n 0, 1) := by decide +kernel
theorem dX12_greatestOf_26 : decode cX12_greatestOf 26 = .ok (.getfield 13, 3) := by decide +kernel
theorem dX12_greatestOf_29 : decode cX12_greatestOf 29 = .ok (.bipush 9, 2) := by decide +kernel
theorem dX12_greatestOf_31 : decode cX12_greatestOf 31 = .ok (.iload_n 1, 1) := by decide +kernel
theorem dX12_greatestOf_32 : decode cX12_greatestOf 32 = .ok (.imul, 1) := by decide +kernel
theorem dX12_greatestOf_33 : decode cX12_greatestOf 33 = .ok (.iload_n 3, 1) := by decide +kernel
theorem dX12_greatestOf_34 : decode cX12_greatestOf 34 = .ok (.iadd, 1) := by decide +kernel
theorem dX12_greatestOf_35 : decode cX12_greatestOf 35 = .ok (.iaload, 1) := by decide +kernel
theorem dX12_greatestOf_36 : decode cX12_greatestOf 36 = .ok (.iload_n 2, 1) := by decide +kernel
theorem dX12_greatestOf_37 : decode cX12_greatestOf 37 = .ok (.if_icmp .le 17, 3) := by decide +kernel
theorem dX12_greatestOf_40 : decode cX12_greatestOf 40 = .ok (.aload_n 0, 1) := by decide +kernel
theorem dX12_greatestOf_41 : decode cX12_greatestOf 41 = .ok (.getfield 13, 3) := by decide +kernel
theorem dX12_greatestOf_44 : decode cX12_greatestOf 44 = .ok (.bipush 9, 2) := by decide +kernel
theorem dX12_greatestOf_46 : decode cX12_greatestOf 46 = .ok (.iload_n 1, 1) := by decide +kernel
theorem dX12_greatestOf_47 : decode cX12_greatestOf 47 = .ok (.imul, 1) := by decide +kernel
theorem dX12_greatestOf_48 : decode cX12_greatestOf 48 = .ok (.iload_n 3, 1) := by decide +kernel
theorem dX12_greatestOf_49 : decode cX12_greatestOf 49 = .ok (.iadd, 1) := by decide +kernel
theorem dX12_greatestOf_50 : decode cX12_greatestOf 50 = .ok (.iaload, 1) := by decide +kernel
theorem dX12_greatestOf_51 : decode cX12_greatestOf 51 = .ok (.goto 4, 3) := by decide +kernel
theorem dX12_greatestOf_54 : decode cX12_greatestOf 54 = .ok (.iload_n 2, 1) := by decide +kernel
theorem dX12_greatestOf_55 : decode cX12_greatestOf 55 = .ok (.istore_n 2, 1) := by decide +kernel
theorem dX12_greatestOf_56 : decode cX12_greatestOf 56 = .ok (.iinc 3 1, 3) := by decide +kernel
theorem dX12_greatestOf_59 : decode cX12_greatestOf 59 = .ok (.goto (-47), 3) := by decide +kernel
theorem dX12_greatestOf_62 : decode cX12_greatestOf 62 = .ok (.iload_n 2, 1) := by decide +kernel
theorem dX12_greatestOf_63 : decode cX12_greatestOf 63 = .ok (.ireturn, 1) := by decide +kernel
theorem dX12_trackOf_0 : decode cX12_trackOf 0 = .ok (.iconst 0, 1) := by decide +kernel
theorem dX12_trackOf_1 : decode cX12_trackOf 1 = .ok (.istore_n 2, 1) := by decide +kernel
theorem dX12_trackOf_2 : decode cX12_trackOf 2 = .ok (.iconst 0, 1) := by decide +kernel
theorem dX12_trackOf_3 : decode cX12_trackOf 3 = .ok (.istore_n 3, 1) := by decide +kernel
theorem dX12_trackOf_4 : decode cX12_trackOf 4 = .ok (.iload_n 3, 1) := by decide +kernel
theorem dX12_trackOf_5 : decode cX12_trackOf 5 = .ok (.aload_n 0, 1) := by decide +kernel
theorem dX12_trackOf_6 : decode cX12_trackOf 6 = .ok (.getfield 7, 3) := by decide +kernel
theorem dX12_trackOf_9 : decode cX12_trackOf 9 = .ok (.if_icmp .ge 30, 3) := by decide +kernel
theorem dX12_trackOf_12 : decode cX12_trackOf 12 = .ok (.iload_n 2, 1) := by decide +kernel
theorem dX12_trackOf_13 : decode cX12_trackOf 13 = .ok (.aload_n 0, 1) := by decide +kernel
theorem dX12_trackOf_14 : decode cX12_trackOf 14 = .ok (.getfield 13, 3) := by decide +kernel
theorem dX12_trackOf_17 : decode cX12_trackOf 17 = .ok (.bipush 9, 2) := by decide +kernel
theorem dX12_trackOf_19 : decode cX12_trackOf 19 = .ok (.iload_n 1, 1) := by decide +kernel
theorem dX12_trackOf_20 : decode cX12_trackOf 20 = .ok (.imul, 1) := by decide +kernel
theorem dX12_trackOf_21 : decode cX12_trackOf 21 = .ok (.aload_n 0, 1) := by decide +kernel
theorem dX12_trackOf_22 : decode cX12_trackOf 22 = .ok (.getfield 7, 3) := by decide +kernel
theorem dX12_trackOf_25 : decode cX12_trackOf 25 = .ok (.iload_n 3, 1) := by decide +kernel
theorem dX12_trackOf_26 : decode cX12_trackOf 26 = .ok (.imul, 1) := by decide +kernel
theorem dX12_trackOf_27 : decode cX12_trackOf 27 = .ok (.iadd, 1) := by decide +kernel
theorem dX12_trackOf_28 : decode cX12_trackOf 28 = .ok (.iload_n 3, 1) := by decide +kernel
theorem dX12_trackOf_29 : decode cX12_trackOf 29 = .ok (.iadd, 1) := by decide +kernel
theorem dX12_trackOf_30 : decode cX12_trackOf 30 = .ok (.iaload, 1) := by decide +kernel
theorem dX12_trackOf_31 : decode cX12_trackOf 31 = .ok (.iadd, 1) := by decide +kernel
theorem dX12_trackOf_32 : decode cX12_trackOf 32 = .ok (.istore_n 2, 1) := by decide +kernel
theorem dX12_trackOf_33 : decode cX12_trackOf 33 = .ok (.iinc 3 1, 3) := by decide +kernel
theorem dX12_trackOf_36 : decode cX12_trackOf 36 = .ok (.goto (-32), 3) := by decide +kernel
theorem dX12_trackOf_39 : decode cX12_trackOf 39 = .ok (.iload_n 2, 1) := by decide +kernel
theorem dX12_trackOf_40 : decode cX12_trackOf 40 = .ok (.ireturn, 1) := by decide +kernel
theorem dX12_kindOf_0 : decode cX12_kindOf 0 = .ok (.iconst 1, 1) := by decide +kernel
theorem dX12_kindOf_1 : decode cX12_kindOf 1 = .ok (.istore_n 2, 1) := by decide +kernel
theorem dX12_kindOf_2 : decode cX12_kindOf 2 = .ok (.iconst 1, 1) := by decide +kernel
theorem dX12_kindOf_3 : decode cX12_kindOf 3 = .ok (.istore_n 3, 1) := by decide +kernel
theorem dX12_kindOf_4 : decode cX12_kindOf 4 = .ok (.iconst 0, 1) := by decide +kernel
theorem dX12_kindOf_5 : decode cX12_kindOf 5 = .ok (.istore 4, 2) := by decide +kernel
theorem dX12_kindOf_7 : decode cX12_kindOf 7 = .ok (.iload 4, 2) := by decide +kernel
theorem dX12_kindOf_9 : decode cX12_kindOf 9 = .ok (.aload_n 0, 1) := by decide +kernel
theorem dX12_kindOf_10 : decode cX12_kindOf 10 = .ok (.getfield 7, 3) := by decide +kernel
theorem dX12_kindOf_13 : decode cX12_kindOf 13 = .ok (.if_icmp .ge 139, 3) := by decide +kernel
end
section
theorem dX12_kindOf_16 : decode cX12_kindOf 16 = .ok (.iconst 0, 1) := by decide +kernel
theorem dX12_kindOf_17 : decode cX12_kindOf 17 = .ok (.istore 5, 2) := by decide +kernel
theorem dX12_kindOf_19 : decode cX12_kindOf 19 = .ok (.iconst 0, 1) := by decide +kernel
theorem dX12_kindOf_20 : decode cX12_kindOf 20 = .ok (.istore 6, 2) := by decide +kernel
theorem dX12_kindOf_22 : decode cX12_kindOf 22 = .ok (.iconst 0, 1) := by decide +kernel
theorem dX12_kindOf_23 : decode cX12_kindOf 23 = .ok (.istore 7, 2) := by decide +kernel
theorem dX12_kindOf_25 : decode cX12_kindOf 25 = .ok (.iload 7, 2) := by decide +kernel
theorem dX12_kindOf_27 : decode cX12_kindOf 27 = .ok (.aload_n 0, 1) := by decide +kernel
theorem dX12_kindOf_28 : decode cX12_kindOf 28 = .ok (.getfield 7, 3) := by decide +kernel
theorem dX12_kindOf_31 : decode cX12_kindOf 31 = .ok (.if_icmp .ge 95, 3) := by decide +kernel
theorem dX12_kindOf_34 : decode cX12_kindOf 34 = .ok (.aload_n 0, 1) := by decide +kernel
theorem dX12_kindOf_35 : decode cX12_kindOf 35 = .ok (.getfield 13, 3) := by decide +kernel
theorem dX12_kindOf_38 : decode cX12_kindOf 38 = .ok (.bipush 9, 2) := by decide +kernel
theorem dX12_kindOf_40 : decode cX12_kindOf 40 = .ok (.iload_n 1, 1) := by decide +kernel
theorem dX12_kindOf_41 : decode cX12_kindOf 41 = .ok (.imul, 1) := by decide +kernel
theorem dX12_kindOf_42 : decode cX12_kindOf 42 = .ok (.aload_n 0, 1) := by decide +kernel
theorem dX12_kindOf_43 : decode cX12_kindOf 43 = .ok (.getfield 7, 3) := by decide +kernel
theorem dX12_kindOf_46 : decode cX12_kindOf 46 = .ok (.iload 4, 2) := by decide +kernel
theorem dX12_kindOf_48 : decode cX12_kindOf 48 = .ok (.imul, 1) := by decide +kernel
theorem dX12_kindOf_49 : decode cX12_kindOf 49 = .ok (.iadd, 1) := by decide +kernel
theorem dX12_kindOf_50 : decode cX12_kindOf 50 = .ok (.iload 7, 2) := by decide +kernel
theorem dX12_kindOf_52 : decode cX12_kindOf 52 = .ok (.iadd, 1) := by decide +kernel
theorem dX12_kindOf_53 : decode cX12_kindOf 53 = .ok (.iaload, 1) := by decide +kernel
theorem dX12_kindOf_54 : decode cX12_kindOf 54 = .ok (.istore 8, 2) := by decide +kernel
theorem dX12_kindOf_56 : decode cX12_kindOf 56 = .ok (.iload_n 2, 1) := by decide +kernel
theorem dX12_kindOf_57 : decode cX12_kindOf 57 = .ok (.iload 8, 2) := by decide +kernel
theorem dX12_kindOf_59 : decode cX12_kindOf 59 = .ok (.ifCond .lt 7, 3) := by decide +kernel
theorem dX12_kindOf_62 : decode cX12_kindOf 62 = .ok (.iconst 1, 1) := by decide +kernel
theorem dX12_kindOf_63 : decode cX12_kindOf 63 = .ok (.goto 4, 3) := by decide +kernel
theorem dX12_kindOf_66 : decode cX12_kindOf 66 = .ok (.iconst 0, 1) := by decide +kernel
theorem dX12_kindOf_67 : decode cX12_kindOf 67 = .ok (.iand, 1) := by decide +kernel
theorem dX12_kindOf_68 : decode cX12_kindOf 68 = .ok (.istore_n 2, 1) := by decide +kernel
theorem dX12_kindOf_69 : decode cX12_kindOf 69 = .ok (.iload_n 3, 1) := by decide +kernel
theorem dX12_kindOf_70 : decode cX12_kindOf 70 = .ok (.iload 8, 2) := by decide +kernel
theorem dX12_kindOf_72 : decode cX12_kindOf 72 = .ok (.ifCond .eq 9, 3) := by decide +kernel
theorem dX12_kindOf_75 : decode cX12_kindOf 75 = .ok (.iload 8, 2) := by decide +kernel
theorem dX12_kindOf_77 : decode cX12_kindOf 77 = .ok (.iconst 1, 1) := by decide +kernel
theorem dX12_kindOf_78 : decode cX12_kindOf 78 = .ok (.if_icmp .ne 7, 3) := by decide +kernel
theorem dX12_kindOf_81 : decode cX12_kindOf 81 = .ok (.iconst 1, 1) := by decide +kernel
theorem dX12_kindOf_82 : decode cX12_kindOf 82 = .ok (.goto 4, 3) := by decide +kernel
theorem dX12_kindOf_85 : decode cX12_kindOf 85 = .ok (.iconst 0, 1) := by decide +kernel
theorem dX12_kindOf_86 : decode cX12_kindOf 86 = .ok (.iand, 1) := by decide +kernel
theorem dX12_kindOf_87 : decode cX12_kindOf 87 = .ok (.istore_n 3, 1) := by decide +kernel
theorem dX12_kindOf_88 : decode cX12_kindOf 88 = .ok (.iload 5, 2) := by decide +kernel
theorem dX12_kindOf_90 : decode cX12_kindOf 90 = .ok (.iload 8, 2) := by decide +kernel
theorem dX12_kindOf_92 : decode cX12_kindOf 92 = .ok (.iadd, 1) := by decide +kernel
theorem dX12_kindOf_93 : decode cX12_kindOf 93 = .ok (.istore 5, 2) := by decide +kernel
theorem dX12_kindOf_95 : decode cX12_kindOf 95 = .ok (.iload 6, 2) := by decide +kernel
theorem dX12_kindOf_97 : decode cX12_kindOf 97 = .ok (.aload_n 0, 1) := by decide +kernel
theorem dX12_kindOf_98 : decode cX12_kindOf 98 = .ok (.getfield 13, 3) := by decide +kernel
theorem dX12_kindOf_101 : decode cX12_kindOf 101 = .ok (.bipush 9, 2) := by decide +kernel
theorem dX12_kindOf_103 : decode cX12_kindOf 103 = .ok (.iload_n 1, 1) := by decide +kernel
theorem dX12_kindOf_104 : decode cX12_kindOf 104 = .ok (.imul, 1) := by decide +kernel
theorem dX12_kindOf_105 : decode cX12_kindOf 105 = .ok (.aload_n 0, 1) := by decide +kernel
theorem dX12_kindOf_106 : decode cX12_kindOf 106 = .ok (.getfield 7, 3) := by decide +kernel
theorem dX12_kindOf_109 : decode cX12_kindOf 109 = .ok (.iload 7, 2) := by decide +kernel
theorem dX12_kindOf_111 : decode cX12_kindOf 111 = .ok (.imul, 1) := by decide +kernel
theorem dX12_kindOf_112 : decode cX12_kindOf 112 = .ok (.iadd, 1) := by decide +kernel
theorem dX12_kindOf_113 : decode cX12_kindOf 113 = .ok (.iload 4, 2) := by decide +kernel
theorem dX12_kindOf_115 : decode cX12_kindOf 115 = .ok (.iadd, 1) := by decide +kernel
theorem dX12_kindOf_116 : decode cX12_kindOf 116 = .ok (.iaload, 1) := by decide +kernel
theorem dX12_kindOf_117 : decode cX12_kindOf 117 = .ok (.iadd, 1) := by decide +kernel
theorem dX12_kindOf_118 : decode cX12_kindOf 118 = .ok (.istore 6, 2) := by decide +kernel
theorem dX12_kindOf_120 : decode cX12_kindOf 120 = .ok (.iinc 7 1, 3) := by decide +kernel
theorem dX12_kindOf_123 : decode cX12_kindOf 123 = .ok (.goto (-98), 3) := by decide +kernel
theorem dX12_kindOf_126 : decode cX12_kindOf 126 = .ok (.iload_n 3, 1) := by decide +kernel
theorem dX12_kindOf_127 : decode cX12_kindOf 127 = .ok (.iload 5, 2) := by decide +kernel
theorem dX12_kindOf_129 : decode cX12_kindOf 129 = .ok (.iconst 1, 1) := by decide +kernel
theorem dX12_kindOf_130 : decode cX12_kindOf 130 = .ok (.if_icmp .ne 13, 3) := by decide +kernel
theorem dX12_kindOf_133 : decode cX12_kindOf 133 = .ok (.iload 6, 2) := by decide +kernel
theorem dX12_kindOf_135 : decode cX12_kindOf 135 = .ok (.iconst 1, 1) := by decide +kernel
theorem dX12_kindOf_136 : decode cX12_kindOf 136 = .ok (.if_icmp .ne 7, 3) := by decide +kernel
theorem dX12_kindOf_139 : decode cX12_kindOf 139 = .ok (.iconst 1, 1) := by decide +kernel
theorem dX12_kindOf_140 : decode cX12_kindOf 140 = .ok (.goto 4, 3) := by decide +kernel
theorem dX12_kindOf_143 : decode cX12_kindOf 143 = .ok (.iconst 0, 1) := by decide +kernel
theorem dX12_kindOf_144 : decode cX12_kindOf 144 = .ok (.iand, 1) := by decide +kernel
theorem dX12_kindOf_145 : decode cX12_kindOf 145 = .ok (.istore_n 3, 1) := by decide +kernel
theorem dX12_kindOf_146 : decode cX12_kindOf 146 = .ok (.iinc 4 1, 3) := by decide +kernel
theorem dX12_kindOf_149 : decode cX12_kindOf 149 = .ok (.goto (-142), 3) := by decide +kernel
theorem dX12_kindOf_152 : decode cX12_kindOf 152 = .ok (.iload_n 3, 1) := by decide +kernel
theorem dX12_kindOf_153 : decode cX12_kindOf 153 = .ok (.ifCond .eq 7, 3) := by decide +kernel
theorem dX12_kindOf_156 : decode cX12_kindOf 156 = .ok (.iconst 2, 1) := by decide +kernel
theorem dX12_kindOf_157 : decode cX12_kindOf 157 = .ok (.goto 12, 3) := by decide +kernel
theorem dX12_kindOf_160 : decode cX12_kindOf 160 = .ok (.iload_n 2, 1) := by decide +kernel
theorem dX12_kindOf_161 : decode cX12_kindOf 161 = .ok (.ifCond .eq 7, 3) := by decide +kernel
theorem dX12_kindOf_164 : decode cX12_kindOf 164 = .ok (.iconst 1, 1) := by decide +kernel
theorem dX12_kindOf_165 : decode cX12_kindOf 165 = .ok (.goto 4, 3) := by decide +kernel
theorem dX12_kindOf_168 : decode cX12_kindOf 168 = .ok (.iconst 0, 1) := by decide +kernel
theorem dX12_kindOf_169 : decode cX12_kindOf 169 = .ok (.ireturn, 1) := by decide +kernel
theorem dX12_tell_0 : decode cX12_tell 0 = .ok (.aload_n 0, 1) := by decide +kernel
theorem dX12_tell_1 : decode cX12_tell 1 = .ok (.iload_n 1, 1) := by decide +kernel
theorem dX12_tell_2 : decode cX12_tell 2 = .ok (.invokevirtual 112, 3) := by decide +kernel
theorem dX12_tell_5 : decode cX12_tell 5 = .ok (.ifCond .ne 5, 3) := by decide +kernel
theorem dX12_tell_8 : decode cX12_tell 8 = .ok (.iconst (-1), 1) := by decide +kernel
theorem dX12_tell_9 : decode cX12_tell 9 = .ok (.ireturn, 1) := by decide +kernel
theorem dX12_tell_10 : decode cX12_tell 10 = .ok (.aload_n 0, 1) := by decide +kernel
theorem dX12_tell_11 : decode cX12_tell 11 = .ok (.iload_n 1, 1) := by decide +kernel
theorem dX12_tell_12 : decode cX12_tell 12 = .ok (.invokevirtual 252, 3) := by decide +kernel
theorem dX12_tell_15 : decode cX12_tell 15 = .ok (.istore_n 2, 1) := by decide +kernel
theorem dX12_tell_16 : decode cX12_tell 16 = .ok (.iload_n 2, 1) := by decide +kernel
theorem dX12_tell_17 : decode cX12_tell 17 = .ok (.iconst 2, 1) := by decide +kernel
theorem dX12_tell_18 : decode cX12_tell 18 = .ok (.if_icmp .ne 8, 3) := by decide +kernel
theorem dX12_tell_21 : decode cX12_tell 21 = .ok (.aload_n 0, 1) := by decide +kernel
theorem dX12_tell_22 : decode cX12_tell 22 = .ok (.iconst 3, 1) := by decide +kernel
theorem dX12_tell_23 : decode cX12_tell 23 = .ok (.invokevirtual 255, 3) := by decide +kernel
theorem dX12_tell_26 : decode cX12_tell 26 = .ok (.iload_n 2, 1) := by decide +kernel
theorem dX12_tell_27 : decode cX12_tell 27 = .ok (.ifCond .le 8, 3) := by decide +kernel
theorem dX12_tell_30 : decode cX12_tell 30 = .ok (.aload_n 0, 1) := by decide +kernel
theorem dX12_tell_31 : decode cX12_tell 31 = .ok (.iconst 2, 1) := by decide +kernel
theorem dX12_tell_32 : decode cX12_tell 32 = .ok (.invokevirtual 255, 3) := by decide +kernel
theorem dX12_tell_35 : decode cX12_tell 35 = .ok (.aload_n 0, 1) := by decide +kernel
theorem dX12_tell_36 : decode cX12_tell 36 = .ok (.iconst 1, 1) := by decide +kernel
theorem dX12_tell_37 : decode cX12_tell 37 = .ok (.invokevirtual 255, 3) := by decide +kernel
theorem dX12_tell_40 : decode cX12_tell 40 = .ok (.iload_n 2, 1) := by decide +kernel
theorem dX12_tell_41 : decode cX12_tell 41 = .ok (.iconst 2, 1) := by decide +kernel
theorem dX12_tell_42 : decode cX12_tell 42 = .ok (.if_icmp .ne 8, 3) := by decide +kernel
theorem dX12_tell_45 : decode cX12_tell 45 = .ok (.aload_n 0, 1) := by decide +kernel
theorem dX12_tell_46 : decode cX12_tell 46 = .ok (.iconst 1, 1) := by decide +kernel
theorem dX12_tell_47 : decode cX12_tell 47 = .ok (.invokevirtual 255, 3) := by decide +kernel
theorem dX12_tell_50 : decode cX12_tell 50 = .ok (.iload_n 2, 1) := by decide +kernel
theorem dX12_tell_51 : decode cX12_tell 51 = .ok (.ifCond .ne 11, 3) := by decide +kernel
theorem dX12_tell_54 : decode cX12_tell 54 = .ok (.aload_n 0, 1) := by decide +kernel
theorem dX12_tell_55 : decode cX12_tell 55 = .ok (.iload_n 1, 1) := by decide +kernel
theorem dX12_tell_56 : decode cX12_tell 56 = .ok (.invokevirtual 258, 3) := by decide +kernel
theorem dX12_tell_59 : decode cX12_tell 59 = .ok (.goto 35, 3) := by decide +kernel
theorem dX12_tell_62 : decode cX12_tell 62 = .ok (.iload_n 2, 1) := by decide +kernel
theorem dX12_tell_63 : decode cX12_tell 63 = .ok (.iconst 1, 1) := by decide +kernel
theorem dX12_tell_64 : decode cX12_tell 64 = .ok (.if_icmp .ne 17, 3) := by decide +kernel
theorem dX12_tell_67 : decode cX12_tell 67 = .ok (.aload_n 0, 1) := by decide +kernel
theorem dX12_tell_68 : decode cX12_tell 68 = .ok (.iload_n 1, 1) := by decide +kernel
theorem dX12_tell_69 : decode cX12_tell 69 = .ok (.invokevirtual 258, 3) := by decide +kernel
theorem dX12_tell_72 : decode cX12_tell 72 = .ok (.aload_n 0, 1) := by decide +kernel
theorem dX12_tell_73 : decode cX12_tell 73 = .ok (.iload_n 1, 1) := by decide +kernel
theorem dX12_tell_74 : decode cX12_tell 74 = .ok (.invokevirtual 261, 3) := by decide +kernel
theorem dX12_tell_77 : decode cX12_tell 77 = .ok (.iadd, 1) := by decide +kernel
theorem dX12_tell_78 : decode cX12_tell 78 = .ok (.goto 16, 3) := by decide +kernel
theorem dX12_tell_81 : decode cX12_tell 81 = .ok (.iconst 2, 1) := by decide +kernel
theorem dX12_tell_82 : decode cX12_tell 82 = .ok (.aload_n 0, 1) := by decide +kernel
theorem dX12_tell_83 : decode cX12_tell 83 = .ok (.iload_n 1, 1) := by decide +kernel
theorem dX12_tell_84 : decode cX12_tell 84 = .ok (.invokevirtual 258, 3) := by decide +kernel
theorem dX12_tell_87 : decode cX12_tell 87 = .ok (.imul, 1) := by decide +kernel
theorem dX12_tell_88 : decode cX12_tell 88 = .ok (.aload_n 0, 1) := by decide +kernel
theorem dX12_tell_89 : decode cX12_tell 89 = .ok (.iload_n 1, 1) := by decide +kernel
theorem dX12_tell_90 : decode cX12_tell 90 = .ok (.invokevirtual 261, 3) := by decide +kernel
theorem dX12_tell_93 : decode cX12_tell 93 = .ok (.iadd, 1) := by decide +kernel
theorem dX12_tell_94 : decode cX12_tell 94 = .ok (.ireturn, 1) := by decide +kernel
theorem dX12_weigh_0 : decode cX12_weigh 0 = .ok (.aload_n 0, 1) := by decide +kernel
theorem dX12_weigh_1 : decode cX12_weigh 1 = .ok (.iload_n 1, 1) := by decide +kernel
theorem dX12_weigh_2 : decode cX12_weigh 2 = .ok (.invokevirtual 112, 3) := by decide +kernel
theorem dX12_weigh_5 : decode cX12_weigh 5 = .ok (.ifCond .ne 5, 3) := by decide +kernel
theorem dX12_weigh_8 : decode cX12_weigh 8 = .ok (.iconst (-1), 1) := by decide +kernel
theorem dX12_weigh_9 : decode cX12_weigh 9 = .ok (.ireturn, 1) := by decide +kernel
theorem dX12_weigh_10 : decode cX12_weigh 10 = .ok (.aload_n 0, 1) := by decide +kernel
theorem dX12_weigh_11 : decode cX12_weigh 11 = .ok (.iload_n 1, 1) := by decide +kernel
theorem dX12_weigh_12 : decode cX12_weigh 12 = .ok (.invokevirtual 252, 3) := by decide +kernel
theorem dX12_weigh_15 : decode cX12_weigh 15 = .ok (.iconst 2, 1) := by decide +kernel
theorem dX12_weigh_16 : decode cX12_weigh 16 = .ok (.if_icmp .ne 7, 3) := by decide +kernel
theorem dX12_weigh_19 : decode cX12_weigh 19 = .ok (.iconst 1, 1) := by decide +kernel
theorem dX12_weigh_20 : decode cX12_weigh 20 = .ok (.goto 4, 3) := by decide +kernel
theorem dX12_weigh_23 : decode cX12_weigh 23 = .ok (.iconst 0, 1) := by decide +kernel
theorem dX12_weigh_24 : decode cX12_weigh 24 = .ok (.istore_n 2, 1) := by decide +kernel
theorem dX12_weigh_25 : decode cX12_weigh 25 = .ok (.aload_n 0, 1) := by decide +kernel
theorem dX12_weigh_26 : decode cX12_weigh 26 = .ok (.iload_n 2, 1) := by decide +kernel
theorem dX12_weigh_27 : decode cX12_weigh 27 = .ok (.ifCond .eq 7, 3) := by decide +kernel
theorem dX12_weigh_30 : decode cX12_weigh 30 = .ok (.iconst 5, 1) := by decide +kernel
theorem dX12_weigh_31 : decode cX12_weigh 31 = .ok (.goto 4, 3) := by decide +kernel
theorem dX12_weigh_34 : decode cX12_weigh 34 = .ok (.iconst 4, 1) := by decide +kernel
theorem dX12_weigh_35 : decode cX12_weigh 35 = .ok (.invokevirtual 255, 3) := by decide +kernel
theorem dX12_weigh_38 : decode cX12_weigh 38 = .ok (.iload_n 2, 1) := by decide +kernel
theorem dX12_weigh_39 : decode cX12_weigh 39 = .ok (.ifCond .eq 8, 3) := by decide +kernel
theorem dX12_weigh_42 : decode cX12_weigh 42 = .ok (.bipush 60, 2) := by decide +kernel
theorem dX12_weigh_44 : decode cX12_weigh 44 = .ok (.goto 4, 3) := by decide +kernel
theorem dX12_weigh_47 : decode cX12_weigh 47 = .ok (.iload_n 1, 1) := by decide +kernel
theorem dX12_weigh_48 : decode cX12_weigh 48 = .ok (.ireturn, 1) := by decide +kernel
theorem dX12_as_0 : decode cX12_as 0 = .ok (.aload_n 0, 1) := by decide +kernel
theorem dX12_as_1 : decode cX12_as 1 = .ok (.iconst 0, 1) := by decide +kernel
theorem dX12_as_2 : decode cX12_as 2 = .ok (.putfield 76, 3) := by decide +kernel
theorem dX12_as_5 : decode cX12_as 5 = .ok (.aload_n 0, 1) := by decide +kernel
theorem dX12_as_6 : decode cX12_as 6 = .ok (.iload_n 1, 1) := by decide +kernel
theorem dX12_as_7 : decode cX12_as 7 = .ok (.invokevirtual 112, 3) := by decide +kernel
theorem dX12_as_10 : decode cX12_as 10 = .ok (.ifCond .ne 5, 3) := by decide +kernel
theorem dX12_as_13 : decode cX12_as 13 = .ok (.iconst (-1), 1) := by decide +kernel
theorem dX12_as_14 : decode cX12_as 14 = .ok (.ireturn, 1) := by decide +kernel
theorem dX12_as_15 : decode cX12_as 15 = .ok (.iload_n 2, 1) := by decide +kernel
theorem dX12_as_16 : decode cX12_as 16 = .ok (.i2l, 1) := by decide +kernel
theorem dX12_as_17 : decode cX12_as 17 = .ok (.lconst 0, 1) := by decide +kernel
theorem dX12_as_18 : decode cX12_as 18 = .ok (.ldc2_w 88, 3) := by decide +kernel
theorem dX12_as_21 : decode cX12_as 21 = .ok (.invokestatic 84, 3) := by decide +kernel
theorem dX12_as_24 : decode cX12_as 24 = .ok (.ifCond .ne 6, 3) := by decide +kernel
theorem dX12_as_27 : decode cX12_as 27 = .ok (.bipush (-2), 2) := by decide +kernel
theorem dX12_as_29 : decode cX12_as 29 = .ok (.ireturn, 1) := by decide +kernel
theorem dX12_as_30 : decode cX12_as 30 = .ok (.aload_n 0, 1) := by decide +kernel
theorem dX12_as_31 : decode cX12_as 31 = .ok (.iload_n 1, 1) := by decide +kernel
theorem dX12_as_32 : decode cX12_as 32 = .ok (.invokevirtual 252, 3) := by decide +kernel
theorem dX12_as_35 : decode cX12_as 35 = .ok (.iload_n 2, 1) := by decide +kernel
theorem dX12_as_36 : decode cX12_as 36 = .ok (.if_icmp .lt 7, 3) := by decide +kernel
theorem dX12_as_39 : decode cX12_as 39 = .ok (.iconst 1, 1) := by decide +kernel
theorem dX12_as_40 : decode cX12_as 40 = .ok (.goto 8, 3) := by decide +kernel
theorem dX12_as_43 : decode cX12_as 43 = .ok (.aload_n 0, 1) := by decide +kernel
theorem dX12_as_44 : decode cX12_as 44 = .ok (.iconst 2, 1) := by decide +kernel
theorem dX12_as_45 : decode cX12_as 45 = .ok (.invokevirtual 100, 3) := by decide +kernel
theorem dX12_as_48 : decode cX12_as 48 = .ok (.ireturn, 1) := by decide +kernel
theorem dX12_history_0 : decode cX12_history 0 = .ok (.aload_n 0, 1) := by decide +kernel
theorem dX12_history_1 : decode cX12_history 1 = .ok (.getfield 249, 3) := by decide +kernel
theorem dX12_history_4 : decode cX12_history 4 = .ok (.ireturn, 1) := by decide +kernel
theorem dX12_fault_0 : decode cX12_fault 0 = .ok (.aload_n 0, 1) := by decide +kernel
theorem dX12_fault_1 : decode cX12_fault 1 = .ok (.getfield 76, 3) := by decide +kernel
theorem dX12_fault_4 : decode cX12_fault 4 = .ok (.ireturn, 1) := by decide +kernel
theorem dX12_told_0 : decode cX12_told 0 = .ok (.iload_n 1, 1) := by decide +kernel
theorem dX12_told_1 : decode cX12_told 1 = .ok (.tableswitch 111 0 4 #[35, 40, 45, 50, 55], 35) := by decide +kernel
theorem dX12_told_36 : decode cX12_told 36 = .ok (.aload_n 0, 1) := by decide +kernel
theorem dX12_told_37 : decode cX12_told 37 = .ok (.getfield 81, 3) := by decide +kernel
theorem dX12_told_40 : decode cX12_told 40 = .ok (.ireturn, 1) := by decide +kernel
theorem dX12_told_41 : decode cX12_told 41 = .ok (.aload_n 0, 1) := by decide +kernel
theorem dX12_told_42 : decode cX12_told 42 = .ok (.getfield 7, 3) := by decide +kernel
theorem dX12_told_45 : decode cX12_told 45 = .ok (.ireturn, 1) := by decide +kernel
theorem dX12_told_46 : decode cX12_told 46 = .ok (.aload_n 0, 1) := by decide +kernel
theorem dX12_told_47 : decode cX12_told 47 = .ok (.getfield 94, 3) := by decide +kernel
theorem dX12_told_50 : decode cX12_told 50 = .ok (.ireturn, 1) := by decide +kernel
theorem dX12_told_51 : decode cX12_told 51 = .ok (.aload_n 0, 1) := by decide +kernel
theorem dX12_told_52 : decode cX12_told 52 = .ok (.getfield 97, 3) := by decide +kernel
theorem dX12_told_55 : decode cX12_told 55 = .ok (.ireturn, 1) := by decide +kernel
theorem dX12_told_56 : decode cX12_told 56 = .ok (.iconst 0, 1) := by decide +kernel
theorem dX12_told_57 : decode cX12_told 57 = .ok (.istore_n 2, 1) := by decide +kernel
theorem dX12_told_58 : decode cX12_told 58 = .ok (.iconst 0, 1) := by decide +kernel
theorem dX12_told_59 : decode cX12_told 59 = .ok (.istore_n 3, 1) := by decide +kernel
theorem dX12_told_60 : decode cX12_told 60 = .ok (.iload_n 3, 1) := by decide +kernel
theorem dX12_told_61 : decode cX12_told 61 = .ok (.aload_n 0, 1) := by decide +kernel
theorem dX12_told_62 : decode cX12_told 62 = .ok (.getfield 81, 3) := by decide +kernel
theorem dX12_told_65 : decode cX12_told 65 = .ok (.if_icmp .ge 45, 3) := by decide +kernel
theorem dX12_told_68 : decode cX12_told 68 = .ok (.iconst 0, 1) := by decide +kernel
theorem dX12_told_69 : decode cX12_told 69 = .ok (.istore 4, 2) := by decide +kernel
theorem dX12_told_71 : decode cX12_told 71 = .ok (.iload 4, 2) := by decide +kernel
theorem dX12_told_73 : decode cX12_told 73 = .ok (.aload_n 0, 1) := by decide +kernel
theorem dX12_told_74 : decode cX12_told 74 = .ok (.getfield 81, 3) := by decide +kernel
theorem dX12_told_77 : decode cX12_told 77 = .ok (.if_icmp .ge 27, 3) := by decide +kernel
theorem dX12_told_80 : decode cX12_told 80 = .ok (.iload_n 2, 1) := by decide +kernel
theorem dX12_told_81 : decode cX12_told 81 = .ok (.aload_n 0, 1) := by decide +kernel
theorem dX12_told_82 : decode cX12_told 82 = .ok (.iload_n 3, 1) := by decide +kernel
theorem dX12_told_83 : decode cX12_told 83 = .ok (.iload 4, 2) := by decide +kernel
theorem dX12_told_85 : decode cX12_told 85 = .ok (.invokevirtual 127, 3) := by decide +kernel
theorem dX12_told_88 : decode cX12_told 88 = .ok (.ifCond .eq 7, 3) := by decide +kernel
theorem dX12_told_91 : decode cX12_told 91 = .ok (.iconst 1, 1) := by decide +kernel
theorem dX12_told_92 : decode cX12_told 92 = .ok (.goto 4, 3) := by decide +kernel
theorem dX12_told_95 : decode cX12_told 95 = .ok (.iconst 0, 1) := by decide +kernel
theorem dX12_told_96 : decode cX12_told 96 = .ok (.iadd, 1) := by decide +kernel
theorem dX12_told_97 : decode cX12_told 97 = .ok (.istore_n 2, 1) := by decide +kernel
theorem dX12_told_98 : decode cX12_told 98 = .ok (.iinc 4 1, 3) := by decide +kernel
theorem dX12_told_101 : decode cX12_told 101 = .ok (.goto (-30), 3) := by decide +kernel
theorem dX12_told_104 : decode cX12_told 104 = .ok (.iinc 3 1, 3) := by decide +kernel
theorem dX12_told_107 : decode cX12_told 107 = .ok (.goto (-47), 3) := by decide +kernel
theorem dX12_told_110 : decode cX12_told 110 = .ok (.iload_n 2, 1) := by decide +kernel
theorem dX12_told_111 : decode cX12_told 111 = .ok (.ireturn, 1) := by decide +kernel
theorem dX12_told_112 : decode cX12_told 112 = .ok (.bipush (-2), 2) := by decide +kernel
theorem dX12_told_114 : decode cX12_told 114 = .ok (.ireturn, 1) := by decide +kernel
end
section
theorem dX2_init_0 : decode cX2_init 0 = .ok (.aload_n 0, 1) := by decide +kernel
theorem dX2_init_1 : decode cX2_init 1 = .ok (.invokespecial 3, 3) := by decide +kernel
theorem dX2_init_4 : decode cX2_init 4 = .ok (.aload_n 0, 1) := by decide +kernel
theorem dX2_init_5 : decode cX2_init 5 = .ok (.bipush 9, 2) := by decide +kernel
theorem dX2_init_7 : decode cX2_init 7 = .ok (.anewarray 9, 3) := by decide +kernel
theorem dX2_init_10 : decode cX2_init 10 = .ok (.putfield 11, 3) := by decide +kernel
theorem dX2_init_13 : decode cX2_init 13 = .ok (.aload_n 0, 1) := by decide +kernel
theorem dX2_init_14 : decode cX2_init 14 = .ok (.bipush 9, 2) := by decide +kernel
theorem dX2_init_16 : decode cX2_init 16 = .ok (.bipush 6, 2) := by decide +kernel
theorem dX2_init_18 : decode cX2_init 18 = .ok (.multianewarray 17 2, 4) := by decide +kernel
theorem dX2_init_22 : decode cX2_init 22 = .ok (.putfield 19, 3) := by decide +kernel
theorem dX2_init_25 : decode cX2_init 25 = .ok (.aload_n 0, 1) := by decide +kernel
theorem dX2_init_26 : decode cX2_init 26 = .ok (.bipush 8, 2) := by decide +kernel
theorem dX2_init_28 : decode cX2_init 28 = .ok (.bipush 9, 2) := by decide +kernel
theorem dX2_init_30 : decode cX2_init 30 = .ok (.multianewarray 22 2, 4) := by decide +kernel
theorem dX2_init_34 : decode cX2_init 34 = .ok (.putfield 24, 3) := by decide +kernel
theorem dX2_init_37 : decode cX2_init 37 = .ok (.aload_n 0, 1) := by decide +kernel
theorem dX2_init_38 : decode cX2_init 38 = .ok (.bipush 8, 2) := by decide +kernel
theorem dX2_init_40 : decode cX2_init 40 = .ok (.newarray .int, 2) := by decide +kernel
theorem dX2_init_42 : decode cX2_init 42 = .ok (.putfield 27, 3) := by decide +kernel
theorem dX2_init_45 : decode cX2_init 45 = .ok (.aload_n 0, 1) := by decide +kernel
theorem dX2_init_46 : decode cX2_init 46 = .ok (.aload_n 1, 1) := by decide +kernel
theorem dX2_init_47 : decode cX2_init 47 = .ok (.putfield 31, 3) := by decide +kernel
theorem dX2_init_50 : decode cX2_init 50 = .ok (.iconst 0, 1) := by decide +kernel
theorem dX2_init_51 : decode cX2_init 51 = .ok (.istore_n 2, 1) := by decide +kernel
theorem dX2_init_52 : decode cX2_init 52 = .ok (.iload_n 2, 1) := by decide +kernel
theorem dX2_init_53 : decode cX2_init 53 = .ok (.bipush 8, 2) := by decide +kernel
theorem dX2_init_55 : decode cX2_init 55 = .ok (.if_icmp .gt 22, 3) := by decide +kernel
theorem dX2_init_58 : decode cX2_init 58 = .ok (.aload_n 0, 1) := by decide +kernel
theorem dX2_init_59 : decode cX2_init 59 = .ok (.getfield 11, 3) := by decide +kernel
theorem dX2_init_62 : decode cX2_init 62 = .ok (.iload_n 2, 1) := by decide +kernel
theorem dX2_init_63 : decode cX2_init 63 = .ok (.new 9, 3) := by decide +kernel
theorem dX2_init_66 : decode cX2_init 66 = .ok (.dup, 1) := by decide +kernel
theorem dX2_init_67 : decode cX2_init 67 = .ok (.invokespecial 35, 3) := by decide +kernel
theorem dX2_init_70 : decode cX2_init 70 = .ok (.aastore, 1) := by decide +kernel
theorem dX2_init_71 : decode cX2_init 71 = .ok (.iinc 2 1, 3) := by decide +kernel
theorem dX2_init_74 : decode cX2_init 74 = .ok (.goto (-22), 3) := by decide +kernel
theorem dX2_init_77 : decode cX2_init 77 = .ok (.return_, 1) := by decide +kernel
theorem dX2_forget_0 : decode cX2_forget 0 = .ok (.aload_n 0, 1) := by decide +kernel
theorem dX2_forget_1 : decode cX2_forget 1 = .ok (.iconst 0, 1) := by decide +kernel
theorem dX2_forget_2 : decode cX2_forget 2 = .ok (.putfield 36, 3) := by decide +kernel
theorem dX2_forget_5 : decode cX2_forget 5 = .ok (.iconst 0, 1) := by decide +kernel
theorem dX2_forget_6 : decode cX2_forget 6 = .ok (.istore_n 1, 1) := by decide +kernel
theorem dX2_forget_7 : decode cX2_forget 7 = .ok (.iload_n 1, 1) := by decide +kernel
theorem dX2_forget_8 : decode cX2_forget 8 = .ok (.bipush 8, 2) := by decide +kernel
theorem dX2_forget_10 : decode cX2_forget 10 = .ok (.if_icmp .gt 19, 3) := by decide +kernel
theorem dX2_forget_13 : decode cX2_forget 13 = .ok (.aload_n 0, 1) := by decide +kernel
theorem dX2_forget_14 : decode cX2_forget 14 = .ok (.getfield 11, 3) := by decide +kernel
theorem dX2_forget_17 : decode cX2_forget 17 = .ok (.iload_n 1, 1) := by decide +kernel
theorem dX2_forget_18 : decode cX2_forget 18 = .ok (.aaload, 1) := by decide +kernel
theorem dX2_forget_19 : decode cX2_forget 19 = .ok (.iconst 0, 1) := by decide +kernel
theorem dX2_forget_20 : decode cX2_forget 20 = .ok (.putfield 40, 3) := by decide +kernel
theorem dX2_forget_23 : decode cX2_forget 23 = .ok (.iinc 1 1, 3) := by decide +kernel
theorem dX2_forget_26 : decode cX2_forget 26 = .ok (.goto (-19), 3) := by decide +kernel
theorem dX2_forget_29 : decode cX2_forget 29 = .ok (.return_, 1) := by decide +kernel
theorem dX2_isSpent_0 : decode cX2_isSpent 0 = .ok (.aload_n 0, 1) := by decide +kernel
theorem dX2_isSpent_1 : decode cX2_isSpent 1 = .ok (.iload_n 1, 1) := by decide +kernel
theorem dX2_isSpent_2 : decode cX2_isSpent 2 = .ok (.invokevirtual 43, 3) := by decide +kernel
theorem dX2_isSpent_5 : decode cX2_isSpent 5 = .ok (.sipush 20000, 3) := by decide +kernel
theorem dX2_isSpent_8 : decode cX2_isSpent 8 = .ok (.if_icmp .le 7, 3) := by decide +kernel
theorem dX2_isSpent_11 : decode cX2_isSpent 11 = .ok (.iconst 1, 1) := by decide +kernel
theorem dX2_isSpent_12 : decode cX2_isSpent 12 = .ok (.goto 4, 3) := by decide +kernel
theorem dX2_isSpent_15 : decode cX2_isSpent 15 = .ok (.iconst 0, 1) := by decide +kernel
theorem dX2_isSpent_16 : decode cX2_isSpent 16 = .ok (.ireturn, 1) := by decide +kernel
theorem dX2_countOf_0 : decode cX2_countOf 0 = .ok (.aload_n 0, 1) := by decide +kernel
theorem dX2_countOf_1 : decode cX2_countOf 1 = .ok (.invokevirtual 47, 3) := by decide +kernel
theorem dX2_countOf_4 : decode cX2_countOf 4 = .ok (.iconst 0, 1) := by decide +kernel
theorem dX2_countOf_5 : decode cX2_countOf 5 = .ok (.istore_n 2, 1) := by decide +kernel
theorem dX2_countOf_6 : decode cX2_countOf 6 = .ok (.iconst 0, 1) := by decide +kernel
theorem dX2_countOf_7 : decode cX2_countOf 7 = .ok (.istore_n 3, 1) := by decide +kernel
theorem dX2_countOf_8 : decode cX2_countOf 8 = .ok (.iload_n 3, 1) := by decide +kernel
theorem dX2_countOf_9 : decode cX2_countOf 9 = .ok (.aload_n 0, 1) := by decide +kernel
theorem dX2_countOf_10 : decode cX2_countOf 10 = .ok (.getfield 31, 3) := by decide +kernel
theorem dX2_countOf_13 : decode cX2_countOf 13 = .ok (.invokevirtual 50, 3) := by decide +kernel
theorem dX2_countOf_16 : decode cX2_countOf 16 = .ok (.if_icmp .ge 20, 3) := by decide +kernel
theorem dX2_countOf_19 : decode cX2_countOf 19 = .ok (.iload_n 2, 1) := by decide +kernel
theorem dX2_countOf_20 : decode cX2_countOf 20 = .ok (.aload_n 0, 1) := by decide +kernel
theorem dX2_countOf_21 : decode cX2_countOf 21 = .ok (.getfield 19, 3) := by decide +kernel
theorem dX2_countOf_24 : decode cX2_countOf 24 = .ok (.iload_n 1, 1) := by decide +kernel
theorem dX2_countOf_25 : decode cX2_countOf 25 = .ok (.aaload, 1) := by decide +kernel
theorem dX2_countOf_26 : decode cX2_countOf 26 = .ok (.iload_n 3, 1) := by decide +kernel
theorem dX2_countOf_27 : decode cX2_countOf 27 = .ok (.iaload, 1) := by decide +kernel
theorem dX2_countOf_28 : decode cX2_countOf 28 = .ok (.iadd, 1) := by decide +kernel
theorem dX2_countOf_29 : decode cX2_countOf 29 = .ok (.istore_n 2, 1) := by decide +kernel
theorem dX2_countOf_30 : decode cX2_countOf 30 = .ok (.iinc 3 1, 3) := by decide +kernel
theorem dX2_countOf_33 : decode cX2_countOf 33 = .ok (.goto (-25), 3) := by decide +kernel
theorem dX2_countOf_36 : decode cX2_countOf 36 = .ok (.iload_n 2, 1) := by decide +kernel
theorem dX2_countOf_37 : decode cX2_countOf 37 = .ok (.ireturn, 1) := by decide +kernel
theorem dX2_findWays_0 : decode cX2_findWays 0 = .ok (.aload_n 0, 1) := by decide +kernel
theorem dX2_findWays_1 : decode cX2_findWays 1 = .ok (.getfield 36, 3) := by decide +kernel
theorem dX2_findWays_4 : decode cX2_findWays 4 = .ok (.ifCond .eq 4, 3) := by decide +kernel
theorem dX2_findWays_7 : decode cX2_findWays 7 = .ok (.return_, 1) := by decide +kernel
theorem dX2_findWays_8 : decode cX2_findWays 8 = .ok (.aload_n 0, 1) := by decide +kernel
theorem dX2_findWays_9 : decode cX2_findWays 9 = .ok (.getfield 19, 3) := by decide +kernel
theorem dX2_findWays_12 : decode cX2_findWays 12 = .ok (.iconst 1, 1) := by decide +kernel
theorem dX2_findWays_13 : decode cX2_findWays 13 = .ok (.aaload, 1) := by decide +kernel
theorem dX2_findWays_14 : decode cX2_findWays 14 = .ok (.iconst 1, 1) := by decide +kernel
theorem dX2_findWays_15 : decode cX2_findWays 15 = .ok (.invokestatic 56, 3) := by decide +kernel
theorem dX2_findWays_18 : decode cX2_findWays 18 = .ok (.iconst 2, 1) := by decide +kernel
theorem dX2_findWays_19 : decode cX2_findWays 19 = .ok (.istore_n 1, 1) := by decide +kernel
theorem dX2_findWays_20 : decode cX2_findWays 20 = .ok (.iload_n 1, 1) := by decide +kernel
theorem dX2_findWays_21 : decode cX2_findWays 21 = .ok (.bipush 8, 2) := by decide +kernel
theorem dX2_findWays_23 : decode cX2_findWays 23 = .ok (.if_icmp .gt 42, 3) := by decide +kernel
theorem dX2_findWays_26 : decode cX2_findWays 26 = .ok (.iconst 0, 1) := by decide +kernel
theorem dX2_findWays_27 : decode cX2_findWays 27 = .ok (.istore_n 2, 1) := by decide +kernel
theorem dX2_findWays_28 : decode cX2_findWays 28 = .ok (.iload_n 2, 1) := by decide +kernel
theorem dX2_findWays_29 : decode cX2_findWays 29 = .ok (.aload_n 0, 1) := by decide +kernel
theorem dX2_findWays_30 : decode cX2_findWays 30 = .ok (.getfield 31, 3) := by decide +kernel
theorem dX2_findWays_33 : decode cX2_findWays 33 = .ok (.invokevirtual 50, 3) := by decide +kernel
theorem dX2_findWays_36 : decode cX2_findWays 36 = .ok (.if_icmp .ge 23, 3) := by decide +kernel
theorem dX2_findWays_39 : decode cX2_findWays 39 = .ok (.aload_n 0, 1) := by decide +kernel
theorem dX2_findWays_40 : decode cX2_findWays 40 = .ok (.getfield 19, 3) := by decide +kernel
theorem dX2_findWays_43 : decode cX2_findWays 43 = .ok (.iload_n 1, 1) := by decide +kernel
theorem dX2_findWays_44 : decode cX2_findWays 44 = .ok (.aaload, 1) := by decide +kernel
theorem dX2_findWays_45 : decode cX2_findWays 45 = .ok (.iload_n 2, 1) := by decide +kernel
theorem dX2_findWays_46 : decode cX2_findWays 46 = .ok (.aload_n 0, 1) := by decide +kernel
theorem dX2_findWays_47 : decode cX2_findWays 47 = .ok (.iload_n 1, 1) := by decide +kernel
theorem dX2_findWays_48 : decode cX2_findWays 48 = .ok (.iload_n 2, 1) := by decide +kernel
theorem dX2_findWays_49 : decode cX2_findWays 49 = .ok (.invokevirtual 62, 3) := by decide +kernel
theorem dX2_findWays_52 : decode cX2_findWays 52 = .ok (.iastore, 1) := by decide +kernel
theorem dX2_findWays_53 : decode cX2_findWays 53 = .ok (.iinc 2 1, 3) := by decide +kernel
theorem dX2_findWays_56 : decode cX2_findWays 56 = .ok (.goto (-28), 3) := by decide +kernel
theorem dX2_findWays_59 : decode cX2_findWays 59 = .ok (.iinc 1 1, 3) := by decide +kernel
theorem dX2_findWays_62 : decode cX2_findWays 62 = .ok (.goto (-42), 3) := by decide +kernel
theorem dX2_findWays_65 : decode cX2_findWays 65 = .ok (.aload_n 0, 1) := by decide +kernel
theorem dX2_findWays_66 : decode cX2_findWays 66 = .ok (.iconst 1, 1) := by decide +kernel
theorem dX2_findWays_67 : decode cX2_findWays 67 = .ok (.putfield 36, 3) := by decide +kernel
theorem dX2_findWays_70 : decode cX2_findWays 70 = .ok (.return_, 1) := by decide +kernel
theorem dX2_countWays_0 : decode cX2_countWays 0 = .ok (.iconst 0, 1) := by decide +kernel
theorem dX2_countWays_1 : decode cX2_countWays 1 = .ok (.istore_n 3, 1) := by decide +kernel
theorem dX2_countWays_2 : decode cX2_countWays 2 = .ok (.iconst 0, 1) := by decide +kernel
theorem dX2_countWays_3 : decode cX2_countWays 3 = .ok (.istore 4, 2) := by decide +kernel
theorem dX2_countWays_5 : decode cX2_countWays 5 = .ok (.iload 4, 2) := by decide +kernel
theorem dX2_countWays_7 : decode cX2_countWays 7 = .ok (.aload_n 0, 1) := by decide +kernel
theorem dX2_countWays_8 : decode cX2_countWays 8 = .ok (.getfield 31, 3) := by decide +kernel
theorem dX2_countWays_11 : decode cX2_countWays 11 = .ok (.invokevirtual 50, 3) := by decide +kernel
theorem dX2_countWays_14 : decode cX2_countWays 14 = .ok (.if_icmp .ge 36, 3) := by decide +kernel
theorem dX2_countWays_17 : decode cX2_countWays 17 = .ok (.aload_n 0, 1) := by decide +kernel
theorem dX2_countWays_18 : decode cX2_countWays 18 = .ok (.getfield 31, 3) := by decide +kernel
theorem dX2_countWays_21 : decode cX2_countWays 21 = .ok (.iload_n 2, 1) := by decide +kernel
theorem dX2_countWays_22 : decode cX2_countWays 22 = .ok (.iload 4, 2) := by decide +kernel
theorem dX2_countWays_24 : decode cX2_countWays 24 = .ok (.invokevirtual 66, 3) := by decide +kernel
theorem dX2_countWays_27 : decode cX2_countWays 27 = .ok (.ifCond .eq 17, 3) := by decide +kernel
theorem dX2_countWays_30 : decode cX2_countWays 30 = .ok (.iload_n 3, 1) := by decide +kernel
theorem dX2_countWays_31 : decode cX2_countWays 31 = .ok (.aload_n 0, 1) := by decide +kernel
theorem dX2_countWays_32 : decode cX2_countWays 32 = .ok (.getfield 19, 3) := by decide +kernel
theorem dX2_countWays_35 : decode cX2_countWays 35 = .ok (.iload_n 1, 1) := by decide +kernel
theorem dX2_countWays_36 : decode cX2_countWays 36 = .ok (.iconst 1, 1) := by decide +kernel
theorem dX2_countWays_37 : decode cX2_countWays 37 = .ok (.isub, 1) := by decide +kernel
theorem dX2_countWays_38 : decode cX2_countWays 38 = .ok (.aaload, 1) := by decide +kernel
theorem dX2_countWays_39 : decode cX2_countWays 39 = .ok (.iload 4, 2) := by decide +kernel
theorem dX2_countWays_41 : decode cX2_countWays 41 = .ok (.iaload, 1) := by decide +kernel
theorem dX2_countWays_42 : decode cX2_countWays 42 = .ok (.iadd, 1) := by decide +kernel
theorem dX2_countWays_43 : decode cX2_countWays 43 = .ok (.istore_n 3, 1) := by decide +kernel
theorem dX2_countWays_44 : decode cX2_countWays 44 = .ok (.iinc 4 1, 3) := by decide +kernel
theorem dX2_countWays_47 : decode cX2_countWays 47 = .ok (.goto (-42), 3) := by decide +kernel
theorem dX2_countWays_50 : decode cX2_countWays 50 = .ok (.iload_n 3, 1) := by decide +kernel
theorem dX2_countWays_51 : decode cX2_countWays 51 = .ok (.ireturn, 1) := by decide +kernel
theorem dX2_surveyOf_0 : decode cX2_surveyOf 0 = .ok (.aload_n 0, 1) := by decide +kernel
theorem dX2_surveyOf_1 : decode cX2_surveyOf 1 = .ok (.getfield 11, 3) := by decide +kernel
theorem dX2_surveyOf_4 : decode cX2_surveyOf 4 = .ok (.iload_n 1, 1) := by decide +kernel
theorem dX2_surveyOf_5 : decode cX2_surveyOf 5 = .ok (.aaload, 1) := by decide +kernel
theorem dX2_surveyOf_6 : decode cX2_surveyOf 6 = .ok (.astore_n 2, 1) := by decide +kernel
theorem dX2_surveyOf_7 : decode cX2_surveyOf 7 = .ok (.aload_n 2, 1) := by decide +kernel
theorem dX2_surveyOf_8 : decode cX2_surveyOf 8 = .ok (.getfield 40, 3) := by decide +kernel
theorem dX2_surveyOf_11 : decode cX2_surveyOf 11 = .ok (.ifCond .ne 23, 3) := by decide +kernel
theorem dX2_surveyOf_14 : decode cX2_surveyOf 14 = .ok (.aload_n 0, 1) := by decide +kernel
theorem dX2_surveyOf_15 : decode cX2_surveyOf 15 = .ok (.invokevirtual 47, 3) := by decide +kernel
theorem dX2_surveyOf_18 : decode cX2_surveyOf 18 = .ok (.aload_n 2, 1) := by decide +kernel
theorem dX2_surveyOf_19 : decode cX2_surveyOf 19 = .ok (.invokevirtual 70, 3) := by decide +kernel
theorem dX2_surveyOf_22 : decode cX2_surveyOf 22 = .ok (.aload_n 0, 1) := by decide +kernel
theorem dX2_surveyOf_23 : decode cX2_surveyOf 23 = .ok (.aload_n 2, 1) := by decide +kernel
theorem dX2_surveyOf_24 : decode cX2_surveyOf 24 = .ok (.iload_n 1, 1) := by decide +kernel
theorem dX2_surveyOf_25 : decode cX2_surveyOf 25 = .ok (.iconst 0, 1) := by decide +kernel
theorem dX2_surveyOf_26 : decode cX2_surveyOf 26 = .ok (.invokestatic 73, 3) := by decide +kernel
theorem dX2_surveyOf_29 : decode cX2_surveyOf 29 = .ok (.aload_n 2, 1) := by decide +kernel
theorem dX2_surveyOf_30 : decode cX2_surveyOf 30 = .ok (.iconst 1, 1) := by decide +kernel
theorem dX2_surveyOf_31 : decode cX2_surveyOf 31 = .ok (.putfield 40, 3) := by decide +kernel
theorem dX2_surveyOf_34 : decode cX2_surveyOf 34 = .ok (.aload_n 2, 1) := by decide +kernel
theorem dX2_surveyOf_35 : decode cX2_surveyOf 35 = .ok (.areturn, 1) := by decide +kernel
theorem dX2_walk_0 : decode cX2_walk 0 = .ok (.iload_n 3, 1) := by decide +kernel
theorem dX2_walk_1 : decode cX2_walk 1 = .ok (.iload_n 2, 1) := by decide +kernel
theorem dX2_walk_2 : decode cX2_walk 2 = .ok (.if_icmp .lt 10, 3) := by decide +kernel
theorem dX2_walk_5 : decode cX2_walk 5 = .ok (.aload_n 0, 1) := by decide +kernel
theorem dX2_walk_6 : decode cX2_walk 6 = .ok (.aload_n 1, 1) := by decide +kernel
theorem dX2_walk_7 : decode cX2_walk 7 = .ok (.iload_n 2, 1) := by decide +kernel
theorem dX2_walk_8 : decode cX2_walk 8 = .ok (.invokevirtual 77, 3) := by decide +kernel
theorem dX2_walk_11 : decode cX2_walk 11 = .ok (.return_, 1) := by decide +kernel
theorem dX2_walk_12 : decode cX2_walk 12 = .ok (.iconst 0, 1) := by decide +kernel
theorem dX2_walk_13 : decode cX2_walk 13 = .ok (.istore 4, 2) := by decide +kernel
theorem dX2_walk_15 : decode cX2_walk 15 = .ok (.iload 4, 2) := by decide +kernel
theorem dX2_walk_17 : decode cX2_walk 17 = .ok (.aload_n 0, 1) := by decide +kernel
theorem dX2_walk_18 : decode cX2_walk 18 = .ok (.getfield 31, 3) := by decide +kernel
theorem dX2_walk_21 : decode cX2_walk 21 = .ok (.invokevirtual 50, 3) := by decide +kernel
theorem dX2_walk_24 : decode cX2_walk 24 = .ok (.if_icmp .ge 36, 3) := by decide +kernel
theorem dX2_walk_27 : decode cX2_walk 27 = .ok (.aload_n 0, 1) := by decide +kernel
theorem dX2_walk_28 : decode cX2_walk 28 = .ok (.iload_n 2, 1) := by decide +kernel
theorem dX2_walk_29 : decode cX2_walk 29 = .ok (.iload_n 3, 1) := by decide +kernel
theorem dX2_walk_30 : decode cX2_walk 30 = .ok (.iload 4, 2) := by decide +kernel
theorem dX2_walk_32 : decode cX2_walk 32 = .ok (.invokevirtual 81, 3) := by decide +kernel
theorem dX2_walk_35 : decode cX2_walk 35 = .ok (.ifCond .eq 19, 3) := by decide +kernel
theorem dX2_walk_38 : decode cX2_walk 38 = .ok (.aload_n 0, 1) := by decide +kernel
theorem dX2_walk_39 : decode cX2_walk 39 = .ok (.iload_n 3, 1) := by decide +kernel
theorem dX2_walk_40 : decode cX2_walk 40 = .ok (.iload 4, 2) := by decide +kernel
theorem dX2_walk_42 : decode cX2_walk 42 = .ok (.invokevirtual 85, 3) := by decide +kernel
theorem dX2_walk_45 : decode cX2_walk 45 = .ok (.aload_n 0, 1) := by decide +kernel
theorem dX2_walk_46 : decode cX2_walk 46 = .ok (.aload_n 1, 1) := by decide +kernel
theorem dX2_walk_47 : decode cX2_walk 47 = .ok (.iload_n 2, 1) := by decide +kernel
theorem dX2_walk_48 : decode cX2_walk 48 = .ok (.iload_n 3, 1) := by decide +kernel
theorem dX2_walk_49 : decode cX2_walk 49 = .ok (.iconst 1, 1) := by decide +kernel
theorem dX2_walk_50 : decode cX2_walk 50 = .ok (.iadd, 1) := by decide +kernel
theorem dX2_walk_51 : decode cX2_walk 51 = .ok (.invokestatic 73, 3) := by decide +kernel
theorem dX2_walk_54 : decode cX2_walk 54 = .ok (.iinc 4 1, 3) := by decide +kernel
theorem dX2_walk_57 : decode cX2_walk 57 = .ok (.goto (-42), 3) := by decide +kernel
theorem dX2_walk_60 : decode cX2_walk 60 = .ok (.return_, 1) := by decide +kernel
theorem dX2_leadsOn_0 : decode cX2_leadsOn 0 = .ok (.aload_n 0, 1) := by decide +kernel
theorem dX2_leadsOn_1 : decode cX2_leadsOn 1 = .ok (.getfield 19, 3) := by decide +kernel
theorem dX2_leadsOn_4 : decode cX2_leadsOn 4 = .ok (.iload_n 1, 1) := by decide +kernel
theorem dX2_leadsOn_5 : decode cX2_leadsOn 5 = .ok (.iload_n 2, 1) := by decide +kernel
theorem dX2_leadsOn_6 : decode cX2_leadsOn 6 = .ok (.isub, 1) := by decide +kernel
theorem dX2_leadsOn_7 : decode cX2_leadsOn 7 = .ok (.aaload, 1) := by decide +kernel
theorem dX2_leadsOn_8 : decode cX2_leadsOn 8 = .ok (.iload_n 3, 1) := by decide +kernel
theorem dX2_leadsOn_9 : decode cX2_leadsOn 9 = .ok (.iaload, 1) := by decide +kernel
theorem dX2_leadsOn_10 : decode cX2_leadsOn 10 = .ok (.ifCond .le 30, 3) := by decide +kernel
theorem dX2_leadsOn_13 : decode cX2_leadsOn 13 = .ok (.iload_n 2, 1) := by decide +kernel
theorem dX2_leadsOn_14 : decode cX2_leadsOn 14 = .ok (.ifCond .eq 22, 3) := by decide +kernel
theorem dX2_leadsOn_17 : decode cX2_leadsOn 17 = .ok (.aload_n 0, 1) := by decide +kernel
theorem dX2_leadsOn_18 : decode cX2_leadsOn 18 = .ok (.getfield 31, 3) := by decide +kernel
theorem dX2_leadsOn_21 : decode cX2_leadsOn 21 = .ok (.aload_n 0, 1) := by decide +kernel
theorem dX2_leadsOn_22 : decode cX2_leadsOn 22 = .ok (.getfield 27, 3) := by decide +kernel
theorem dX2_leadsOn_25 : decode cX2_leadsOn 25 = .ok (.iload_n 2, 1) := by decide +kernel
theorem dX2_leadsOn_26 : decode cX2_leadsOn 26 = .ok (.iconst 1, 1) := by decide +kernel
theorem dX2_leadsOn_27 : decode cX2_leadsOn 27 = .ok (.isub, 1) := by decide +kernel
theorem dX2_leadsOn_28 : decode cX2_leadsOn 28 = .ok (.iaload, 1) := by decide +kernel
theorem dX2_leadsOn_29 : decode cX2_leadsOn 29 = .ok (.iload_n 3, 1) := by decide +kernel
theorem dX2_leadsOn_30 : decode cX2_leadsOn 30 = .ok (.invokevirtual 66, 3) := by decide +kernel
theorem dX2_leadsOn_33 : decode cX2_leadsOn 33 = .ok (.ifCond .eq 7, 3) := by decide +kernel
theorem dX2_leadsOn_36 : decode cX2_leadsOn 36 = .ok (.iconst 1, 1) := by decide +kernel
theorem dX2_leadsOn_37 : decode cX2_leadsOn 37 = .ok (.goto 4, 3) := by decide +kernel
theorem dX2_leadsOn_40 : decode cX2_leadsOn 40 = .ok (.iconst 0, 1) := by decide +kernel
theorem dX2_leadsOn_41 : decode cX2_leadsOn 41 = .ok (.ireturn, 1) := by decide +kernel
theorem dX2_extendPrefix_0 : decode cX2_extendPrefix 0 = .ok (.aload_n 0, 1) := by decide +kernel
theorem dX2_extendPrefix_1 : decode cX2_extendPrefix 1 = .ok (.getfield 27, 3) := by decide +kernel
theorem dX2_extendPrefix_4 : decode cX2_extendPrefix 4 = .ok (.iload_n 1, 1) := by decide +kernel
theorem dX2_extendPrefix_5 : decode cX2_extendPrefix 5 = .ok (.iload_n 2, 1) := by decide +kernel
theorem dX2_extendPrefix_6 : decode cX2_extendPrefix 6 = .ok (.iastore, 1) := by decide +kernel
theorem dX2_extendPrefix_7 : decode cX2_extendPrefix 7 = .ok (.iload_n 1, 1) := by decide +kernel
theorem dX2_extendPrefix_8 : decode cX2_extendPrefix 8 = .ok (.ifCond .ne 27, 3) := by decide +kernel
theorem dX2_extendPrefix_11 : decode cX2_extendPrefix 11 = .ok (.aload_n 0, 1) := by decide +kernel
theorem dX2_extendPrefix_12 : decode cX2_extendPrefix 12 = .ok (.getfield 31, 3) := by decide +kernel
theorem dX2_extendPrefix_15 : decode cX2_extendPrefix 15 = .ok (.iload_n 2, 1) := by decide +kernel
theorem dX2_extendPrefix_16 : decode cX2_extendPrefix 16 = .ok (.invokevirtual 89, 3) := by decide +kernel
theorem dX2_extendPrefix_19 : decode cX2_extendPrefix 19 = .ok (.iconst 0, 1) := by decide +kernel
theorem dX2_extendPrefix_20 : decode cX2_extendPrefix 20 = .ok (.aload_n 0, 1) := by decide +kernel
theorem dX2_extendPrefix_21 : decode cX2_extendPrefix 21 = .ok (.getfield 24, 3) := by decide +kernel
theorem dX2_extendPrefix_24 : decode cX2_extendPrefix 24 = .ok (.iconst 0, 1) := by decide +kernel
theorem dX2_extendPrefix_25 : decode cX2_extendPrefix 25 = .ok (.aaload, 1) := by decide +kernel
theorem dX2_extendPrefix_26 : decode cX2_extendPrefix 26 = .ok (.iconst 0, 1) := by decide +kernel
theorem dX2_extendPrefix_27 : decode cX2_extendPrefix 27 = .ok (.bipush 9, 2) := by decide +kernel
theorem dX2_extendPrefix_29 : decode cX2_extendPrefix 29 = .ok (.invokestatic 93, 3) := by decide +kernel
theorem dX2_extendPrefix_32 : decode cX2_extendPrefix 32 = .ok (.goto 32, 3) := by decide +kernel
theorem dX2_extendPrefix_35 : decode cX2_extendPrefix 35 = .ok (.aload_n 0, 1) := by decide +kernel
theorem dX2_extendPrefix_36 : decode cX2_extendPrefix 36 = .ok (.getfield 31, 3) := by decide +kernel
theorem dX2_extendPrefix_39 : decode cX2_extendPrefix 39 = .ok (.aload_n 0, 1) := by decide +kernel
theorem dX2_extendPrefix_40 : decode cX2_extendPrefix 40 = .ok (.getfield 24, 3) := by decide +kernel
theorem dX2_extendPrefix_43 : decode cX2_extendPrefix 43 = .ok (.iload_n 1, 1) := by decide +kernel
theorem dX2_extendPrefix_44 : decode cX2_extendPrefix 44 = .ok (.iconst 1, 1) := by decide +kernel
theorem dX2_extendPrefix_45 : decode cX2_extendPrefix 45 = .ok (.isub, 1) := by decide +kernel
theorem dX2_extendPrefix_46 : decode cX2_extendPrefix 46 = .ok (.aaload, 1) := by decide +kernel
theorem dX2_extendPrefix_47 : decode cX2_extendPrefix 47 = .ok (.aload_n 0, 1) := by decide +kernel
theorem dX2_extendPrefix_48 : decode cX2_extendPrefix 48 = .ok (.getfield 31, 3) := by decide +kernel
theorem dX2_extendPrefix_51 : decode cX2_extendPrefix 51 = .ok (.iload_n 2, 1) := by decide +kernel
theorem dX2_extendPrefix_52 : decode cX2_extendPrefix 52 = .ok (.invokevirtual 89, 3) := by decide +kernel
theorem dX2_extendPrefix_55 : decode cX2_extendPrefix 55 = .ok (.aload_n 0, 1) := by decide +kernel
theorem dX2_extendPrefix_56 : decode cX2_extendPrefix 56 = .ok (.getfield 24, 3) := by decide +kernel
theorem dX2_extendPrefix_59 : decode cX2_extendPrefix 59 = .ok (.iload_n 1, 1) := by decide +kernel
theorem dX2_extendPrefix_60 : decode cX2_extendPrefix 60 = .ok (.aaload, 1) := by decide +kernel
theorem dX2_extendPrefix_61 : decode cX2_extendPrefix 61 = .ok (.invokevirtual 99, 3) := by decide +kernel
theorem dX2_extendPrefix_64 : decode cX2_extendPrefix 64 = .ok (.return_, 1) := by decide +kernel
theorem dX2_noteWord_0 : decode cX2_noteWord 0 = .ok (.aload_n 0, 1) := by decide +kernel
theorem dX2_noteWord_1 : decode cX2_noteWord 1 = .ok (.getfield 24, 3) := by decide +kernel
theorem dX2_noteWord_4 : decode cX2_noteWord 4 = .ok (.iload_n 2, 1) := by decide +kernel
theorem dX2_noteWord_5 : decode cX2_noteWord 5 = .ok (.iconst 1, 1) := by decide +kernel
theorem dX2_noteWord_6 : decode cX2_noteWord 6 = .ok (.isub, 1) := by decide +kernel
theorem dX2_noteWord_7 : decode cX2_noteWord 7 = .ok (.aaload, 1) := by decide +kernel
theorem dX2_noteWord_8 : decode cX2_noteWord 8 = .ok (.astore_n 3, 1) := by decide +kernel
theorem dX2_noteWord_9 : decode cX2_noteWord 9 = .ok (.aload_n 1, 1) := by decide +kernel
theorem dX2_noteWord_10 : decode cX2_noteWord 10 = .ok (.aload_n 0, 1) := by decide +kernel
theorem dX2_noteWord_11 : decode cX2_noteWord 11 = .ok (.getfield 27, 3) := by decide +kernel
theorem dX2_noteWord_14 : decode cX2_noteWord 14 = .ok (.iload_n 2, 1) := by decide +kernel
theorem dX2_noteWord_15 : decode cX2_noteWord 15 = .ok (.aload_n 0, 1) := by decide +kernel
theorem dX2_noteWord_16 : decode cX2_noteWord 16 = .ok (.getfield 31, 3) := by decide +kernel
theorem dX2_noteWord_19 : decode cX2_noteWord 19 = .ok (.aload_n 3, 1) := by decide +kernel
theorem dX2_noteWord_20 : decode cX2_noteWord 20 = .ok (.invokevirtual 103, 3) := by decide +kernel
theorem dX2_noteWord_23 : decode cX2_noteWord 23 = .ok (.invokevirtual 107, 3) := by decide +kernel
theorem dX2_noteWord_26 : decode cX2_noteWord 26 = .ok (.aload_n 0, 1) := by decide +kernel
theorem dX2_noteWord_27 : decode cX2_noteWord 27 = .ok (.getfield 31, 3) := by decide +kernel
theorem dX2_noteWord_30 : decode cX2_noteWord 30 = .ok (.aload_n 0, 1) := by decide +kernel
theorem dX2_noteWord_31 : decode cX2_noteWord 31 = .ok (.getfield 27, 3) := by decide +kernel
theorem dX2_noteWord_34 : decode cX2_noteWord 34 = .ok (.iload_n 2, 1) := by decide +kernel
theorem dX2_noteWord_35 : decode cX2_noteWord 35 = .ok (.invokevirtual 111, 3) := by decide +kernel
theorem dX2_noteWord_38 : decode cX2_noteWord 38 = .ok (.ifCond .ne 4, 3) := by decide +kernel
theorem dX2_noteWord_41 : decode cX2_noteWord 41 = .ok (.return_, 1) := by decide +kernel
theorem dX2_noteWord_42 : decode cX2_noteWord 42 = .ok (.aload_n 0, 1) := by decide +kernel
theorem dX2_noteWord_43 : decode cX2_noteWord 43 = .ok (.getfield 31, 3) := by decide +kernel
theorem dX2_noteWord_46 : decode cX2_noteWord 46 = .ok (.aload_n 3, 1) := by decide +kernel
theorem dX2_noteWord_47 : decode cX2_noteWord 47 = .ok (.invokevirtual 115, 3) := by decide +kernel
theorem dX2_noteWord_50 : decode cX2_noteWord 50 = .ok (.lstore 4, 2) := by decide +kernel
theorem dX2_noteWord_52 : decode cX2_noteWord 52 = .ok (.aload_n 1, 1) := by decide +kernel
theorem dX2_noteWord_53 : decode cX2_noteWord 53 = .ok (.lload 4, 2) := by decide +kernel
theorem dX2_noteWord_55 : decode cX2_noteWord 55 = .ok (.invokevirtual 118, 3) := by decide +kernel
theorem dX2_noteWord_58 : decode cX2_noteWord 58 = .ok (.aload_n 0, 1) := by decide +kernel
theorem dX2_noteWord_59 : decode cX2_noteWord 59 = .ok (.getfield 27, 3) := by decide +kernel
theorem dX2_noteWord_62 : decode cX2_noteWord 62 = .ok (.iload_n 2, 1) := by decide +kernel
theorem dX2_noteWord_63 : decode cX2_noteWord 63 = .ok (.invokestatic 122, 3) := by decide +kernel
theorem dX2_noteWord_66 : decode cX2_noteWord 66 = .ok (.ifCond .eq 14, 3) := by decide +kernel
theorem dX2_noteWord_69 : decode cX2_noteWord 69 = .ok (.aload_n 1, 1) := by decide +kernel
theorem dX2_noteWord_70 : decode cX2_noteWord 70 = .ok (.aload_n 0, 1) := by decide +kernel
theorem dX2_noteWord_71 : decode cX2_noteWord 71 = .ok (.getfield 27, 3) := by decide +kernel
theorem dX2_noteWord_74 : decode cX2_noteWord 74 = .ok (.iload_n 2, 1) := by decide +kernel
theorem dX2_noteWord_75 : decode cX2_noteWord 75 = .ok (.lload 4, 2) := by decide +kernel
theorem dX2_noteWord_77 : decode cX2_noteWord 77 = .ok (.invokevirtual 127, 3) := by decide +kernel
theorem dX2_noteWord_80 : decode cX2_noteWord 80 = .ok (.return_, 1) := by decide +kernel
theorem dX2_compareGrowth_0 : decode cX2_compareGrowth 0 = .ok (.iconst 0, 1) := by decide +kernel
theorem dX2_compareGrowth_1 : decode cX2_compareGrowth 1 = .ok (.istore 4, 2) := by decide +kernel
theorem dX2_compareGrowth_3 : decode cX2_compareGrowth 3 = .ok (.lconst 1, 1) := by decide +kernel
theorem dX2_compareGrowth_4 : decode cX2_compareGrowth 4 = .ok (.lstore 5, 2) := by decide +kernel
theorem dX2_compareGrowth_6 : decode cX2_compareGrowth 6 = .ok (.lconst 1, 1) := by decide +kernel
theorem dX2_compareGrowth_7 : decode cX2_compareGrowth 7 = .ok (.lstore 7, 2) := by decide +kernel
theorem dX2_compareGrowth_9 : decode cX2_compareGrowth 9 = .ok (.iconst 1, 1) := by decide +kernel
theorem dX2_compareGrowth_10 : decode cX2_compareGrowth 10 = .ok (.istore 9, 2) := by decide +kernel
theorem dX2_compareGrowth_12 : decode cX2_compareGrowth 12 = .ok (.iload 9, 2) := by decide +kernel
theorem dX2_compareGrowth_14 : decode cX2_compareGrowth 14 = .ok (.iload_n 3, 1) := by decide +kernel
theorem dX2_compareGrowth_15 : decode cX2_compareGrowth 15 = .ok (.if_icmp .gt 91, 3) := by decide +kernel
theorem dX2_compareGrowth_18 : decode cX2_compareGrowth 18 = .ok (.lload 5, 2) := by decide +kernel
theorem dX2_compareGrowth_20 : decode cX2_compareGrowth 20 = .ok (.iload_n 1, 1) := by decide +kernel
theorem dX2_compareGrowth_21 : decode cX2_compareGrowth 21 = .ok (.i2l, 1) := by decide +kernel
theorem dX2_compareGrowth_22 : decode cX2_compareGrowth 22 = .ok (.lmul, 1) := by decide +kernel
theorem dX2_compareGrowth_23 : decode cX2_compareGrowth 23 = .ok (.lstore 5, 2) := by decide +kernel
theorem dX2_compareGrowth_25 : decode cX2_compareGrowth 25 = .ok (.lload 7, 2) := by decide +kernel
theorem dX2_compareGrowth_27 : decode cX2_compareGrowth 27 = .ok (.iload_n 2, 1) := by decide +kernel
theorem dX2_compareGrowth_28 : decode cX2_compareGrowth 28 = .ok (.i2l, 1) := by decide +kernel
theorem dX2_compareGrowth_29 : decode cX2_compareGrowth 29 = .ok (.lmul, 1) := by decide +kernel
theorem dX2_compareGrowth_30 : decode cX2_compareGrowth 30 = .ok (.lstore 7, 2) := by decide +kernel
theorem dX2_compareGrowth_32 : decode cX2_compareGrowth 32 = .ok (.aload_n 0, 1) := by decide +kernel
theorem dX2_compareGrowth_33 : decode cX2_compareGrowth 33 = .ok (.iload 9, 2) := by decide +kernel
theorem dX2_compareGrowth_35 : decode cX2_compareGrowth 35 = .ok (.invokevirtual 130, 3) := by decide +kernel
theorem dX2_compareGrowth_38 : decode cX2_compareGrowth 38 = .ok (.astore 10, 2) := by decide +kernel
theorem dX2_compareGrowth_40 : decode cX2_compareGrowth 40 = .ok (.aload 10, 2) := by decide +kernel
theorem dX2_compareGrowth_42 : decode cX2_compareGrowth 42 = .ok (.getfield 134, 3) := by decide +kernel
theorem dX2_compareGrowth_45 : decode cX2_compareGrowth 45 = .ok (.lload 7, 2) := by decide +kernel
theorem dX2_compareGrowth_47 : decode cX2_compareGrowth 47 = .ok (.lmul, 1) := by decide +kernel
theorem dX2_compareGrowth_48 : decode cX2_compareGrowth 48 = .ok (.aload_n 0, 1) := by decide +kernel
theorem dX2_compareGrowth_49 : decode cX2_compareGrowth 49 = .ok (.getfield 31, 3) := by decide +kernel
theorem dX2_compareGrowth_52 : decode cX2_compareGrowth 52 = .ok (.invokevirtual 138, 3) := by decide +kernel
theorem dX2_compareGrowth_55 : decode cX2_compareGrowth 55 = .ok (.i2l, 1) := by decide +kernel
theorem dX2_compareGrowth_56 : decode cX2_compareGrowth 56 = .ok (.lload 5, 2) := by decide +kernel
theorem dX2_compareGrowth_58 : decode cX2_compareGrowth 58 = .ok (.lmul, 1) := by decide +kernel
theorem dX2_compareGrowth_59 : decode cX2_compareGrowth 59 = .ok (.lcmp, 1) := by decide +kernel
theorem dX2_compareGrowth_60 : decode cX2_compareGrowth 60 = .ok (.ifCond .le 5, 3) := by decide +kernel
theorem dX2_compareGrowth_63 : decode cX2_compareGrowth 63 = .ok (.iconst 1, 1) := by decide +kernel
theorem dX2_compareGrowth_64 : decode cX2_compareGrowth 64 = .ok (.ireturn, 1) := by decide +kernel
theorem dX2_compareGrowth_65 : decode cX2_compareGrowth 65 = .ok (.iload 4, 2) := by decide +kernel
theorem dX2_compareGrowth_67 : decode cX2_compareGrowth 67 = .ok (.ifCond .ne 26, 3) := by decide +kernel
theorem dX2_compareGrowth_70 : decode cX2_compareGrowth 70 = .ok (.aload_n 0, 1) := by decide +kernel
theorem dX2_compareGrowth_71 : decode cX2_compareGrowth 71 = .ok (.iload 9, 2) := by decide +kernel
theorem dX2_compareGrowth_73 : decode cX2_compareGrowth 73 = .ok (.invokevirtual 43, 3) := by decide +kernel
theorem dX2_compareGrowth_76 : decode cX2_compareGrowth 76 = .ok (.ifCond .eq 17, 3) := by decide +kernel
theorem dX2_compareGrowth_79 : decode cX2_compareGrowth 79 = .ok (.aload 10, 2) := by decide +kernel
theorem dX2_compareGrowth_81 : decode cX2_compareGrowth 81 = .ok (.getfield 141, 3) := by decide +kernel
theorem dX2_compareGrowth_84 : decode cX2_compareGrowth 84 = .ok (.lload 7, 2) := by decide +kernel
theorem dX2_compareGrowth_86 : decode cX2_compareGrowth 86 = .ok (.lmul, 1) := by decide +kernel
theorem dX2_compareGrowth_87 : decode cX2_compareGrowth 87 = .ok (.lload 5, 2) := by decide +kernel
theorem dX2_compareGrowth_89 : decode cX2_compareGrowth 89 = .ok (.lcmp, 1) := by decide +kernel
theorem dX2_compareGrowth_90 : decode cX2_compareGrowth 90 = .ok (.ifCond .ge 7, 3) := by decide +kernel
theorem dX2_compareGrowth_93 : decode cX2_compareGrowth 93 = .ok (.iconst 1, 1) := by decide +kernel
theorem dX2_compareGrowth_94 : decode cX2_compareGrowth 94 = .ok (.goto 4, 3) := by decide +kernel
theorem dX2_compareGrowth_97 : decode cX2_compareGrowth 97 = .ok (.iconst 0, 1) := by decide +kernel
theorem dX2_compareGrowth_98 : decode cX2_compareGrowth 98 = .ok (.istore 4, 2) := by decide +kernel
theorem dX2_compareGrowth_100 : decode cX2_compareGrowth 100 = .ok (.iinc 9 1, 3) := by decide +kernel
theorem dX2_compareGrowth_103 : decode cX2_compareGrowth 103 = .ok (.goto (-91), 3) := by decide +kernel
theorem dX2_compareGrowth_106 : decode cX2_compareGrowth 106 = .ok (.iload 4, 2) := by decide +kernel
theorem dX2_compareGrowth_108 : decode cX2_compareGrowth 108 = .ok (.ifCond .eq 7, 3) := by decide +kernel
theorem dX2_compareGrowth_111 : decode cX2_compareGrowth 111 = .ok (.iconst (-1), 1) := by decide +kernel
theorem dX2_compareGrowth_112 : decode cX2_compareGrowth 112 = .ok (.goto 4, 3) := by decide +kernel
theorem dX2_compareGrowth_115 : decode cX2_compareGrowth 115 = .ok (.iconst 0, 1) := by decide +kernel
theorem dX2_compareGrowth_116 : decode cX2_compareGrowth 116 = .ok (.ireturn, 1) := by decide +kernel
end
section
theorem dX3_init_0 : decode cX3_init 0 = .ok (.aload_n 0, 1) := by decide +kernel
theorem dX3_init_1 : decode cX3_init 1 = .ok (.invokespecial 3, 3) := by decide +kernel
theorem dX3_init_4 : decode cX3_init 4 = .ok (.aload_n 0, 1) := by decide +kernel
theorem dX3_init_5 : decode cX3_init 5 = .ok (.bipush 40, 2) := by decide +kernel
theorem dX3_init_7 : decode cX3_init 7 = .ok (.newarray .int, 2) := by decide +kernel
theorem dX3_init_9 : decode cX3_init 9 = .ok (.putfield 9, 3) := by decide +kernel
theorem dX3_init_12 : decode cX3_init 12 = .ok (.return_, 1) := by decide +kernel
theorem dX3_renew_0 : decode cX3_renew 0 = .ok (.aload_n 0, 1) := by decide +kernel
theorem dX3_renew_1 : decode cX3_renew 1 = .ok (.getfield 9, 3) := by decide +kernel
theorem dX3_renew_4 : decode cX3_renew 4 = .ok (.iconst 0, 1) := by decide +kernel
theorem dX3_renew_5 : decode cX3_renew 5 = .ok (.invokestatic 15, 3) := by decide +kernel
theorem dX3_renew_8 : decode cX3_renew 8 = .ok (.aload_n 0, 1) := by decide +kernel
theorem dX3_renew_9 : decode cX3_renew 9 = .ok (.iload_n 1, 1) := by decide +kernel
theorem dX3_renew_10 : decode cX3_renew 10 = .ok (.putfield 21, 3) := by decide +kernel
theorem dX3_renew_13 : decode cX3_renew 13 = .ok (.aload_n 0, 1) := by decide +kernel
theorem dX3_renew_14 : decode cX3_renew 14 = .ok (.iload_n 2, 1) := by decide +kernel
theorem dX3_renew_15 : decode cX3_renew 15 = .ok (.putfield 25, 3) := by decide +kernel
theorem dX3_renew_18 : decode cX3_renew 18 = .ok (.aload_n 0, 1) := by decide +kernel
theorem dX3_renew_19 : decode cX3_renew 19 = .ok (.iconst 1, 1) := by decide +kernel
theorem dX3_renew_20 : decode cX3_renew 20 = .ok (.putfield 28, 3) := by decide +kernel
theorem dX3_renew_23 : decode cX3_renew 23 = .ok (.return_, 1) := by decide +kernel
theorem dX3_drop_0 : decode cX3_drop 0 = .ok (.aload_n 0, 1) := by decide +kernel
theorem dX3_drop_1 : decode cX3_drop 1 = .ok (.getfield 28, 3) := by decide +kernel
theorem dX3_drop_4 : decode cX3_drop 4 = .ok (.istore_n 1, 1) := by decide +kernel
theorem dX3_drop_5 : decode cX3_drop 5 = .ok (.aload_n 0, 1) := by decide +kernel
theorem dX3_drop_6 : decode cX3_drop 6 = .ok (.iconst 0, 1) := by decide +kernel
theorem dX3_drop_7 : decode cX3_drop 7 = .ok (.putfield 28, 3) := by decide +kernel
theorem dX3_drop_10 : decode cX3_drop 10 = .ok (.iload_n 1, 1) := by decide +kernel
theorem dX3_drop_11 : decode cX3_drop 11 = .ok (.ireturn, 1) := by decide +kernel
theorem dX3_hasCells_0 : decode cX3_hasCells 0 = .ok (.iload_n 2, 1) := by decide +kernel
theorem dX3_hasCells_1 : decode cX3_hasCells 1 = .ok (.ifCond .eq 25, 3) := by decide +kernel
theorem dX3_hasCells_4 : decode cX3_hasCells 4 = .ok (.iload_n 1, 1) := by decide +kernel
theorem dX3_hasCells_5 : decode cX3_hasCells 5 = .ok (.ifCond .lt 25, 3) := by decide +kernel
theorem dX3_hasCells_8 : decode cX3_hasCells 8 = .ok (.iload_n 2, 1) := by decide +kernel
theorem dX3_hasCells_9 : decode cX3_hasCells 9 = .ok (.aload_n 0, 1) := by decide +kernel
theorem dX3_hasCells_10 : decode cX3_hasCells 10 = .ok (.getfield 25, 3) := by decide +kernel
theorem dX3_hasCells_13 : decode cX3_hasCells 13 = .ok (.if_icmp .gt 17, 3) := by decide +kernel
theorem dX3_hasCells_16 : decode cX3_hasCells 16 = .ok (.iload_n 1, 1) := by decide +kernel
theorem dX3_hasCells_17 : decode cX3_hasCells 17 = .ok (.aload_n 0, 1) := by decide +kernel
theorem dX3_hasCells_18 : decode cX3_hasCells 18 = .ok (.getfield 25, 3) := by decide +kernel
theorem dX3_hasCells_21 : decode cX3_hasCells 21 = .ok (.iload_n 2, 1) := by decide +kernel
theorem dX3_hasCells_22 : decode cX3_hasCells 22 = .ok (.isub, 1) := by decide +kernel
theorem dX3_hasCells_23 : decode cX3_hasCells 23 = .ok (.if_icmp .gt 7, 3) := by decide +kernel
theorem dX3_hasCells_26 : decode cX3_hasCells 26 = .ok (.iconst 1, 1) := by decide +kernel
theorem dX3_hasCells_27 : decode cX3_hasCells 27 = .ok (.goto 4, 3) := by decide +kernel
theorem dX3_hasCells_30 : decode cX3_hasCells 30 = .ok (.iconst 0, 1) := by decide +kernel
theorem dX3_hasCells_31 : decode cX3_hasCells 31 = .ok (.ireturn, 1) := by decide +kernel
theorem dX3_write_0 : decode cX3_write 0 = .ok (.aload_n 0, 1) := by decide +kernel
theorem dX3_write_1 : decode cX3_write 1 = .ok (.getfield 21, 3) := by decide +kernel
theorem dX3_write_4 : decode cX3_write 4 = .ok (.lookupswitch 50 #[(0, 28), (1, 39)], 28) := by decide +kernel
theorem dX3_write_32 : decode cX3_write 32 = .ok (.aload_n 0, 1) := by decide +kernel
theorem dX3_write_33 : decode cX3_write 33 = .ok (.getfield 9, 3) := by decide +kernel
theorem dX3_write_36 : decode cX3_write 36 = .ok (.iload_n 1, 1) := by decide +kernel
theorem dX3_write_37 : decode cX3_write 37 = .ok (.iload_n 2, 1) := by decide +kernel
theorem dX3_write_38 : decode cX3_write 38 = .ok (.i2b, 1) := by decide +kernel
theorem dX3_write_39 : decode cX3_write 39 = .ok (.iastore, 1) := by decide +kernel
theorem dX3_write_40 : decode cX3_write 40 = .ok (.goto 21, 3) := by decide +kernel
theorem dX3_write_43 : decode cX3_write 43 = .ok (.aload_n 0, 1) := by decide +kernel
theorem dX3_write_44 : decode cX3_write 44 = .ok (.getfield 9, 3) := by decide +kernel
theorem dX3_write_47 : decode cX3_write 47 = .ok (.iload_n 1, 1) := by decide +kernel
theorem dX3_write_48 : decode cX3_write 48 = .ok (.iload_n 2, 1) := by decide +kernel
theorem dX3_write_49 : decode cX3_write 49 = .ok (.i2s, 1) := by decide +kernel
theorem dX3_write_50 : decode cX3_write 50 = .ok (.iastore, 1) := by decide +kernel
theorem dX3_write_51 : decode cX3_write 51 = .ok (.goto 10, 3) := by decide +kernel
theorem dX3_write_54 : decode cX3_write 54 = .ok (.aload_n 0, 1) := by decide +kernel
theorem dX3_write_55 : decode cX3_write 55 = .ok (.getfield 9, 3) := by decide +kernel
theorem dX3_write_58 : decode cX3_write 58 = .ok (.iload_n 1, 1) := by decide +kernel
theorem dX3_write_59 : decode cX3_write 59 = .ok (.iload_n 2, 1) := by decide +kernel
theorem dX3_write_60 : decode cX3_write 60 = .ok (.iastore, 1) := by decide +kernel
theorem dX3_write_61 : decode cX3_write 61 = .ok (.return_, 1) := by decide +kernel
end
section
theorem dX4_init_0 : decode cX4_init 0 = .ok (.aload_n 0, 1) := by decide +kernel
theorem dX4_init_1 : decode cX4_init 1 = .ok (.iload_n 1, 1) := by decide +kernel
theorem dX4_init_2 : decode cX4_init 2 = .ok (.iload_n 2, 1) := by decide +kernel
theorem dX4_init_3 : decode cX4_init 3 = .ok (.aload_n 3, 1) := by decide +kernel
theorem dX4_init_4 : decode cX4_init 4 = .ok (.invokespecial 1, 3) := by decide +kernel
theorem dX4_init_7 : decode cX4_init 7 = .ok (.return_, 1) := by decide +kernel
theorem dX4_telling_0 : decode cX4_telling 0 = .ok (.aload_n 1, 1) := by decide +kernel
theorem dX4_telling_1 : decode cX4_telling 1 = .ok (.iconst 3, 1) := by decide +kernel
theorem dX4_telling_2 : decode cX4_telling 2 = .ok (.invokevirtual 7, 3) := by decide +kernel
theorem dX4_telling_5 : decode cX4_telling 5 = .ok (.aload_n 0, 1) := by decide +kernel
theorem dX4_telling_6 : decode cX4_telling 6 = .ok (.aload_n 1, 1) := by decide +kernel
theorem dX4_telling_7 : decode cX4_telling 7 = .ok (.invokespecial 13, 3) := by decide +kernel
theorem dX4_telling_10 : decode cX4_telling 10 = .ok (.istore_n 2, 1) := by decide +kernel
theorem dX4_telling_11 : decode cX4_telling 11 = .ok (.iload_n 2, 1) := by decide +kernel
theorem dX4_telling_12 : decode cX4_telling 12 = .ok (.aload_n 0, 1) := by decide +kernel
theorem dX4_telling_13 : decode cX4_telling 13 = .ok (.aload_n 1, 1) := by decide +kernel
theorem dX4_telling_14 : decode cX4_telling 14 = .ok (.invokevirtual 17, 3) := by decide +kernel
theorem dX4_telling_17 : decode cX4_telling 17 = .ok (.iadd, 1) := by decide +kernel
theorem dX4_telling_18 : decode cX4_telling 18 = .ok (.ireturn, 1) := by decide +kernel
theorem dX4_weight_0 : decode cX4_weight 0 = .ok (.aload_n 1, 1) := by decide +kernel
theorem dX4_weight_1 : decode cX4_weight 1 = .ok (.iconst 5, 1) := by decide +kernel
theorem dX4_weight_2 : decode cX4_weight 2 = .ok (.invokevirtual 7, 3) := by decide +kernel
theorem dX4_weight_5 : decode cX4_weight 5 = .ok (.bipush 60, 2) := by decide +kernel
theorem dX4_weight_7 : decode cX4_weight 7 = .ok (.ireturn, 1) := by decide +kernel
theorem dX4_isOfKind_0 : decode cX4_isOfKind 0 = .ok (.iload_n 1, 1) := by decide +kernel
theorem dX4_isOfKind_1 : decode cX4_isOfKind 1 = .ok (.iconst 2, 1) := by decide +kernel
theorem dX4_isOfKind_2 : decode cX4_isOfKind 2 = .ok (.if_icmp .eq 11, 3) := by decide +kernel
theorem dX4_isOfKind_5 : decode cX4_isOfKind 5 = .ok (.aload_n 0, 1) := by decide +kernel
theorem dX4_isOfKind_6 : decode cX4_isOfKind 6 = .ok (.iload_n 1, 1) := by decide +kernel
theorem dX4_isOfKind_7 : decode cX4_isOfKind 7 = .ok (.invokespecial 22, 3) := by decide +kernel
theorem dX4_isOfKind_10 : decode cX4_isOfKind 10 = .ok (.ifCond .eq 7, 3) := by decide +kernel
theorem dX4_isOfKind_13 : decode cX4_isOfKind 13 = .ok (.iconst 1, 1) := by decide +kernel
theorem dX4_isOfKind_14 : decode cX4_isOfKind 14 = .ok (.goto 4, 3) := by decide +kernel
theorem dX4_isOfKind_17 : decode cX4_isOfKind 17 = .ok (.iconst 0, 1) := by decide +kernel
theorem dX4_isOfKind_18 : decode cX4_isOfKind 18 = .ok (.ireturn, 1) := by decide +kernel
end
section
theorem dX5_repeats_0 : decode cX5_repeats 0 = .ok (.iconst 1, 1) := by decide +kernel
theorem dX5_repeats_1 : decode cX5_repeats 1 = .ok (.istore_n 2, 1) := by decide +kernel
theorem dX5_repeats_2 : decode cX5_repeats 2 = .ok (.iload_n 2, 1) := by decide +kernel
theorem dX5_repeats_3 : decode cX5_repeats 3 = .ok (.iload_n 1, 1) := by decide +kernel
theorem dX5_repeats_4 : decode cX5_repeats 4 = .ok (.if_icmp .ge 28, 3) := by decide +kernel
theorem dX5_repeats_7 : decode cX5_repeats 7 = .ok (.iload_n 1, 1) := by decide +kernel
theorem dX5_repeats_8 : decode cX5_repeats 8 = .ok (.iload_n 2, 1) := by decide +kernel
theorem dX5_repeats_9 : decode cX5_repeats 9 = .ok (.irem, 1) := by decide +kernel
theorem dX5_repeats_10 : decode cX5_repeats 10 = .ok (.ifCond .ne 16, 3) := by decide +kernel
theorem dX5_repeats_13 : decode cX5_repeats 13 = .ok (.aload_n 0, 1) := by decide +kernel
theorem dX5_repeats_14 : decode cX5_repeats 14 = .ok (.iload_n 1, 1) := by decide +kernel
theorem dX5_repeats_15 : decode cX5_repeats 15 = .ok (.iload_n 2, 1) := by decide +kernel
theorem dX5_repeats_16 : decode cX5_repeats 16 = .ok (.invokestatic 7, 3) := by decide +kernel
theorem dX5_repeats_19 : decode cX5_repeats 19 = .ok (.ifCond .eq 7, 3) := by decide +kernel
theorem dX5_repeats_22 : decode cX5_repeats 22 = .ok (.iload_n 1, 1) := by decide +kernel
theorem dX5_repeats_23 : decode cX5_repeats 23 = .ok (.iload_n 2, 1) := by decide +kernel
theorem dX5_repeats_24 : decode cX5_repeats 24 = .ok (.idiv, 1) := by decide +kernel
theorem dX5_repeats_25 : decode cX5_repeats 25 = .ok (.ireturn, 1) := by decide +kernel
theorem dX5_repeats_26 : decode cX5_repeats 26 = .ok (.iinc 2 1, 3) := by decide +kernel
theorem dX5_repeats_29 : decode cX5_repeats 29 = .ok (.goto (-27), 3) := by decide +kernel
theorem dX5_repeats_32 : decode cX5_repeats 32 = .ok (.iconst 1, 1) := by decide +kernel
theorem dX5_repeats_33 : decode cX5_repeats 33 = .ok (.ireturn, 1) := by decide +kernel
theorem dX5_hasPeriod_0 : decode cX5_hasPeriod 0 = .ok (.iload_n 2, 1) := by decide +kernel
theorem dX5_hasPeriod_1 : decode cX5_hasPeriod 1 = .ok (.istore_n 3, 1) := by decide +kernel
theorem dX5_hasPeriod_2 : decode cX5_hasPeriod 2 = .ok (.iload_n 3, 1) := by decide +kernel
theorem dX5_hasPeriod_3 : decode cX5_hasPeriod 3 = .ok (.iload_n 1, 1) := by decide +kernel
theorem dX5_hasPeriod_4 : decode cX5_hasPeriod 4 = .ok (.if_icmp .ge 22, 3) := by decide +kernel
theorem dX5_hasPeriod_7 : decode cX5_hasPeriod 7 = .ok (.aload_n 0, 1) := by decide +kernel
theorem dX5_hasPeriod_8 : decode cX5_hasPeriod 8 = .ok (.iload_n 3, 1) := by decide +kernel
theorem dX5_hasPeriod_9 : decode cX5_hasPeriod 9 = .ok (.iaload, 1) := by decide +kernel
theorem dX5_hasPeriod_10 : decode cX5_hasPeriod 10 = .ok (.aload_n 0, 1) := by decide +kernel
theorem dX5_hasPeriod_11 : decode cX5_hasPeriod 11 = .ok (.iload_n 3, 1) := by decide +kernel
theorem dX5_hasPeriod_12 : decode cX5_hasPeriod 12 = .ok (.iload_n 2, 1) := by decide +kernel
theorem dX5_hasPeriod_13 : decode cX5_hasPeriod 13 = .ok (.isub, 1) := by decide +kernel
theorem dX5_hasPeriod_14 : decode cX5_hasPeriod 14 = .ok (.iaload, 1) := by decide +kernel
theorem dX5_hasPeriod_15 : decode cX5_hasPeriod 15 = .ok (.if_icmp .eq 5, 3) := by decide +kernel
theorem dX5_hasPeriod_18 : decode cX5_hasPeriod 18 = .ok (.iconst 0, 1) := by decide +kernel
theorem dX5_hasPeriod_19 : decode cX5_hasPeriod 19 = .ok (.ireturn, 1) := by decide +kernel
theorem dX5_hasPeriod_20 : decode cX5_hasPeriod 20 = .ok (.iinc 3 1, 3) := by decide +kernel
theorem dX5_hasPeriod_23 : decode cX5_hasPeriod 23 = .ok (.goto (-21), 3) := by decide +kernel
theorem dX5_hasPeriod_26 : decode cX5_hasPeriod 26 = .ok (.iconst 1, 1) := by decide +kernel
theorem dX5_hasPeriod_27 : decode cX5_hasPeriod 27 = .ok (.ireturn, 1) := by decide +kernel
theorem dX5_isAheadOfItsTurns_0 : decode cX5_isAheadOfItsTurns 0 = .ok (.iconst 1, 1) := by decide +kernel
theorem dX5_isAheadOfItsTurns_1 : decode cX5_isAheadOfItsTurns 1 = .ok (.istore_n 2, 1) := by decide +kernel
theorem dX5_isAheadOfItsTurns_2 : decode cX5_isAheadOfItsTurns 2 = .ok (.iload_n 2, 1) := by decide +kernel
theorem dX5_isAheadOfItsTurns_3 : decode cX5_isAheadOfItsTurns 3 = .ok (.iload_n 1, 1) := by decide +kernel
theorem dX5_isAheadOfItsTurns_4 : decode cX5_isAheadOfItsTurns 4 = .ok (.if_icmp .ge 20, 3) := by decide +kernel
theorem dX5_isAheadOfItsTurns_7 : decode cX5_isAheadOfItsTurns 7 = .ok (.aload_n 0, 1) := by decide +kernel
theorem dX5_isAheadOfItsTurns_8 : decode cX5_isAheadOfItsTurns 8 = .ok (.iload_n 1, 1) := by decide +kernel
theorem dX5_isAheadOfItsTurns_9 : decode cX5_isAheadOfItsTurns 9 = .ok (.iload_n 2, 1) := by decide +kernel
theorem dX5_isAheadOfItsTurns_10 : decode cX5_isAheadOfItsTurns 10 = .ok (.invokestatic 13, 3) := by decide +kernel
theorem dX5_isAheadOfItsTurns_13 : decode cX5_isAheadOfItsTurns 13 = .ok (.ifCond .ne 5, 3) := by decide +kernel
theorem dX5_isAheadOfItsTurns_16 : decode cX5_isAheadOfItsTurns 16 = .ok (.iconst 0, 1) := by decide +kernel
theorem dX5_isAheadOfItsTurns_17 : decode cX5_isAheadOfItsTurns 17 = .ok (.ireturn, 1) := by decide +kernel
theorem dX5_isAheadOfItsTurns_18 : decode cX5_isAheadOfItsTurns 18 = .ok (.iinc 2 1, 3) := by decide +kernel
theorem dX5_isAheadOfItsTurns_21 : decode cX5_isAheadOfItsTurns 21 = .ok (.goto (-19), 3) := by decide +kernel
theorem dX5_isAheadOfItsTurns_24 : decode cX5_isAheadOfItsTurns 24 = .ok (.iconst 1, 1) := by decide +kernel
theorem dX5_isAheadOfItsTurns_25 : decode cX5_isAheadOfItsTurns 25 = .ok (.ireturn, 1) := by decide +kernel
theorem dX5_isAheadOfTurn_0 : decode cX5_isAheadOfTurn 0 = .ok (.iconst 0, 1) := by decide +kernel
theorem dX5_isAheadOfTurn_1 : decode cX5_isAheadOfTurn 1 = .ok (.istore_n 3, 1) := by decide +kernel
theorem dX5_isAheadOfTurn_2 : decode cX5_isAheadOfTurn 2 = .ok (.iload_n 3, 1) := by decide +kernel
theorem dX5_isAheadOfTurn_3 : decode cX5_isAheadOfTurn 3 = .ok (.iload_n 1, 1) := by decide +kernel
theorem dX5_isAheadOfTurn_4 : decode cX5_isAheadOfTurn 4 = .ok (.if_icmp .ge 40, 3) := by decide +kernel
theorem dX5_isAheadOfTurn_7 : decode cX5_isAheadOfTurn 7 = .ok (.aload_n 0, 1) := by decide +kernel
theorem dX5_isAheadOfTurn_8 : decode cX5_isAheadOfTurn 8 = .ok (.iload_n 3, 1) := by decide +kernel
theorem dX5_isAheadOfTurn_9 : decode cX5_isAheadOfTurn 9 = .ok (.iload_n 2, 1) := by decide +kernel
theorem dX5_isAheadOfTurn_10 : decode cX5_isAheadOfTurn 10 = .ok (.iadd, 1) := by decide +kernel
theorem dX5_isAheadOfTurn_11 : decode cX5_isAheadOfTurn 11 = .ok (.iload_n 1, 1) := by decide +kernel
theorem dX5_isAheadOfTurn_12 : decode cX5_isAheadOfTurn 12 = .ok (.irem, 1) := by decide +kernel
theorem dX5_isAheadOfTurn_13 : decode cX5_isAheadOfTurn 13 = .ok (.iaload, 1) := by decide +kernel
theorem dX5_isAheadOfTurn_14 : decode cX5_isAheadOfTurn 14 = .ok (.istore 4, 2) := by decide +kernel
theorem dX5_isAheadOfTurn_16 : decode cX5_isAheadOfTurn 16 = .ok (.aload_n 0, 1) := by decide +kernel
theorem dX5_isAheadOfTurn_17 : decode cX5_isAheadOfTurn 17 = .ok (.iload_n 3, 1) := by decide +kernel
theorem dX5_isAheadOfTurn_18 : decode cX5_isAheadOfTurn 18 = .ok (.iaload, 1) := by decide +kernel
theorem dX5_isAheadOfTurn_19 : decode cX5_isAheadOfTurn 19 = .ok (.iload 4, 2) := by decide +kernel
theorem dX5_isAheadOfTurn_21 : decode cX5_isAheadOfTurn 21 = .ok (.if_icmp .eq 17, 3) := by decide +kernel
theorem dX5_isAheadOfTurn_24 : decode cX5_isAheadOfTurn 24 = .ok (.aload_n 0, 1) := by decide +kernel
theorem dX5_isAheadOfTurn_25 : decode cX5_isAheadOfTurn 25 = .ok (.iload_n 3, 1) := by decide +kernel
theorem dX5_isAheadOfTurn_26 : decode cX5_isAheadOfTurn 26 = .ok (.iaload, 1) := by decide +kernel
theorem dX5_isAheadOfTurn_27 : decode cX5_isAheadOfTurn 27 = .ok (.iload 4, 2) := by decide +kernel
theorem dX5_isAheadOfTurn_29 : decode cX5_isAheadOfTurn 29 = .ok (.if_icmp .ge 7, 3) := by decide +kernel
theorem dX5_isAheadOfTurn_32 : decode cX5_isAheadOfTurn 32 = .ok (.iconst 1, 1) := by decide +kernel
theorem dX5_isAheadOfTurn_33 : decode cX5_isAheadOfTurn 33 = .ok (.goto 4, 3) := by decide +kernel
theorem dX5_isAheadOfTurn_36 : decode cX5_isAheadOfTurn 36 = .ok (.iconst 0, 1) := by decide +kernel
theorem dX5_isAheadOfTurn_37 : decode cX5_isAheadOfTurn 37 = .ok (.ireturn, 1) := by decide +kernel
theorem dX5_isAheadOfTurn_38 : decode cX5_isAheadOfTurn 38 = .ok (.iinc 3 1, 3) := by decide +kernel
theorem dX5_isAheadOfTurn_41 : decode cX5_isAheadOfTurn 41 = .ok (.goto (-39), 3) := by decide +kernel
theorem dX5_isAheadOfTurn_44 : decode cX5_isAheadOfTurn 44 = .ok (.iconst 0, 1) := by decide +kernel
theorem dX5_isAheadOfTurn_45 : decode cX5_isAheadOfTurn 45 = .ok (.ireturn, 1) := by decide +kernel
end
section
theorem dX6_init_0 : decode cX6_init 0 = .ok (.aload_n 0, 1) := by decide +kernel
theorem dX6_init_1 : decode cX6_init 1 = .ok (.invokespecial 3, 3) := by decide +kernel
theorem dX6_init_4 : decode cX6_init 4 = .ok (.aload_n 0, 1) := by decide +kernel
theorem dX6_init_5 : decode cX6_init 5 = .ok (.bipush 8, 2) := by decide +kernel
theorem dX6_init_7 : decode cX6_init 7 = .ok (.newarray .int, 2) := by decide +kernel
theorem dX6_init_9 : decode cX6_init 9 = .ok (.putfield 9, 3) := by decide +kernel
theorem dX6_init_12 : decode cX6_init 12 = .ok (.aload_n 0, 1) := by decide +kernel
theorem dX6_init_13 : decode cX6_init 13 = .ok (.bipush 8, 2) := by decide +kernel
theorem dX6_init_15 : decode cX6_init 15 = .ok (.newarray .int, 2) := by decide +kernel
theorem dX6_init_17 : decode cX6_init 17 = .ok (.putfield 15, 3) := by decide +kernel
theorem dX6_init_20 : decode cX6_init 20 = .ok (.aload_n 0, 1) := by decide +kernel
theorem dX6_init_21 : decode cX6_init 21 = .ok (.bipush 8, 2) := by decide +kernel
theorem dX6_init_23 : decode cX6_init 23 = .ok (.newarray .int, 2) := by decide +kernel
theorem dX6_init_25 : decode cX6_init 25 = .ok (.putfield 18, 3) := by decide +kernel
theorem dX6_init_28 : decode cX6_init 28 = .ok (.return_, 1) := by decide +kernel
theorem dX6_restart_0 : decode cX6_restart 0 = .ok (.aload_n 0, 1) := by decide +kernel
theorem dX6_restart_1 : decode cX6_restart 1 = .ok (.iconst 0, 1) := by decide +kernel
theorem dX6_restart_2 : decode cX6_restart 2 = .ok (.putfield 21, 3) := by decide +kernel
theorem dX6_restart_5 : decode cX6_restart 5 = .ok (.aload_n 0, 1) := by decide +kernel
theorem dX6_restart_6 : decode cX6_restart 6 = .ok (.iconst 0, 1) := by decide +kernel
theorem dX6_restart_7 : decode cX6_restart 7 = .ok (.putfield 25, 3) := by decide +kernel
theorem dX6_restart_10 : decode cX6_restart 10 = .ok (.aload_n 0, 1) := by decide +kernel
theorem dX6_restart_11 : decode cX6_restart 11 = .ok (.iconst 0, 1) := by decide +kernel
theorem dX6_restart_12 : decode cX6_restart 12 = .ok (.putfield 29, 3) := by decide +kernel
theorem dX6_restart_15 : decode cX6_restart 15 = .ok (.aload_n 0, 1) := by decide +kernel
theorem dX6_restart_16 : decode cX6_restart 16 = .ok (.ldc2_w 32, 3) := by decide +kernel
theorem dX6_restart_19 : decode cX6_restart 19 = .ok (.putfield 34, 3) := by decide +kernel
theorem dX6_restart_22 : decode cX6_restart 22 = .ok (.aload_n 0, 1) := by decide +kernel
theorem dX6_restart_23 : decode cX6_restart 23 = .ok (.ldc2_w 40, 3) := by decide +kernel
theorem dX6_restart_26 : decode cX6_restart 26 = .ok (.putfield 42, 3) := by decide +kernel
theorem dX6_restart_29 : decode cX6_restart 29 = .ok (.aload_n 0, 1) := by decide +kernel
theorem dX6_restart_30 : decode cX6_restart 30 = .ok (.lconst 0, 1) := by decide +kernel
theorem dX6_restart_31 : decode cX6_restart 31 = .ok (.putfield 45, 3) := by decide +kernel
theorem dX6_restart_34 : decode cX6_restart 34 = .ok (.aload_n 0, 1) := by decide +kernel
theorem dX6_restart_35 : decode cX6_restart 35 = .ok (.ldc2_w 32, 3) := by decide +kernel
theorem dX6_restart_38 : decode cX6_restart 38 = .ok (.putfield 48, 3) := by decide +kernel
theorem dX6_restart_41 : decode cX6_restart 41 = .ok (.return_, 1) := by decide +kernel
theorem dX6_noteNorm_0 : decode cX6_noteNorm 0 = .ok (.lload_n 3, 1) := by decide +kernel
theorem dX6_noteNorm_1 : decode cX6_noteNorm 1 = .ok (.lconst 0, 1) := by decide +kernel
theorem dX6_noteNorm_2 : decode cX6_noteNorm 2 = .ok (.lcmp, 1) := by decide +kernel
theorem dX6_noteNorm_3 : decode cX6_noteNorm 3 = .ok (.ifCond .ne 13, 3) := by decide +kernel
theorem dX6_noteNorm_6 : decode cX6_noteNorm 6 = .ok (.aload_n 0, 1) := by decide +kernel
theorem dX6_noteNorm_7 : decode cX6_noteNorm 7 = .ok (.dup, 1) := by decide +kernel
theorem dX6_noteNorm_8 : decode cX6_noteNorm 8 = .ok (.getfield 25, 3) := by decide +kernel
theorem dX6_noteNorm_11 : decode cX6_noteNorm 11 = .ok (.iconst 1, 1) := by decide +kernel
theorem dX6_noteNorm_12 : decode cX6_noteNorm 12 = .ok (.iadd, 1) := by decide +kernel
theorem dX6_noteNorm_13 : decode cX6_noteNorm 13 = .ok (.putfield 25, 3) := by decide +kernel
theorem dX6_noteNorm_16 : decode cX6_noteNorm 16 = .ok (.lload_n 3, 1) := by decide +kernel
theorem dX6_noteNorm_17 : decode cX6_noteNorm 17 = .ok (.aload_n 0, 1) := by decide +kernel
theorem dX6_noteNorm_18 : decode cX6_noteNorm 18 = .ok (.getfield 34, 3) := by decide +kernel
theorem dX6_noteNorm_21 : decode cX6_noteNorm 21 = .ok (.lcmp, 1) := by decide +kernel
theorem dX6_noteNorm_22 : decode cX6_noteNorm 22 = .ok (.ifCond .le 19, 3) := by decide +kernel
theorem dX6_noteNorm_25 : decode cX6_noteNorm 25 = .ok (.aload_n 0, 1) := by decide +kernel
theorem dX6_noteNorm_26 : decode cX6_noteNorm 26 = .ok (.lload_n 3, 1) := by decide +kernel
theorem dX6_noteNorm_27 : decode cX6_noteNorm 27 = .ok (.putfield 34, 3) := by decide +kernel
theorem dX6_noteNorm_30 : decode cX6_noteNorm 30 = .ok (.aload_n 1, 1) := by decide +kernel
theorem dX6_noteNorm_31 : decode cX6_noteNorm 31 = .ok (.iconst 0, 1) := by decide +kernel
theorem dX6_noteNorm_32 : decode cX6_noteNorm 32 = .ok (.aload_n 0, 1) := by decide +kernel
theorem dX6_noteNorm_33 : decode cX6_noteNorm 33 = .ok (.getfield 9, 3) := by decide +kernel
theorem dX6_noteNorm_36 : decode cX6_noteNorm 36 = .ok (.iconst 0, 1) := by decide +kernel
theorem dX6_noteNorm_37 : decode cX6_noteNorm 37 = .ok (.iload_n 2, 1) := by decide +kernel
theorem dX6_noteNorm_38 : decode cX6_noteNorm 38 = .ok (.invokestatic 51, 3) := by decide +kernel
theorem dX6_noteNorm_41 : decode cX6_noteNorm 41 = .ok (.lload_n 3, 1) := by decide +kernel
theorem dX6_noteNorm_42 : decode cX6_noteNorm 42 = .ok (.aload_n 0, 1) := by decide +kernel
theorem dX6_noteNorm_43 : decode cX6_noteNorm 43 = .ok (.getfield 42, 3) := by decide +kernel
theorem dX6_noteNorm_46 : decode cX6_noteNorm 46 = .ok (.lcmp, 1) := by decide +kernel
theorem dX6_noteNorm_47 : decode cX6_noteNorm 47 = .ok (.ifCond .ge 19, 3) := by decide +kernel
theorem dX6_noteNorm_50 : decode cX6_noteNorm 50 = .ok (.aload_n 0, 1) := by decide +kernel
theorem dX6_noteNorm_51 : decode cX6_noteNorm 51 = .ok (.lload_n 3, 1) := by decide +kernel
theorem dX6_noteNorm_52 : decode cX6_noteNorm 52 = .ok (.putfield 42, 3) := by decide +kernel
theorem dX6_noteNorm_55 : decode cX6_noteNorm 55 = .ok (.aload_n 1, 1) := by decide +kernel
theorem dX6_noteNorm_56 : decode cX6_noteNorm 56 = .ok (.iconst 0, 1) := by decide +kernel
theorem dX6_noteNorm_57 : decode cX6_noteNorm 57 = .ok (.aload_n 0, 1) := by decide +kernel
theorem dX6_noteNorm_58 : decode cX6_noteNorm 58 = .ok (.getfield 15, 3) := by decide +kernel
theorem dX6_noteNorm_61 : decode cX6_noteNorm 61 = .ok (.iconst 0, 1) := by decide +kernel
theorem dX6_noteNorm_62 : decode cX6_noteNorm 62 = .ok (.iload_n 2, 1) := by decide +kernel
theorem dX6_noteNorm_63 : decode cX6_noteNorm 63 = .ok (.invokestatic 51, 3) := by decide +kernel
theorem dX6_noteNorm_66 : decode cX6_noteNorm 66 = .ok (.return_, 1) := by decide +kernel
theorem dX6_noteTurnable_0 : decode cX6_noteTurnable 0 = .ok (.aload_n 0, 1) := by decide +kernel
theorem dX6_noteTurnable_1 : decode cX6_noteTurnable 1 = .ok (.aload_n 0, 1) := by decide +kernel
theorem dX6_noteTurnable_2 : decode cX6_noteTurnable 2 = .ok (.getfield 48, 3) := by decide +kernel
theorem dX6_noteTurnable_5 : decode cX6_noteTurnable 5 = .ok (.lload_n 1, 1) := by decide +kernel
theorem dX6_noteTurnable_6 : decode cX6_noteTurnable 6 = .ok (.invokestatic 57, 3) := by decide +kernel
theorem dX6_noteTurnable_9 : decode cX6_noteTurnable 9 = .ok (.invokestatic 63, 3) := by decide +kernel
theorem dX6_noteTurnable_12 : decode cX6_noteTurnable 12 = .ok (.putfield 48, 3) := by decide +kernel
theorem dX6_noteTurnable_15 : decode cX6_noteTurnable 15 = .ok (.return_, 1) := by decide +kernel
theorem dX6_noteRing_0 : decode cX6_noteRing 0 = .ok (.aload_n 0, 1) := by decide +kernel
theorem dX6_noteRing_1 : decode cX6_noteRing 1 = .ok (.dup, 1) := by decide +kernel
theorem dX6_noteRing_2 : decode cX6_noteRing 2 = .ok (.getfield 29, 3) := by decide +kernel
theorem dX6_noteRing_5 : decode cX6_noteRing 5 = .ok (.iconst 1, 1) := by decide +kernel
theorem dX6_noteRing_6 : decode cX6_noteRing 6 = .ok (.iadd, 1) := by decide +kernel
theorem dX6_noteRing_7 : decode cX6_noteRing 7 = .ok (.putfield 29, 3) := by decide +kernel
theorem dX6_noteRing_10 : decode cX6_noteRing 10 = .ok (.aload_n 0, 1) := by decide +kernel
theorem dX6_noteRing_11 : decode cX6_noteRing 11 = .ok (.getfield 29, 3) := by decide +kernel
theorem dX6_noteRing_14 : decode cX6_noteRing 14 = .ok (.iconst 1, 1) := by decide +kernel
theorem dX6_noteRing_15 : decode cX6_noteRing 15 = .ok (.if_icmp .eq 18, 3) := by decide +kernel
theorem dX6_noteRing_18 : decode cX6_noteRing 18 = .ok (.lload_n 3, 1) := by decide +kernel
theorem dX6_noteRing_19 : decode cX6_noteRing 19 = .ok (.invokestatic 57, 3) := by decide +kernel
theorem dX6_noteRing_22 : decode cX6_noteRing 22 = .ok (.aload_n 0, 1) := by decide +kernel
theorem dX6_noteRing_23 : decode cX6_noteRing 23 = .ok (.getfield 45, 3) := by decide +kernel
theorem dX6_noteRing_26 : decode cX6_noteRing 26 = .ok (.invokestatic 57, 3) := by decide +kernel
theorem dX6_noteRing_29 : decode cX6_noteRing 29 = .ok (.lcmp, 1) := by decide +kernel
theorem dX6_noteRing_30 : decode cX6_noteRing 30 = .ok (.ifCond .le 19, 3) := by decide +kernel
theorem dX6_noteRing_33 : decode cX6_noteRing 33 = .ok (.aload_n 0, 1) := by decide +kernel
theorem dX6_noteRing_34 : decode cX6_noteRing 34 = .ok (.lload_n 3, 1) := by decide +kernel
theorem dX6_noteRing_35 : decode cX6_noteRing 35 = .ok (.putfield 45, 3) := by decide +kernel
theorem dX6_noteRing_38 : decode cX6_noteRing 38 = .ok (.aload_n 1, 1) := by decide +kernel
theorem dX6_noteRing_39 : decode cX6_noteRing 39 = .ok (.iconst 0, 1) := by decide +kernel
theorem dX6_noteRing_40 : decode cX6_noteRing 40 = .ok (.aload_n 0, 1) := by decide +kernel
theorem dX6_noteRing_41 : decode cX6_noteRing 41 = .ok (.getfield 18, 3) := by decide +kernel
theorem dX6_noteRing_44 : decode cX6_noteRing 44 = .ok (.iconst 0, 1) := by decide +kernel
theorem dX6_noteRing_45 : decode cX6_noteRing 45 = .ok (.iload_n 2, 1) := by decide +kernel
theorem dX6_noteRing_46 : decode cX6_noteRing 46 = .ok (.invokestatic 51, 3) := by decide +kernel
theorem dX6_noteRing_49 : decode cX6_noteRing 49 = .ok (.return_, 1) := by decide +kernel
end
section
theorem dX7_init_0 : decode cX7_init 0 = .ok (.aload_n 0, 1) := by decide +kernel
theorem dX7_init_1 : decode cX7_init 1 = .ok (.invokespecial 1, 3) := by decide +kernel
theorem dX7_init_4 : decode cX7_init 4 = .ok (.aload_n 0, 1) := by decide +kernel
theorem dX7_init_5 : decode cX7_init 5 = .ok (.iload_n 1, 1) := by decide +kernel
theorem dX7_init_6 : decode cX7_init 6 = .ok (.putfield 7, 3) := by decide +kernel
theorem dX7_init_9 : decode cX7_init 9 = .ok (.aload_n 0, 1) := by decide +kernel
theorem dX7_init_10 : decode cX7_init 10 = .ok (.iload_n 2, 1) := by decide +kernel
theorem dX7_init_11 : decode cX7_init 11 = .ok (.putfield 13, 3) := by decide +kernel
theorem dX7_init_14 : decode cX7_init 14 = .ok (.aload_n 0, 1) := by decide +kernel
theorem dX7_init_15 : decode cX7_init 15 = .ok (.aload_n 3, 1) := by decide +kernel
theorem dX7_init_16 : decode cX7_init 16 = .ok (.putfield 16, 3) := by decide +kernel
theorem dX7_init_19 : decode cX7_init 19 = .ok (.return_, 1) := by decide +kernel
theorem dX7_telling_0 : decode cX7_telling 0 = .ok (.aload_n 0, 1) := by decide +kernel
theorem dX7_telling_1 : decode cX7_telling 1 = .ok (.aload_n 1, 1) := by decide +kernel
theorem dX7_telling_2 : decode cX7_telling 2 = .ok (.invokevirtual 20, 3) := by decide +kernel
theorem dX7_telling_5 : decode cX7_telling 5 = .ok (.ireturn, 1) := by decide +kernel
theorem dX7_plainTelling_0 : decode cX7_plainTelling 0 = .ok (.aload_n 1, 1) := by decide +kernel
theorem dX7_plainTelling_1 : decode cX7_plainTelling 1 = .ok (.iconst 1, 1) := by decide +kernel
theorem dX7_plainTelling_2 : decode cX7_plainTelling 2 = .ok (.invokevirtual 24, 3) := by decide +kernel
theorem dX7_plainTelling_5 : decode cX7_plainTelling 5 = .ok (.iconst 0, 1) := by decide +kernel
theorem dX7_plainTelling_6 : decode cX7_plainTelling 6 = .ok (.istore_n 2, 1) := by decide +kernel
theorem dX7_plainTelling_7 : decode cX7_plainTelling 7 = .ok (.iconst 0, 1) := by decide +kernel
theorem dX7_plainTelling_8 : decode cX7_plainTelling 8 = .ok (.istore_n 3, 1) := by decide +kernel
theorem dX7_plainTelling_9 : decode cX7_plainTelling 9 = .ok (.iload_n 3, 1) := by decide +kernel
theorem dX7_plainTelling_10 : decode cX7_plainTelling 10 = .ok (.aload_n 0, 1) := by decide +kernel
theorem dX7_plainTelling_11 : decode cX7_plainTelling 11 = .ok (.getfield 13, 3) := by decide +kernel
theorem dX7_plainTelling_14 : decode cX7_plainTelling 14 = .ok (.if_icmp .ge 25, 3) := by decide +kernel
theorem dX7_plainTelling_17 : decode cX7_plainTelling 17 = .ok (.iload_n 2, 1) := by decide +kernel
theorem dX7_plainTelling_18 : decode cX7_plainTelling 18 = .ok (.aload_n 0, 1) := by decide +kernel
theorem dX7_plainTelling_19 : decode cX7_plainTelling 19 = .ok (.getfield 16, 3) := by decide +kernel
theorem dX7_plainTelling_22 : decode cX7_plainTelling 22 = .ok (.iload_n 3, 1) := by decide +kernel
theorem dX7_plainTelling_23 : decode cX7_plainTelling 23 = .ok (.aload_n 0, 1) := by decide +kernel
theorem dX7_plainTelling_24 : decode cX7_plainTelling 24 = .ok (.getfield 13, 3) := by decide +kernel
theorem dX7_plainTelling_27 : decode cX7_plainTelling 27 = .ok (.imul, 1) := by decide +kernel
theorem dX7_plainTelling_28 : decode cX7_plainTelling 28 = .ok (.iload_n 3, 1) := by decide +kernel
theorem dX7_plainTelling_29 : decode cX7_plainTelling 29 = .ok (.iadd, 1) := by decide +kernel
theorem dX7_plainTelling_30 : decode cX7_plainTelling 30 = .ok (.iaload, 1) := by decide +kernel
theorem dX7_plainTelling_31 : decode cX7_plainTelling 31 = .ok (.iadd, 1) := by decide +kernel
theorem dX7_plainTelling_32 : decode cX7_plainTelling 32 = .ok (.istore_n 2, 1) := by decide +kernel
theorem dX7_plainTelling_33 : decode cX7_plainTelling 33 = .ok (.iinc 3 1, 3) := by decide +kernel
theorem dX7_plainTelling_36 : decode cX7_plainTelling 36 = .ok (.goto (-27), 3) := by decide +kernel
theorem dX7_plainTelling_39 : decode cX7_plainTelling 39 = .ok (.iload_n 2, 1) := by decide +kernel
theorem dX7_plainTelling_40 : decode cX7_plainTelling 40 = .ok (.ireturn, 1) := by decide +kernel
theorem dX7_weight_0 : decode cX7_weight 0 = .ok (.aload_n 1, 1) := by decide +kernel
theorem dX7_weight_1 : decode cX7_weight 1 = .ok (.iconst 4, 1) := by decide +kernel
theorem dX7_weight_2 : decode cX7_weight 2 = .ok (.invokevirtual 24, 3) := by decide +kernel
theorem dX7_weight_5 : decode cX7_weight 5 = .ok (.aload_n 0, 1) := by decide +kernel
theorem dX7_weight_6 : decode cX7_weight 6 = .ok (.getfield 7, 3) := by decide +kernel
theorem dX7_weight_9 : decode cX7_weight 9 = .ok (.ireturn, 1) := by decide +kernel
theorem dX7_isOfKind_0 : decode cX7_isOfKind 0 = .ok (.iload_n 1, 1) := by decide +kernel
theorem dX7_isOfKind_1 : decode cX7_isOfKind 1 = .ok (.ifCond .ne 7, 3) := by decide +kernel
theorem dX7_isOfKind_4 : decode cX7_isOfKind 4 = .ok (.iconst 1, 1) := by decide +kernel
theorem dX7_isOfKind_5 : decode cX7_isOfKind 5 = .ok (.goto 4, 3) := by decide +kernel
theorem dX7_isOfKind_8 : decode cX7_isOfKind 8 = .ok (.iconst 0, 1) := by decide +kernel
theorem dX7_isOfKind_9 : decode cX7_isOfKind 9 = .ok (.ireturn, 1) := by decide +kernel
end
section
theorem dX8_init_0 : decode cX8_init 0 = .ok (.aload_n 0, 1) := by decide +kernel
theorem dX8_init_1 : decode cX8_init 1 = .ok (.invokespecial 3, 3) := by decide +kernel
theorem dX8_init_4 : decode cX8_init 4 = .ok (.aload_n 0, 1) := by decide +kernel
theorem dX8_init_5 : decode cX8_init 5 = .ok (.bipush 6, 2) := by decide +kernel
theorem dX8_init_7 : decode cX8_init 7 = .ok (.anewarray 9, 3) := by decide +kernel
theorem dX8_init_10 : decode cX8_init 10 = .ok (.putfield 11, 3) := by decide +kernel
theorem dX8_init_13 : decode cX8_init 13 = .ok (.aload_n 0, 1) := by decide +kernel
theorem dX8_init_14 : decode cX8_init 14 = .ok (.bipush 6, 2) := by decide +kernel
theorem dX8_init_16 : decode cX8_init 16 = .ok (.bipush 9, 2) := by decide +kernel
theorem dX8_init_18 : decode cX8_init 18 = .ok (.multianewarray 17 2, 4) := by decide +kernel
theorem dX8_init_22 : decode cX8_init 22 = .ok (.putfield 19, 3) := by decide +kernel
theorem dX8_init_25 : decode cX8_init 25 = .ok (.aload_n 0, 1) := by decide +kernel
theorem dX8_init_26 : decode cX8_init 26 = .ok (.bipush 36, 2) := by decide +kernel
theorem dX8_init_28 : decode cX8_init 28 = .ok (.newarray .boolean, 2) := by decide +kernel
theorem dX8_init_30 : decode cX8_init 30 = .ok (.putfield 22, 3) := by decide +kernel
theorem dX8_init_33 : decode cX8_init 33 = .ok (.aload_n 0, 1) := by decide +kernel
theorem dX8_init_34 : decode cX8_init 34 = .ok (.bipush 9, 2) := by decide +kernel
theorem dX8_init_36 : decode cX8_init 36 = .ok (.newarray .long, 2) := by decide +kernel
theorem dX8_init_38 : decode cX8_init 38 = .ok (.putfield 26, 3) := by decide +kernel
theorem dX8_init_41 : decode cX8_init 41 = .ok (.aload_n 0, 1) := by decide +kernel
theorem dX8_init_42 : decode cX8_init 42 = .ok (.iconst 2, 1) := by decide +kernel
theorem dX8_init_43 : decode cX8_init 43 = .ok (.putfield 30, 3) := by decide +kernel
theorem dX8_init_46 : decode cX8_init 46 = .ok (.aload_n 0, 1) := by decide +kernel
theorem dX8_init_47 : decode cX8_init 47 = .ok (.invokevirtual 34, 3) := by decide +kernel
theorem dX8_init_50 : decode cX8_init 50 = .ok (.return_, 1) := by decide +kernel
theorem dX8_restart_0 : decode cX8_restart 0 = .ok (.aload_n 0, 1) := by decide +kernel
theorem dX8_restart_1 : decode cX8_restart 1 = .ok (.iload_n 1, 1) := by decide +kernel
theorem dX8_restart_2 : decode cX8_restart 2 = .ok (.putfield 30, 3) := by decide +kernel
theorem dX8_restart_5 : decode cX8_restart 5 = .ok (.aload_n 0, 1) := by decide +kernel
theorem dX8_restart_6 : decode cX8_restart 6 = .ok (.iload_n 2, 1) := by decide +kernel
theorem dX8_restart_7 : decode cX8_restart 7 = .ok (.putfield 37, 3) := by decide +kernel
theorem dX8_restart_10 : decode cX8_restart 10 = .ok (.aload_n 0, 1) := by decide +kernel
theorem dX8_restart_11 : decode cX8_restart 11 = .ok (.iconst 0, 1) := by decide +kernel
theorem dX8_restart_12 : decode cX8_restart 12 = .ok (.putfield 40, 3) := by decide +kernel
theorem dX8_restart_15 : decode cX8_restart 15 = .ok (.aload_n 0, 1) := by decide +kernel
theorem dX8_restart_16 : decode cX8_restart 16 = .ok (.invokevirtual 34, 3) := by decide +kernel
theorem dX8_restart_19 : decode cX8_restart 19 = .ok (.return_, 1) := by decide +kernel
theorem dX8_allowAll_0 : decode cX8_allowAll 0 = .ok (.iconst 0, 1) := by decide +kernel
theorem dX8_allowAll_1 : decode cX8_allowAll 1 = .ok (.istore_n 1, 1) := by decide +kernel
theorem dX8_allowAll_2 : decode cX8_allowAll 2 = .ok (.iload_n 1, 1) := by decide +kernel
theorem dX8_allowAll_3 : decode cX8_allowAll 3 = .ok (.bipush 36, 2) := by decide +kernel
theorem dX8_allowAll_5 : decode cX8_allowAll 5 = .ok (.if_icmp .ge 16, 3) := by decide +kernel
theorem dX8_allowAll_8 : decode cX8_allowAll 8 = .ok (.aload_n 0, 1) := by decide +kernel
theorem dX8_allowAll_9 : decode cX8_allowAll 9 = .ok (.getfield 22, 3) := by decide +kernel
theorem dX8_allowAll_12 : decode cX8_allowAll 12 = .ok (.iload_n 1, 1) := by decide +kernel
theorem dX8_allowAll_13 : decode cX8_allowAll 13 = .ok (.iconst 1, 1) := by decide +kernel
theorem dX8_allowAll_14 : decode cX8_allowAll 14 = .ok (.bastore, 1) := by decide +kernel
theorem dX8_allowAll_15 : decode cX8_allowAll 15 = .ok (.iinc 1 1, 3) := by decide +kernel
theorem dX8_allowAll_18 : decode cX8_allowAll 18 = .ok (.goto (-16), 3) := by decide +kernel
theorem dX8_allowAll_21 : decode cX8_allowAll 21 = .ok (.return_, 1) := by decide +kernel
theorem dX8_count_0 : decode cX8_count 0 = .ok (.aload_n 0, 1) := by decide +kernel
theorem dX8_count_1 : decode cX8_count 1 = .ok (.getfield 40, 3) := by decide +kernel
theorem dX8_count_4 : decode cX8_count 4 = .ok (.ireturn, 1) := by decide +kernel
theorem dX8_dimension_0 : decode cX8_dimension 0 = .ok (.aload_n 0, 1) := by decide +kernel
theorem dX8_dimension_1 : decode cX8_dimension 1 = .ok (.getfield 30, 3) := by decide +kernel
theorem dX8_dimension_4 : decode cX8_dimension 4 = .ok (.ireturn, 1) := by decide +kernel
theorem dX8_modulus_0 : decode cX8_modulus 0 = .ok (.aload_n 0, 1) := by decide +kernel
theorem dX8_modulus_1 : decode cX8_modulus 1 = .ok (.getfield 37, 3) := by decide +kernel
theorem dX8_modulus_4 : decode cX8_modulus 4 = .ok (.ireturn, 1) := by decide +kernel
theorem dX8_cellCount_0 : decode cX8_cellCount 0 = .ok (.aload_n 0, 1) := by decide +kernel
theorem dX8_cellCount_1 : decode cX8_cellCount 1 = .ok (.getfield 30, 3) := by decide +kernel
theorem dX8_cellCount_4 : decode cX8_cellCount 4 = .ok (.aload_n 0, 1) := by decide +kernel
theorem dX8_cellCount_5 : decode cX8_cellCount 5 = .ok (.getfield 30, 3) := by decide +kernel
theorem dX8_cellCount_8 : decode cX8_cellCount 8 = .ok (.imul, 1) := by decide +kernel
theorem dX8_cellCount_9 : decode cX8_cellCount 9 = .ok (.ireturn, 1) := by decide +kernel
theorem dX8_has_0 : decode cX8_has 0 = .ok (.iload_n 1, 1) := by decide +kernel
theorem dX8_has_1 : decode cX8_has 1 = .ok (.ifCond .lt 15, 3) := by decide +kernel
theorem dX8_has_4 : decode cX8_has 4 = .ok (.iload_n 1, 1) := by decide +kernel
theorem dX8_has_5 : decode cX8_has 5 = .ok (.aload_n 0, 1) := by decide +kernel
theorem dX8_has_6 : decode cX8_has 6 = .ok (.getfield 40, 3) := by decide +kernel
theorem dX8_has_9 : decode cX8_has 9 = .ok (.if_icmp .ge 7, 3) := by decide +kernel
theorem dX8_has_12 : decode cX8_has 12 = .ok (.iconst 1, 1) := by decide +kernel
theorem dX8_has_13 : decode cX8_has 13 = .ok (.goto 4, 3) := by decide +kernel
theorem dX8_has_16 : decode cX8_has 16 = .ok (.iconst 0, 1) := by decide +kernel
theorem dX8_has_17 : decode cX8_has 17 = .ok (.ireturn, 1) := by decide +kernel
theorem dX8_tableOf_0 : decode cX8_tableOf 0 = .ok (.aload_n 0, 1) := by decide +kernel
theorem dX8_tableOf_1 : decode cX8_tableOf 1 = .ok (.getfield 11, 3) := by decide +kernel
theorem dX8_tableOf_4 : decode cX8_tableOf 4 = .ok (.iload_n 1, 1) := by decide +kernel
theorem dX8_tableOf_5 : decode cX8_tableOf 5 = .ok (.aaload, 1) := by decide +kernel
theorem dX8_tableOf_6 : decode cX8_tableOf 6 = .ok (.areturn, 1) := by decide +kernel
theorem dX8_rowOf_0 : decode cX8_rowOf 0 = .ok (.aload_n 0, 1) := by decide +kernel
theorem dX8_rowOf_1 : decode cX8_rowOf 1 = .ok (.getfield 19, 3) := by decide +kernel
theorem dX8_rowOf_4 : decode cX8_rowOf 4 = .ok (.iload_n 1, 1) := by decide +kernel
theorem dX8_rowOf_5 : decode cX8_rowOf 5 = .ok (.aaload, 1) := by decide +kernel
theorem dX8_rowOf_6 : decode cX8_rowOf 6 = .ok (.areturn, 1) := by decide +kernel
theorem dX8_isPlace_0 : decode cX8_isPlace 0 = .ok (.iload_n 1, 1) := by decide +kernel
theorem dX8_isPlace_1 : decode cX8_isPlace 1 = .ok (.ifCond .lt 27, 3) := by decide +kernel
theorem dX8_isPlace_4 : decode cX8_isPlace 4 = .ok (.iload_n 1, 1) := by decide +kernel
theorem dX8_isPlace_5 : decode cX8_isPlace 5 = .ok (.aload_n 0, 1) := by decide +kernel
theorem dX8_isPlace_6 : decode cX8_isPlace 6 = .ok (.getfield 30, 3) := by decide +kernel
theorem dX8_isPlace_9 : decode cX8_isPlace 9 = .ok (.if_icmp .ge 19, 3) := by decide +kernel
theorem dX8_isPlace_12 : decode cX8_isPlace 12 = .ok (.iload_n 2, 1) := by decide +kernel
theorem dX8_isPlace_13 : decode cX8_isPlace 13 = .ok (.ifCond .lt 15, 3) := by decide +kernel
theorem dX8_isPlace_16 : decode cX8_isPlace 16 = .ok (.iload_n 2, 1) := by decide +kernel
theorem dX8_isPlace_17 : decode cX8_isPlace 17 = .ok (.aload_n 0, 1) := by decide +kernel
theorem dX8_isPlace_18 : decode cX8_isPlace 18 = .ok (.getfield 30, 3) := by decide +kernel
theorem dX8_isPlace_21 : decode cX8_isPlace 21 = .ok (.if_icmp .ge 7, 3) := by decide +kernel
theorem dX8_isPlace_24 : decode cX8_isPlace 24 = .ok (.iconst 1, 1) := by decide +kernel
theorem dX8_isPlace_25 : decode cX8_isPlace 25 = .ok (.goto 4, 3) := by decide +kernel
theorem dX8_isPlace_28 : decode cX8_isPlace 28 = .ok (.iconst 0, 1) := by decide +kernel
theorem dX8_isPlace_29 : decode cX8_isPlace 29 = .ok (.ireturn, 1) := by decide +kernel
theorem dX8_cellOf_0 : decode cX8_cellOf 0 = .ok (.iload_n 1, 1) := by decide +kernel
theorem dX8_cellOf_1 : decode cX8_cellOf 1 = .ok (.aload_n 0, 1) := by decide +kernel
theorem dX8_cellOf_2 : decode cX8_cellOf 2 = .ok (.getfield 30, 3) := by decide +kernel
theorem dX8_cellOf_5 : decode cX8_cellOf 5 = .ok (.imul, 1) := by decide +kernel
theorem dX8_cellOf_6 : decode cX8_cellOf 6 = .ok (.iload_n 2, 1) := by decide +kernel
theorem dX8_cellOf_7 : decode cX8_cellOf 7 = .ok (.iadd, 1) := by decide +kernel
theorem dX8_cellOf_8 : decode cX8_cellOf 8 = .ok (.ireturn, 1) := by decide +kernel
theorem dX8_add_0 : decode cX8_add 0 = .ok (.aload_n 0, 1) := by decide +kernel
theorem dX8_add_1 : decode cX8_add 1 = .ok (.getfield 40, 3) := by decide +kernel
theorem dX8_add_4 : decode cX8_add 4 = .ok (.istore_n 3, 1) := by decide +kernel
theorem dX8_add_5 : decode cX8_add 5 = .ok (.aload_n 1, 1) := by decide +kernel
theorem dX8_add_6 : decode cX8_add 6 = .ok (.iload_n 2, 1) := by decide +kernel
theorem dX8_add_7 : decode cX8_add 7 = .ok (.iload_n 2, 1) := by decide +kernel
theorem dX8_add_8 : decode cX8_add 8 = .ok (.aload_n 0, 1) := by decide +kernel
theorem dX8_add_9 : decode cX8_add 9 = .ok (.getfield 30, 3) := by decide +kernel
theorem dX8_add_12 : decode cX8_add 12 = .ok (.aload_n 0, 1) := by decide +kernel
theorem dX8_add_13 : decode cX8_add 13 = .ok (.getfield 30, 3) := by decide +kernel
theorem dX8_add_16 : decode cX8_add 16 = .ok (.imul, 1) := by decide +kernel
theorem dX8_add_17 : decode cX8_add 17 = .ok (.iadd, 1) := by decide +kernel
theorem dX8_add_18 : decode cX8_add 18 = .ok (.invokestatic 43, 3) := by decide +kernel
theorem dX8_add_21 : decode cX8_add 21 = .ok (.astore 4, 2) := by decide +kernel
theorem dX8_add_23 : decode cX8_add 23 = .ok (.iconst 0, 1) := by decide +kernel
theorem dX8_add_24 : decode cX8_add 24 = .ok (.istore 5, 2) := by decide +kernel
theorem dX8_add_26 : decode cX8_add 26 = .ok (.iload 5, 2) := by decide +kernel
theorem dX8_add_28 : decode cX8_add 28 = .ok (.aload_n 0, 1) := by decide +kernel
theorem dX8_add_29 : decode cX8_add 29 = .ok (.getfield 30, 3) := by decide +kernel
theorem dX8_add_32 : decode cX8_add 32 = .ok (.aload_n 0, 1) := by decide +kernel
theorem dX8_add_33 : decode cX8_add 33 = .ok (.getfield 30, 3) := by decide +kernel
theorem dX8_add_36 : decode cX8_add 36 = .ok (.imul, 1) := by decide +kernel
theorem dX8_add_37 : decode cX8_add 37 = .ok (.if_icmp .ge 28, 3) := by decide +kernel
theorem dX8_add_40 : decode cX8_add 40 = .ok (.aload_n 0, 1) := by decide +kernel
theorem dX8_add_41 : decode cX8_add 41 = .ok (.getfield 19, 3) := by decide +kernel
theorem dX8_add_44 : decode cX8_add 44 = .ok (.iload_n 3, 1) := by decide +kernel
theorem dX8_add_45 : decode cX8_add 45 = .ok (.aaload, 1) := by decide +kernel
theorem dX8_add_46 : decode cX8_add 46 = .ok (.iload 5, 2) := by decide +kernel
theorem dX8_add_48 : decode cX8_add 48 = .ok (.aload_n 0, 1) := by decide +kernel
theorem dX8_add_49 : decode cX8_add 49 = .ok (.aload 4, 2) := by decide +kernel
theorem dX8_add_51 : decode cX8_add 51 = .ok (.iload 5, 2) := by decide +kernel
theorem dX8_add_53 : decode cX8_add 53 = .ok (.iaload, 1) := by decide +kernel
theorem dX8_add_54 : decode cX8_add 54 = .ok (.i2l, 1) := by decide +kernel
theorem dX8_add_55 : decode cX8_add 55 = .ok (.invokevirtual 49, 3) := by decide +kernel
theorem dX8_add_58 : decode cX8_add 58 = .ok (.lastore, 1) := by decide +kernel
theorem dX8_add_59 : decode cX8_add 59 = .ok (.iinc 5 1, 3) := by decide +kernel
theorem dX8_add_62 : decode cX8_add 62 = .ok (.goto (-36), 3) := by decide +kernel
theorem dX8_add_65 : decode cX8_add 65 = .ok (.aload_n 0, 1) := by decide +kernel
theorem dX8_add_66 : decode cX8_add 66 = .ok (.getfield 11, 3) := by decide +kernel
theorem dX8_add_69 : decode cX8_add 69 = .ok (.iload_n 3, 1) := by decide +kernel
theorem dX8_add_70 : decode cX8_add 70 = .ok (.aload_n 0, 1) := by decide +kernel
theorem dX8_add_71 : decode cX8_add 71 = .ok (.iload_n 3, 1) := by decide +kernel
theorem dX8_add_72 : decode cX8_add 72 = .ok (.aload 4, 2) := by decide +kernel
theorem dX8_add_74 : decode cX8_add 74 = .ok (.invokevirtual 53, 3) := by decide +kernel
theorem dX8_add_77 : decode cX8_add 77 = .ok (.aastore, 1) := by decide +kernel
theorem dX8_add_78 : decode cX8_add 78 = .ok (.aload_n 0, 1) := by decide +kernel
theorem dX8_add_79 : decode cX8_add 79 = .ok (.dup, 1) := by decide +kernel
theorem dX8_add_80 : decode cX8_add 80 = .ok (.getfield 40, 3) := by decide +kernel
theorem dX8_add_83 : decode cX8_add 83 = .ok (.iconst 1, 1) := by decide +kernel
theorem dX8_add_84 : decode cX8_add 84 = .ok (.iadd, 1) := by decide +kernel
theorem dX8_add_85 : decode cX8_add 85 = .ok (.putfield 40, 3) := by decide +kernel
theorem dX8_add_88 : decode cX8_add 88 = .ok (.iload_n 3, 1) := by decide +kernel
theorem dX8_add_89 : decode cX8_add 89 = .ok (.ireturn, 1) := by decide +kernel
theorem dX8_makeTable_0 : decode cX8_makeTable 0 = .ok (.aload_n 0, 1) := by decide +kernel
theorem dX8_makeTable_1 : decode cX8_makeTable 1 = .ok (.aload_n 2, 1) := by decide +kernel
theorem dX8_makeTable_2 : decode cX8_makeTable 2 = .ok (.invokevirtual 57, 3) := by decide +kernel
theorem dX8_makeTable_5 : decode cX8_makeTable 5 = .ok (.ifCond .eq 17, 3) := by decide +kernel
theorem dX8_makeTable_8 : decode cX8_makeTable 8 = .ok (.new 61, 3) := by decide +kernel
theorem dX8_makeTable_11 : decode cX8_makeTable 11 = .ok (.dup, 1) := by decide +kernel
theorem dX8_makeTable_12 : decode cX8_makeTable 12 = .ok (.iload_n 1, 1) := by decide +kernel
theorem dX8_makeTable_13 : decode cX8_makeTable 13 = .ok (.aload_n 0, 1) := by decide +kernel
theorem dX8_makeTable_14 : decode cX8_makeTable 14 = .ok (.getfield 30, 3) := by decide +kernel
theorem dX8_makeTable_17 : decode cX8_makeTable 17 = .ok (.aload_n 2, 1) := by decide +kernel
theorem dX8_makeTable_18 : decode cX8_makeTable 18 = .ok (.invokespecial 63, 3) := by decide +kernel
theorem dX8_makeTable_21 : decode cX8_makeTable 21 = .ok (.areturn, 1) := by decide +kernel
theorem dX8_makeTable_22 : decode cX8_makeTable 22 = .ok (.aload_n 0, 1) := by decide +kernel
theorem dX8_makeTable_23 : decode cX8_makeTable 23 = .ok (.aload_n 2, 1) := by decide +kernel
theorem dX8_makeTable_24 : decode cX8_makeTable 24 = .ok (.invokevirtual 66, 3) := by decide +kernel
theorem dX8_makeTable_27 : decode cX8_makeTable 27 = .ok (.ifCond .eq 19, 3) := by decide +kernel
theorem dX8_makeTable_30 : decode cX8_makeTable 30 = .ok (.new 69, 3) := by decide +kernel
theorem dX8_makeTable_33 : decode cX8_makeTable 33 = .ok (.dup, 1) := by decide +kernel
theorem dX8_makeTable_34 : decode cX8_makeTable 34 = .ok (.iload_n 1, 1) := by decide +kernel
theorem dX8_makeTable_35 : decode cX8_makeTable 35 = .ok (.aload_n 0, 1) := by decide +kernel
theorem dX8_makeTable_36 : decode cX8_makeTable 36 = .ok (.getfield 30, 3) := by decide +kernel
theorem dX8_makeTable_39 : decode cX8_makeTable 39 = .ok (.aload_n 2, 1) := by decide +kernel
theorem dX8_makeTable_40 : decode cX8_makeTable 40 = .ok (.invokespecial 71, 3) := by decide +kernel
theorem dX8_makeTable_43 : decode cX8_makeTable 43 = .ok (.goto 16, 3) := by decide +kernel
theorem dX8_makeTable_46 : decode cX8_makeTable 46 = .ok (.new 9, 3) := by decide +kernel
theorem dX8_makeTable_49 : decode cX8_makeTable 49 = .ok (.dup, 1) := by decide +kernel
theorem dX8_makeTable_50 : decode cX8_makeTable 50 = .ok (.iload_n 1, 1) := by decide +kernel
theorem dX8_makeTable_51 : decode cX8_makeTable 51 = .ok (.aload_n 0, 1) := by decide +kernel
theorem dX8_makeTable_52 : decode cX8_makeTable 52 = .ok (.getfield 30, 3) := by decide +kernel
theorem dX8_makeTable_55 : decode cX8_makeTable 55 = .ok (.aload_n 2, 1) := by decide +kernel
theorem dX8_makeTable_56 : decode cX8_makeTable 56 = .ok (.invokespecial 72, 3) := by decide +kernel
theorem dX8_makeTable_59 : decode cX8_makeTable 59 = .ok (.areturn, 1) := by decide +kernel
theorem dX8_isEven_0 : decode cX8_isEven 0 = .ok (.iconst 0, 1) := by decide +kernel
theorem dX8_isEven_1 : decode cX8_isEven 1 = .ok (.istore_n 2, 1) := by decide +kernel
theorem dX8_isEven_2 : decode cX8_isEven 2 = .ok (.iload_n 2, 1) := by decide +kernel
theorem dX8_isEven_3 : decode cX8_isEven 3 = .ok (.aload_n 0, 1) := by decide +kernel
theorem dX8_isEven_4 : decode cX8_isEven 4 = .ok (.getfield 30, 3) := by decide +kernel
theorem dX8_isEven_7 : decode cX8_isEven 7 = .ok (.aload_n 0, 1) := by decide +kernel
theorem dX8_isEven_8 : decode cX8_isEven 8 = .ok (.getfield 30, 3) := by decide +kernel
theorem dX8_isEven_11 : decode cX8_isEven 11 = .ok (.imul, 1) := by decide +kernel
theorem dX8_isEven_12 : decode cX8_isEven 12 = .ok (.if_icmp .ge 17, 3) := by decide +kernel
theorem dX8_isEven_15 : decode cX8_isEven 15 = .ok (.aload_n 1, 1) := by decide +kernel
theorem dX8_isEven_16 : decode cX8_isEven 16 = .ok (.iload_n 2, 1) := by decide +kernel
theorem dX8_isEven_17 : decode cX8_isEven 17 = .ok (.iaload, 1) := by decide +kernel
theorem dX8_isEven_18 : decode cX8_isEven 18 = .ok (.ifCond .ge 5, 3) := by decide +kernel
theorem dX8_isEven_21 : decode cX8_isEven 21 = .ok (.iconst 0, 1) := by decide +kernel
theorem dX8_isEven_22 : decode cX8_isEven 22 = .ok (.ireturn, 1) := by decide +kernel
theorem dX8_isEven_23 : decode cX8_isEven 23 = .ok (.iinc 2 1, 3) := by decide +kernel
theorem dX8_isEven_26 : decode cX8_isEven 26 = .ok (.goto (-24), 3) := by decide +kernel
theorem dX8_isEven_29 : decode cX8_isEven 29 = .ok (.iconst 1, 1) := by decide +kernel
theorem dX8_isEven_30 : decode cX8_isEven 30 = .ok (.ireturn, 1) := by decide +kernel
theorem dX8_isShuffle_0 : decode cX8_isShuffle 0 = .ok (.aload_n 0, 1) := by decide +kernel
theorem dX8_isShuffle_1 : decode cX8_isShuffle 1 = .ok (.aload_n 1, 1) := by decide +kernel
theorem dX8_isShuffle_2 : decode cX8_isShuffle 2 = .ok (.invokevirtual 66, 3) := by decide +kernel
theorem dX8_isShuffle_5 : decode cX8_isShuffle 5 = .ok (.ifCond .ne 5, 3) := by decide +kernel
theorem dX8_isShuffle_8 : decode cX8_isShuffle 8 = .ok (.iconst 0, 1) := by decide +kernel
theorem dX8_isShuffle_9 : decode cX8_isShuffle 9 = .ok (.ireturn, 1) := by decide +kernel
theorem dX8_isShuffle_10 : decode cX8_isShuffle 10 = .ok (.iconst 0, 1) := by decide +kernel
theorem dX8_isShuffle_11 : decode cX8_isShuffle 11 = .ok (.istore_n 2, 1) := by decide +kernel
theorem dX8_isShuffle_12 : decode cX8_isShuffle 12 = .ok (.iload_n 2, 1) := by decide +kernel
theorem dX8_isShuffle_13 : decode cX8_isShuffle 13 = .ok (.aload_n 0, 1) := by decide +kernel
theorem dX8_isShuffle_14 : decode cX8_isShuffle 14 = .ok (.getfield 30, 3) := by decide +kernel
theorem dX8_isShuffle_17 : decode cX8_isShuffle 17 = .ok (.if_icmp .ge 75, 3) := by decide +kernel
theorem dX8_isShuffle_20 : decode cX8_isShuffle 20 = .ok (.iconst 0, 1) := by decide +kernel
theorem dX8_isShuffle_21 : decode cX8_isShuffle 21 = .ok (.istore_n 3, 1) := by decide +kernel
theorem dX8_isShuffle_22 : decode cX8_isShuffle 22 = .ok (.iconst 0, 1) := by decide +kernel
theorem dX8_isShuffle_23 : decode cX8_isShuffle 23 = .ok (.istore 4, 2) := by decide +kernel
theorem dX8_isShuffle_25 : decode cX8_isShuffle 25 = .ok (.iconst 0, 1) := by decide +kernel
theorem dX8_isShuffle_26 : decode cX8_isShuffle 26 = .ok (.istore 5, 2) := by decide +kernel
theorem dX8_isShuffle_28 : decode cX8_isShuffle 28 = .ok (.iload 5, 2) := by decide +kernel
theorem dX8_isShuffle_30 : decode cX8_isShuffle 30 = .ok (.aload_n 0, 1) := by decide +kernel
theorem dX8_isShuffle_31 : decode cX8_isShuffle 31 = .ok (.getfield 30, 3) := by decide +kernel
theorem dX8_isShuffle_34 : decode cX8_isShuffle 34 = .ok (.if_icmp .ge 39, 3) := by decide +kernel
theorem dX8_isShuffle_37 : decode cX8_isShuffle 37 = .ok (.iload_n 3, 1) := by decide +kernel
theorem dX8_isShuffle_38 : decode cX8_isShuffle 38 = .ok (.aload_n 1, 1) := by decide +kernel
theorem dX8_isShuffle_39 : decode cX8_isShuffle 39 = .ok (.iload_n 2, 1) := by decide +kernel
theorem dX8_isShuffle_40 : decode cX8_isShuffle 40 = .ok (.aload_n 0, 1) := by decide +kernel
theorem dX8_isShuffle_41 : decode cX8_isShuffle 41 = .ok (.getfield 30, 3) := by decide +kernel
theorem dX8_isShuffle_44 : decode cX8_isShuffle 44 = .ok (.imul, 1) := by decide +kernel
theorem dX8_isShuffle_45 : decode cX8_isShuffle 45 = .ok (.iload 5, 2) := by decide +kernel
theorem dX8_isShuffle_47 : decode cX8_isShuffle 47 = .ok (.iadd, 1) := by decide +kernel
theorem dX8_isShuffle_48 : decode cX8_isShuffle 48 = .ok (.iaload, 1) := by decide +kernel
theorem dX8_isShuffle_49 : decode cX8_isShuffle 49 = .ok (.iadd, 1) := by decide +kernel
theorem dX8_isShuffle_50 : decode cX8_isShuffle 50 = .ok (.istore_n 3, 1) := by decide +kernel
theorem dX8_isShuffle_51 : decode cX8_isShuffle 51 = .ok (.iload 4, 2) := by decide +kernel
theorem dX8_isShuffle_53 : decode cX8_isShuffle 53 = .ok (.aload_n 1, 1) := by decide +kernel
theorem dX8_isShuffle_54 : decode cX8_isShuffle 54 = .ok (.iload 5, 2) := by decide +kernel
theorem dX8_isShuffle_56 : decode cX8_isShuffle 56 = .ok (.aload_n 0, 1) := by decide +kernel
theorem dX8_isShuffle_57 : decode cX8_isShuffle 57 = .ok (.getfield 30, 3) := by decide +kernel
theorem dX8_isShuffle_60 : decode cX8_isShuffle 60 = .ok (.imul, 1) := by decide +kernel
theorem dX8_isShuffle_61 : decode cX8_isShuffle 61 = .ok (.iload_n 2, 1) := by decide +kernel
theorem dX8_isShuffle_62 : decode cX8_isShuffle 62 = .ok (.iadd, 1) := by decide +kernel
theorem dX8_isShuffle_63 : decode cX8_isShuffle 63 = .ok (.iaload, 1) := by decide +kernel
theorem dX8_isShuffle_64 : decode cX8_isShuffle 64 = .ok (.iadd, 1) := by decide +kernel
theorem dX8_isShuffle_65 : decode cX8_isShuffle 65 = .ok (.istore 4, 2) := by decide +kernel
theorem dX8_isShuffle_67 : decode cX8_isShuffle 67 = .ok (.iinc 5 1, 3) := by decide +kernel
theorem dX8_isShuffle_70 : decode cX8_isShuffle 70 = .ok (.goto (-42), 3) := by decide +kernel
theorem dX8_isShuffle_73 : decode cX8_isShuffle 73 = .ok (.iload_n 3, 1) := by decide +kernel
theorem dX8_isShuffle_74 : decode cX8_isShuffle 74 = .ok (.iconst 1, 1) := by decide +kernel
theorem dX8_isShuffle_75 : decode cX8_isShuffle 75 = .ok (.if_icmp .ne 9, 3) := by decide +kernel
theorem dX8_isShuffle_78 : decode cX8_isShuffle 78 = .ok (.iload 4, 2) := by decide +kernel
theorem dX8_isShuffle_80 : decode cX8_isShuffle 80 = .ok (.iconst 1, 1) := by decide +kernel
theorem dX8_isShuffle_81 : decode cX8_isShuffle 81 = .ok (.if_icmp .eq 5, 3) := by decide +kernel
theorem dX8_isShuffle_84 : decode cX8_isShuffle 84 = .ok (.iconst 0, 1) := by decide +kernel
theorem dX8_isShuffle_85 : decode cX8_isShuffle 85 = .ok (.ireturn, 1) := by decide +kernel
theorem dX8_isShuffle_86 : decode cX8_isShuffle 86 = .ok (.iinc 2 1, 3) := by decide +kernel
theorem dX8_isShuffle_89 : decode cX8_isShuffle 89 = .ok (.goto (-77), 3) := by decide +kernel
theorem dX8_isShuffle_92 : decode cX8_isShuffle 92 = .ok (.iconst 1, 1) := by decide +kernel
theorem dX8_isShuffle_93 : decode cX8_isShuffle 93 = .ok (.ireturn, 1) := by decide +kernel
theorem dX8_mayFollow_0 : decode cX8_mayFollow 0 = .ok (.aload_n 0, 1) := by decide +kernel
theorem dX8_mayFollow_1 : decode cX8_mayFollow 1 = .ok (.getfield 22, 3) := by decide +kernel
theorem dX8_mayFollow_4 : decode cX8_mayFollow 4 = .ok (.iload_n 1, 1) := by decide +kernel
theorem dX8_mayFollow_5 : decode cX8_mayFollow 5 = .ok (.bipush 6, 2) := by decide +kernel
theorem dX8_mayFollow_7 : decode cX8_mayFollow 7 = .ok (.imul, 1) := by decide +kernel
theorem dX8_mayFollow_8 : decode cX8_mayFollow 8 = .ok (.iload_n 2, 1) := by decide +kernel
theorem dX8_mayFollow_9 : decode cX8_mayFollow 9 = .ok (.iadd, 1) := by decide +kernel
theorem dX8_mayFollow_10 : decode cX8_mayFollow 10 = .ok (.baload, 1) := by decide +kernel
theorem dX8_mayFollow_11 : decode cX8_mayFollow 11 = .ok (.ireturn, 1) := by decide +kernel
theorem dX8_allow_0 : decode cX8_allow 0 = .ok (.aload_n 0, 1) := by decide +kernel
theorem dX8_allow_1 : decode cX8_allow 1 = .ok (.getfield 22, 3) := by decide +kernel
theorem dX8_allow_4 : decode cX8_allow 4 = .ok (.iload_n 1, 1) := by decide +kernel
theorem dX8_allow_5 : decode cX8_allow 5 = .ok (.bipush 6, 2) := by decide +kernel
theorem dX8_allow_7 : decode cX8_allow 7 = .ok (.imul, 1) := by decide +kernel
theorem dX8_allow_8 : decode cX8_allow 8 = .ok (.iload_n 2, 1) := by decide +kernel
theorem dX8_allow_9 : decode cX8_allow 9 = .ok (.iadd, 1) := by decide +kernel
theorem dX8_allow_10 : decode cX8_allow 10 = .ok (.iload_n 3, 1) := by decide +kernel
theorem dX8_allow_11 : decode cX8_allow 11 = .ok (.bastore, 1) := by decide +kernel
theorem dX8_allow_12 : decode cX8_allow 12 = .ok (.return_, 1) := by decide +kernel
theorem dX8_countAllowedPairs_0 : decode cX8_countAllowedPairs 0 = .ok (.iconst 0, 1) := by decide +kernel
theorem dX8_countAllowedPairs_1 : decode cX8_countAllowedPairs 1 = .ok (.istore_n 1, 1) := by decide +kernel
theorem dX8_countAllowedPairs_2 : decode cX8_countAllowedPairs 2 = .ok (.iconst 0, 1) := by decide +kernel
theorem dX8_countAllowedPairs_3 : decode cX8_countAllowedPairs 3 = .ok (.istore_n 2, 1) := by decide +kernel
theorem dX8_countAllowedPairs_4 : decode cX8_countAllowedPairs 4 = .ok (.iload_n 2, 1) := by decide +kernel
theorem dX8_countAllowedPairs_5 : decode cX8_countAllowedPairs 5 = .ok (.aload_n 0, 1) := by decide +kernel
theorem dX8_countAllowedPairs_6 : decode cX8_countAllowedPairs 6 = .ok (.getfield 40, 3) := by decide +kernel
theorem dX8_countAllowedPairs_9 : decode cX8_countAllowedPairs 9 = .ok (.if_icmp .ge 37, 3) := by decide +kernel
theorem dX8_countAllowedPairs_12 : decode cX8_countAllowedPairs 12 = .ok (.iconst 0, 1) := by decide +kernel
theorem dX8_countAllowedPairs_13 : decode cX8_countAllowedPairs 13 = .ok (.istore_n 3, 1) := by decide +kernel
theorem dX8_countAllowedPairs_14 : decode cX8_countAllowedPairs 14 = .ok (.iload_n 3, 1) := by decide +kernel
theorem dX8_countAllowedPairs_15 : decode cX8_countAllowedPairs 15 = .ok (.aload_n 0, 1) := by decide +kernel
theorem dX8_countAllowedPairs_16 : decode cX8_countAllowedPairs 16 = .ok (.getfield 40, 3) := by decide +kernel
theorem dX8_countAllowedPairs_19 : decode cX8_countAllowedPairs 19 = .ok (.if_icmp .ge 21, 3) := by decide +kernel
theorem dX8_countAllowedPairs_22 : decode cX8_countAllowedPairs 22 = .ok (.aload_n 0, 1) := by decide +kernel
theorem dX8_countAllowedPairs_23 : decode cX8_countAllowedPairs 23 = .ok (.iload_n 2, 1) := by decide +kernel
theorem dX8_countAllowedPairs_24 : decode cX8_countAllowedPairs 24 = .ok (.iload_n 3, 1) := by decide +kernel
theorem dX8_countAllowedPairs_25 : decode cX8_countAllowedPairs 25 = .ok (.invokevirtual 73, 3) := by decide +kernel
theorem dX8_countAllowedPairs_28 : decode cX8_countAllowedPairs 28 = .ok (.ifCond .eq 6, 3) := by decide +kernel
theorem dX8_countAllowedPairs_31 : decode cX8_countAllowedPairs 31 = .ok (.iinc 1 1, 3) := by decide +kernel
theorem dX8_countAllowedPairs_34 : decode cX8_countAllowedPairs 34 = .ok (.iinc 3 1, 3) := by decide +kernel
theorem dX8_countAllowedPairs_37 : decode cX8_countAllowedPairs 37 = .ok (.goto (-23), 3) := by decide +kernel
theorem dX8_countAllowedPairs_40 : decode cX8_countAllowedPairs 40 = .ok (.iinc 2 1, 3) := by decide +kernel
theorem dX8_countAllowedPairs_43 : decode cX8_countAllowedPairs 43 = .ok (.goto (-39), 3) := by decide +kernel
theorem dX8_countAllowedPairs_46 : decode cX8_countAllowedPairs 46 = .ok (.iload_n 1, 1) := by decide +kernel
theorem dX8_countAllowedPairs_47 : decode cX8_countAllowedPairs 47 = .ok (.ireturn, 1) := by decide +kernel
theorem dX8_isAllowed_0 : decode cX8_isAllowed 0 = .ok (.iconst 1, 1) := by decide +kernel
theorem dX8_isAllowed_1 : decode cX8_isAllowed 1 = .ok (.istore_n 3, 1) := by decide +kernel
theorem dX8_isAllowed_2 : decode cX8_isAllowed 2 = .ok (.iload_n 3, 1) := by decide +kernel
theorem dX8_isAllowed_3 : decode cX8_isAllowed 3 = .ok (.iload_n 2, 1) := by decide +kernel
theorem dX8_isAllowed_4 : decode cX8_isAllowed 4 = .ok (.if_icmp .ge 26, 3) := by decide +kernel
theorem dX8_isAllowed_7 : decode cX8_isAllowed 7 = .ok (.aload_n 0, 1) := by decide +kernel
theorem dX8_isAllowed_8 : decode cX8_isAllowed 8 = .ok (.aload_n 1, 1) := by decide +kernel
theorem dX8_isAllowed_9 : decode cX8_isAllowed 9 = .ok (.iload_n 3, 1) := by decide +kernel
theorem dX8_isAllowed_10 : decode cX8_isAllowed 10 = .ok (.iconst 1, 1) := by decide +kernel
theorem dX8_isAllowed_11 : decode cX8_isAllowed 11 = .ok (.isub, 1) := by decide +kernel
theorem dX8_isAllowed_12 : decode cX8_isAllowed 12 = .ok (.iaload, 1) := by decide +kernel
theorem dX8_isAllowed_13 : decode cX8_isAllowed 13 = .ok (.aload_n 1, 1) := by decide +kernel
theorem dX8_isAllowed_14 : decode cX8_isAllowed 14 = .ok (.iload_n 3, 1) := by decide +kernel
theorem dX8_isAllowed_15 : decode cX8_isAllowed 15 = .ok (.iaload, 1) := by decide +kernel
theorem dX8_isAllowed_16 : decode cX8_isAllowed 16 = .ok (.invokevirtual 73, 3) := by decide +kernel
theorem dX8_isAllowed_19 : decode cX8_isAllowed 19 = .ok (.ifCond .ne 5, 3) := by decide +kernel
theorem dX8_isAllowed_22 : decode cX8_isAllowed 22 = .ok (.iconst 0, 1) := by decide +kernel
theorem dX8_isAllowed_23 : decode cX8_isAllowed 23 = .ok (.ireturn, 1) := by decide +kernel
theorem dX8_isAllowed_24 : decode cX8_isAllowed 24 = .ok (.iinc 3 1, 3) := by decide +kernel
theorem dX8_isAllowed_27 : decode cX8_isAllowed 27 = .ok (.goto (-25), 3) := by decide +kernel
theorem dX8_isAllowed_30 : decode cX8_isAllowed 30 = .ok (.iconst 1, 1) := by decide +kernel
theorem dX8_isAllowed_31 : decode cX8_isAllowed 31 = .ok (.ireturn, 1) := by decide +kernel
theorem dX8_isTurnable_0 : decode cX8_isTurnable 0 = .ok (.aload_n 0, 1) := by decide +kernel
theorem dX8_isTurnable_1 : decode cX8_isTurnable 1 = .ok (.aload_n 1, 1) := by decide +kernel
theorem dX8_isTurnable_2 : decode cX8_isTurnable 2 = .ok (.iload_n 2, 1) := by decide +kernel
theorem dX8_isTurnable_3 : decode cX8_isTurnable 3 = .ok (.iconst 1, 1) := by decide +kernel
theorem dX8_isTurnable_4 : decode cX8_isTurnable 4 = .ok (.isub, 1) := by decide +kernel
theorem dX8_isTurnable_5 : decode cX8_isTurnable 5 = .ok (.iaload, 1) := by decide +kernel
theorem dX8_isTurnable_6 : decode cX8_isTurnable 6 = .ok (.aload_n 1, 1) := by decide +kernel
theorem dX8_isTurnable_7 : decode cX8_isTurnable 7 = .ok (.iconst 0, 1) := by decide +kernel
theorem dX8_isTurnable_8 : decode cX8_isTurnable 8 = .ok (.iaload, 1) := by decide +kernel
theorem dX8_isTurnable_9 : decode cX8_isTurnable 9 = .ok (.invokevirtual 73, 3) := by decide +kernel
theorem dX8_isTurnable_12 : decode cX8_isTurnable 12 = .ok (.ireturn, 1) := by decide +kernel
theorem dX8_restOf_0 : decode cX8_restOf 0 = .ok (.aload_n 0, 1) := by decide +kernel
theorem dX8_restOf_1 : decode cX8_restOf 1 = .ok (.getfield 37, 3) := by decide +kernel
theorem dX8_restOf_4 : decode cX8_restOf 4 = .ok (.ifCond .gt 5, 3) := by decide +kernel
theorem dX8_restOf_7 : decode cX8_restOf 7 = .ok (.lload_n 1, 1) := by decide +kernel
theorem dX8_restOf_8 : decode cX8_restOf 8 = .ok (.lreturn, 1) := by decide +kernel
theorem dX8_restOf_9 : decode cX8_restOf 9 = .ok (.lload_n 1, 1) := by decide +kernel
theorem dX8_restOf_10 : decode cX8_restOf 10 = .ok (.aload_n 0, 1) := by decide +kernel
theorem dX8_restOf_11 : decode cX8_restOf 11 = .ok (.getfield 37, 3) := by decide +kernel
theorem dX8_restOf_14 : decode cX8_restOf 14 = .ok (.i2l, 1) := by decide +kernel
theorem dX8_restOf_15 : decode cX8_restOf 15 = .ok (.lrem, 1) := by decide +kernel
theorem dX8_restOf_16 : decode cX8_restOf 16 = .ok (.lstore_n 3, 1) := by decide +kernel
theorem dX8_restOf_17 : decode cX8_restOf 17 = .ok (.lload_n 3, 1) := by decide +kernel
theorem dX8_restOf_18 : decode cX8_restOf 18 = .ok (.lconst 0, 1) := by decide +kernel
theorem dX8_restOf_19 : decode cX8_restOf 19 = .ok (.lcmp, 1) := by decide +kernel
theorem dX8_restOf_20 : decode cX8_restOf 20 = .ok (.ifCond .ge 13, 3) := by decide +kernel
theorem dX8_restOf_23 : decode cX8_restOf 23 = .ok (.lload_n 3, 1) := by decide +kernel
theorem dX8_restOf_24 : decode cX8_restOf 24 = .ok (.aload_n 0, 1) := by decide +kernel
theorem dX8_restOf_25 : decode cX8_restOf 25 = .ok (.getfield 37, 3) := by decide +kernel
theorem dX8_restOf_28 : decode cX8_restOf 28 = .ok (.i2l, 1) := by decide +kernel
theorem dX8_restOf_29 : decode cX8_restOf 29 = .ok (.ladd, 1) := by decide +kernel
theorem dX8_restOf_30 : decode cX8_restOf 30 = .ok (.goto 4, 3) := by decide +kernel
theorem dX8_restOf_33 : decode cX8_restOf 33 = .ok (.lload_n 3, 1) := by decide +kernel
theorem dX8_restOf_34 : decode cX8_restOf 34 = .ok (.lreturn, 1) := by decide +kernel
theorem dX8_multiply_0 : decode cX8_multiply 0 = .ok (.iconst 0, 1) := by decide +kernel
theorem dX8_multiply_1 : decode cX8_multiply 1 = .ok (.istore 4, 2) := by decide +kernel
theorem dX8_multiply_3 : decode cX8_multiply 3 = .ok (.iload 4, 2) := by decide +kernel
theorem dX8_multiply_5 : decode cX8_multiply 5 = .ok (.aload_n 0, 1) := by decide +kernel
theorem dX8_multiply_6 : decode cX8_multiply 6 = .ok (.getfield 30, 3) := by decide +kernel
theorem dX8_multiply_9 : decode cX8_multiply 9 = .ok (.if_icmp .ge 96, 3) := by decide +kernel
theorem dX8_multiply_12 : decode cX8_multiply 12 = .ok (.iconst 0, 1) := by decide +kernel
theorem dX8_multiply_13 : decode cX8_multiply 13 = .ok (.istore 5, 2) := by decide +kernel
theorem dX8_multiply_15 : decode cX8_multiply 15 = .ok (.iload 5, 2) := by decide +kernel
theorem dX8_multiply_17 : decode cX8_multiply 17 = .ok (.aload_n 0, 1) := by decide +kernel
theorem dX8_multiply_18 : decode cX8_multiply 18 = .ok (.getfield 30, 3) := by decide +kernel
theorem dX8_multiply_21 : decode cX8_multiply 21 = .ok (.if_icmp .ge 78, 3) := by decide +kernel
theorem dX8_multiply_24 : decode cX8_multiply 24 = .ok (.lconst 0, 1) := by decide +kernel
theorem dX8_multiply_25 : decode cX8_multiply 25 = .ok (.lstore 6, 2) := by decide +kernel
theorem dX8_multiply_27 : decode cX8_multiply 27 = .ok (.iconst 0, 1) := by decide +kernel
theorem dX8_multiply_28 : decode cX8_multiply 28 = .ok (.istore 8, 2) := by decide +kernel
theorem dX8_multiply_30 : decode cX8_multiply 30 = .ok (.iload 8, 2) := by decide +kernel
theorem dX8_multiply_32 : decode cX8_multiply 32 = .ok (.aload_n 0, 1) := by decide +kernel
theorem dX8_multiply_33 : decode cX8_multiply 33 = .ok (.getfield 30, 3) := by decide +kernel
theorem dX8_multiply_36 : decode cX8_multiply 36 = .ok (.if_icmp .ge 39, 3) := by decide +kernel
theorem dX8_multiply_39 : decode cX8_multiply 39 = .ok (.lload 6, 2) := by decide +kernel
theorem dX8_multiply_41 : decode cX8_multiply 41 = .ok (.aload_n 1, 1) := by decide +kernel
theorem dX8_multiply_42 : decode cX8_multiply 42 = .ok (.iload 4, 2) := by decide +kernel
theorem dX8_multiply_44 : decode cX8_multiply 44 = .ok (.aload_n 0, 1) := by decide +kernel
theorem dX8_multiply_45 : decode cX8_multiply 45 = .ok (.getfield 30, 3) := by decide +kernel
theorem dX8_multiply_48 : decode cX8_multiply 48 = .ok (.imul, 1) := by decide +kernel
theorem dX8_multiply_49 : decode cX8_multiply 49 = .ok (.iload 8, 2) := by decide +kernel
theorem dX8_multiply_51 : decode cX8_multiply 51 = .ok (.iadd, 1) := by decide +kernel
theorem dX8_multiply_52 : decode cX8_multiply 52 = .ok (.laload, 1) := by decide +kernel
end
section
theorem dX8_multiply_53 : decode cX8_multiply 53 = .ok (.aload_n 2, 1) := by decide +kernel
theorem dX8_multiply_54 : decode cX8_multiply 54 = .ok (.iload 8, 2) := by decide +kernel
theorem dX8_multiply_56 : decode cX8_multiply 56 = .ok (.aload_n 0, 1) := by decide +kernel
theorem dX8_multiply_57 : decode cX8_multiply 57 = .ok (.getfield 30, 3) := by decide +kernel
theorem dX8_multiply_60 : decode cX8_multiply 60 = .ok (.imul, 1) := by decide +kernel
theorem dX8_multiply_61 : decode cX8_multiply 61 = .ok (.iload 5, 2) := by decide +kernel
theorem dX8_multiply_63 : decode cX8_multiply 63 = .ok (.iadd, 1) := by decide +kernel
theorem dX8_multiply_64 : decode cX8_multiply 64 = .ok (.laload, 1) := by decide +kernel
theorem dX8_multiply_65 : decode cX8_multiply 65 = .ok (.lmul, 1) := by decide +kernel
theorem dX8_multiply_66 : decode cX8_multiply 66 = .ok (.ladd, 1) := by decide +kernel
theorem dX8_multiply_67 : decode cX8_multiply 67 = .ok (.lstore 6, 2) := by decide +kernel
theorem dX8_multiply_69 : decode cX8_multiply 69 = .ok (.iinc 8 1, 3) := by decide +kernel
theorem dX8_multiply_72 : decode cX8_multiply 72 = .ok (.goto (-42), 3) := by decide +kernel
theorem dX8_multiply_75 : decode cX8_multiply 75 = .ok (.aload_n 3, 1) := by decide +kernel
theorem dX8_multiply_76 : decode cX8_multiply 76 = .ok (.iload 4, 2) := by decide +kernel
theorem dX8_multiply_78 : decode cX8_multiply 78 = .ok (.aload_n 0, 1) := by decide +kernel
theorem dX8_multiply_79 : decode cX8_multiply 79 = .ok (.getfield 30, 3) := by decide +kernel
theorem dX8_multiply_82 : decode cX8_multiply 82 = .ok (.imul, 1) := by decide +kernel
theorem dX8_multiply_83 : decode cX8_multiply 83 = .ok (.iload 5, 2) := by decide +kernel
theorem dX8_multiply_85 : decode cX8_multiply 85 = .ok (.iadd, 1) := by decide +kernel
theorem dX8_multiply_86 : decode cX8_multiply 86 = .ok (.aload_n 0, 1) := by decide +kernel
theorem dX8_multiply_87 : decode cX8_multiply 87 = .ok (.lload 6, 2) := by decide +kernel
theorem dX8_multiply_89 : decode cX8_multiply 89 = .ok (.invokevirtual 49, 3) := by decide +kernel
theorem dX8_multiply_92 : decode cX8_multiply 92 = .ok (.lastore, 1) := by decide +kernel
theorem dX8_multiply_93 : decode cX8_multiply 93 = .ok (.iinc 5 1, 3) := by decide +kernel
theorem dX8_multiply_96 : decode cX8_multiply 96 = .ok (.goto (-81), 3) := by decide +kernel
theorem dX8_multiply_99 : decode cX8_multiply 99 = .ok (.iinc 4 1, 3) := by decide +kernel
theorem dX8_multiply_102 : decode cX8_multiply 102 = .ok (.goto (-99), 3) := by decide +kernel
theorem dX8_multiply_105 : decode cX8_multiply 105 = .ok (.return_, 1) := by decide +kernel
theorem dX8_multiplyAll_0 : decode cX8_multiplyAll 0 = .ok (.aload_n 0, 1) := by decide +kernel
theorem dX8_multiplyAll_1 : decode cX8_multiplyAll 1 = .ok (.getfield 19, 3) := by decide +kernel
theorem dX8_multiplyAll_4 : decode cX8_multiplyAll 4 = .ok (.aload_n 1, 1) := by decide +kernel
theorem dX8_multiplyAll_5 : decode cX8_multiplyAll 5 = .ok (.iconst 0, 1) := by decide +kernel
theorem dX8_multiplyAll_6 : decode cX8_multiplyAll 6 = .ok (.iaload, 1) := by decide +kernel
theorem dX8_multiplyAll_7 : decode cX8_multiplyAll 7 = .ok (.aaload, 1) := by decide +kernel
theorem dX8_multiplyAll_8 : decode cX8_multiplyAll 8 = .ok (.iconst 0, 1) := by decide +kernel
theorem dX8_multiplyAll_9 : decode cX8_multiplyAll 9 = .ok (.aload_n 3, 1) := by decide +kernel
theorem dX8_multiplyAll_10 : decode cX8_multiplyAll 10 = .ok (.iconst 0, 1) := by decide +kernel
theorem dX8_multiplyAll_11 : decode cX8_multiplyAll 11 = .ok (.bipush 9, 2) := by decide +kernel
theorem dX8_multiplyAll_13 : decode cX8_multiplyAll 13 = .ok (.invokestatic 77, 3) := by decide +kernel
theorem dX8_multiplyAll_16 : decode cX8_multiplyAll 16 = .ok (.iconst 1, 1) := by decide +kernel
theorem dX8_multiplyAll_17 : decode cX8_multiplyAll 17 = .ok (.istore 4, 2) := by decide +kernel
theorem dX8_multiplyAll_19 : decode cX8_multiplyAll 19 = .ok (.iload 4, 2) := by decide +kernel
theorem dX8_multiplyAll_21 : decode cX8_multiplyAll 21 = .ok (.iload_n 2, 1) := by decide +kernel
theorem dX8_multiplyAll_22 : decode cX8_multiplyAll 22 = .ok (.if_icmp .ge 39, 3) := by decide +kernel
theorem dX8_multiplyAll_25 : decode cX8_multiplyAll 25 = .ok (.aload_n 0, 1) := by decide +kernel
theorem dX8_multiplyAll_26 : decode cX8_multiplyAll 26 = .ok (.aload_n 3, 1) := by decide +kernel
theorem dX8_multiplyAll_27 : decode cX8_multiplyAll 27 = .ok (.aload_n 0, 1) := by decide +kernel
theorem dX8_multiplyAll_28 : decode cX8_multiplyAll 28 = .ok (.getfield 19, 3) := by decide +kernel
theorem dX8_multiplyAll_31 : decode cX8_multiplyAll 31 = .ok (.aload_n 1, 1) := by decide +kernel
theorem dX8_multiplyAll_32 : decode cX8_multiplyAll 32 = .ok (.iload 4, 2) := by decide +kernel
theorem dX8_multiplyAll_34 : decode cX8_multiplyAll 34 = .ok (.iaload, 1) := by decide +kernel
theorem dX8_multiplyAll_35 : decode cX8_multiplyAll 35 = .ok (.aaload, 1) := by decide +kernel
theorem dX8_multiplyAll_36 : decode cX8_multiplyAll 36 = .ok (.aload_n 0, 1) := by decide +kernel
theorem dX8_multiplyAll_37 : decode cX8_multiplyAll 37 = .ok (.getfield 26, 3) := by decide +kernel
theorem dX8_multiplyAll_40 : decode cX8_multiplyAll 40 = .ok (.invokevirtual 83, 3) := by decide +kernel
theorem dX8_multiplyAll_43 : decode cX8_multiplyAll 43 = .ok (.aload_n 0, 1) := by decide +kernel
theorem dX8_multiplyAll_44 : decode cX8_multiplyAll 44 = .ok (.getfield 26, 3) := by decide +kernel
theorem dX8_multiplyAll_47 : decode cX8_multiplyAll 47 = .ok (.iconst 0, 1) := by decide +kernel
theorem dX8_multiplyAll_48 : decode cX8_multiplyAll 48 = .ok (.aload_n 3, 1) := by decide +kernel
theorem dX8_multiplyAll_49 : decode cX8_multiplyAll 49 = .ok (.iconst 0, 1) := by decide +kernel
theorem dX8_multiplyAll_50 : decode cX8_multiplyAll 50 = .ok (.bipush 9, 2) := by decide +kernel
theorem dX8_multiplyAll_52 : decode cX8_multiplyAll 52 = .ok (.invokestatic 77, 3) := by decide +kernel
theorem dX8_multiplyAll_55 : decode cX8_multiplyAll 55 = .ok (.iinc 4 1, 3) := by decide +kernel
theorem dX8_multiplyAll_58 : decode cX8_multiplyAll 58 = .ok (.goto (-39), 3) := by decide +kernel
theorem dX8_multiplyAll_61 : decode cX8_multiplyAll 61 = .ok (.return_, 1) := by decide +kernel
theorem dX8_norm_0 : decode cX8_norm 0 = .ok (.lconst 0, 1) := by decide +kernel
theorem dX8_norm_1 : decode cX8_norm 1 = .ok (.lstore_n 2, 1) := by decide +kernel
theorem dX8_norm_2 : decode cX8_norm 2 = .ok (.iconst 0, 1) := by decide +kernel
theorem dX8_norm_3 : decode cX8_norm 3 = .ok (.istore 4, 2) := by decide +kernel
theorem dX8_norm_5 : decode cX8_norm 5 = .ok (.iload 4, 2) := by decide +kernel
theorem dX8_norm_7 : decode cX8_norm 7 = .ok (.aload_n 0, 1) := by decide +kernel
theorem dX8_norm_8 : decode cX8_norm 8 = .ok (.getfield 30, 3) := by decide +kernel
theorem dX8_norm_11 : decode cX8_norm 11 = .ok (.if_icmp .ge 57, 3) := by decide +kernel
theorem dX8_norm_14 : decode cX8_norm 14 = .ok (.lconst 0, 1) := by decide +kernel
theorem dX8_norm_15 : decode cX8_norm 15 = .ok (.lstore 5, 2) := by decide +kernel
theorem dX8_norm_17 : decode cX8_norm 17 = .ok (.iconst 0, 1) := by decide +kernel
theorem dX8_norm_18 : decode cX8_norm 18 = .ok (.istore 7, 2) := by decide +kernel
theorem dX8_norm_20 : decode cX8_norm 20 = .ok (.iload 7, 2) := by decide +kernel
theorem dX8_norm_22 : decode cX8_norm 22 = .ok (.aload_n 0, 1) := by decide +kernel
theorem dX8_norm_23 : decode cX8_norm 23 = .ok (.getfield 30, 3) := by decide +kernel
theorem dX8_norm_26 : decode cX8_norm 26 = .ok (.if_icmp .ge 29, 3) := by decide +kernel
theorem dX8_norm_29 : decode cX8_norm 29 = .ok (.lload 5, 2) := by decide +kernel
theorem dX8_norm_31 : decode cX8_norm 31 = .ok (.aload_n 1, 1) := by decide +kernel
theorem dX8_norm_32 : decode cX8_norm 32 = .ok (.iload 4, 2) := by decide +kernel
theorem dX8_norm_34 : decode cX8_norm 34 = .ok (.aload_n 0, 1) := by decide +kernel
theorem dX8_norm_35 : decode cX8_norm 35 = .ok (.getfield 30, 3) := by decide +kernel
theorem dX8_norm_38 : decode cX8_norm 38 = .ok (.imul, 1) := by decide +kernel
theorem dX8_norm_39 : decode cX8_norm 39 = .ok (.iload 7, 2) := by decide +kernel
theorem dX8_norm_41 : decode cX8_norm 41 = .ok (.iadd, 1) := by decide +kernel
theorem dX8_norm_42 : decode cX8_norm 42 = .ok (.laload, 1) := by decide +kernel
theorem dX8_norm_43 : decode cX8_norm 43 = .ok (.invokestatic 87, 3) := by decide +kernel
theorem dX8_norm_46 : decode cX8_norm 46 = .ok (.ladd, 1) := by decide +kernel
theorem dX8_norm_47 : decode cX8_norm 47 = .ok (.lstore 5, 2) := by decide +kernel
theorem dX8_norm_49 : decode cX8_norm 49 = .ok (.iinc 7 1, 3) := by decide +kernel
theorem dX8_norm_52 : decode cX8_norm 52 = .ok (.goto (-32), 3) := by decide +kernel
theorem dX8_norm_55 : decode cX8_norm 55 = .ok (.lload_n 2, 1) := by decide +kernel
theorem dX8_norm_56 : decode cX8_norm 56 = .ok (.lload 5, 2) := by decide +kernel
theorem dX8_norm_58 : decode cX8_norm 58 = .ok (.invokestatic 92, 3) := by decide +kernel
theorem dX8_norm_61 : decode cX8_norm 61 = .ok (.lstore_n 2, 1) := by decide +kernel
theorem dX8_norm_62 : decode cX8_norm 62 = .ok (.iinc 4 1, 3) := by decide +kernel
theorem dX8_norm_65 : decode cX8_norm 65 = .ok (.goto (-60), 3) := by decide +kernel
theorem dX8_norm_68 : decode cX8_norm 68 = .ok (.lload_n 2, 1) := by decide +kernel
theorem dX8_norm_69 : decode cX8_norm 69 = .ok (.lreturn, 1) := by decide +kernel
theorem dX8_track_0 : decode cX8_track 0 = .ok (.lconst 0, 1) := by decide +kernel
theorem dX8_track_1 : decode cX8_track 1 = .ok (.lstore_n 2, 1) := by decide +kernel
theorem dX8_track_2 : decode cX8_track 2 = .ok (.iconst 0, 1) := by decide +kernel
theorem dX8_track_3 : decode cX8_track 3 = .ok (.istore 4, 2) := by decide +kernel
theorem dX8_track_5 : decode cX8_track 5 = .ok (.iload 4, 2) := by decide +kernel
theorem dX8_track_7 : decode cX8_track 7 = .ok (.aload_n 0, 1) := by decide +kernel
theorem dX8_track_8 : decode cX8_track 8 = .ok (.getfield 30, 3) := by decide +kernel
theorem dX8_track_11 : decode cX8_track 11 = .ok (.if_icmp .ge 24, 3) := by decide +kernel
theorem dX8_track_14 : decode cX8_track 14 = .ok (.lload_n 2, 1) := by decide +kernel
theorem dX8_track_15 : decode cX8_track 15 = .ok (.aload_n 1, 1) := by decide +kernel
theorem dX8_track_16 : decode cX8_track 16 = .ok (.iload 4, 2) := by decide +kernel
theorem dX8_track_18 : decode cX8_track 18 = .ok (.aload_n 0, 1) := by decide +kernel
theorem dX8_track_19 : decode cX8_track 19 = .ok (.getfield 30, 3) := by decide +kernel
theorem dX8_track_22 : decode cX8_track 22 = .ok (.imul, 1) := by decide +kernel
theorem dX8_track_23 : decode cX8_track 23 = .ok (.iload 4, 2) := by decide +kernel
theorem dX8_track_25 : decode cX8_track 25 = .ok (.iadd, 1) := by decide +kernel
theorem dX8_track_26 : decode cX8_track 26 = .ok (.laload, 1) := by decide +kernel
theorem dX8_track_27 : decode cX8_track 27 = .ok (.ladd, 1) := by decide +kernel
theorem dX8_track_28 : decode cX8_track 28 = .ok (.lstore_n 2, 1) := by decide +kernel
theorem dX8_track_29 : decode cX8_track 29 = .ok (.iinc 4 1, 3) := by decide +kernel
theorem dX8_track_32 : decode cX8_track 32 = .ok (.goto (-27), 3) := by decide +kernel
theorem dX8_track_35 : decode cX8_track 35 = .ok (.lload_n 2, 1) := by decide +kernel
theorem dX8_track_36 : decode cX8_track 36 = .ok (.lreturn, 1) := by decide +kernel
theorem dX8_isUnit_0 : decode cX8_isUnit 0 = .ok (.iconst 0, 1) := by decide +kernel
theorem dX8_isUnit_1 : decode cX8_isUnit 1 = .ok (.istore_n 2, 1) := by decide +kernel
theorem dX8_isUnit_2 : decode cX8_isUnit 2 = .ok (.iload_n 2, 1) := by decide +kernel
theorem dX8_isUnit_3 : decode cX8_isUnit 3 = .ok (.aload_n 0, 1) := by decide +kernel
theorem dX8_isUnit_4 : decode cX8_isUnit 4 = .ok (.getfield 30, 3) := by decide +kernel
theorem dX8_isUnit_7 : decode cX8_isUnit 7 = .ok (.if_icmp .ge 52, 3) := by decide +kernel
theorem dX8_isUnit_10 : decode cX8_isUnit 10 = .ok (.iconst 0, 1) := by decide +kernel
theorem dX8_isUnit_11 : decode cX8_isUnit 11 = .ok (.istore_n 3, 1) := by decide +kernel
theorem dX8_isUnit_12 : decode cX8_isUnit 12 = .ok (.iload_n 3, 1) := by decide +kernel
theorem dX8_isUnit_13 : decode cX8_isUnit 13 = .ok (.aload_n 0, 1) := by decide +kernel
theorem dX8_isUnit_14 : decode cX8_isUnit 14 = .ok (.getfield 30, 3) := by decide +kernel
theorem dX8_isUnit_17 : decode cX8_isUnit 17 = .ok (.if_icmp .ge 36, 3) := by decide +kernel
theorem dX8_isUnit_20 : decode cX8_isUnit 20 = .ok (.aload_n 1, 1) := by decide +kernel
theorem dX8_isUnit_21 : decode cX8_isUnit 21 = .ok (.iload_n 2, 1) := by decide +kernel
theorem dX8_isUnit_22 : decode cX8_isUnit 22 = .ok (.aload_n 0, 1) := by decide +kernel
theorem dX8_isUnit_23 : decode cX8_isUnit 23 = .ok (.getfield 30, 3) := by decide +kernel
theorem dX8_isUnit_26 : decode cX8_isUnit 26 = .ok (.imul, 1) := by decide +kernel
theorem dX8_isUnit_27 : decode cX8_isUnit 27 = .ok (.iload_n 3, 1) := by decide +kernel
theorem dX8_isUnit_28 : decode cX8_isUnit 28 = .ok (.iadd, 1) := by decide +kernel
theorem dX8_isUnit_29 : decode cX8_isUnit 29 = .ok (.laload, 1) := by decide +kernel
theorem dX8_isUnit_30 : decode cX8_isUnit 30 = .ok (.iload_n 2, 1) := by decide +kernel
theorem dX8_isUnit_31 : decode cX8_isUnit 31 = .ok (.iload_n 3, 1) := by decide +kernel
theorem dX8_isUnit_32 : decode cX8_isUnit 32 = .ok (.if_icmp .ne 7, 3) := by decide +kernel
theorem dX8_isUnit_35 : decode cX8_isUnit 35 = .ok (.iconst 1, 1) := by decide +kernel
theorem dX8_isUnit_36 : decode cX8_isUnit 36 = .ok (.goto 4, 3) := by decide +kernel
theorem dX8_isUnit_39 : decode cX8_isUnit 39 = .ok (.iconst 0, 1) := by decide +kernel
theorem dX8_isUnit_40 : decode cX8_isUnit 40 = .ok (.i2l, 1) := by decide +kernel
theorem dX8_isUnit_41 : decode cX8_isUnit 41 = .ok (.lcmp, 1) := by decide +kernel
theorem dX8_isUnit_42 : decode cX8_isUnit 42 = .ok (.ifCond .eq 5, 3) := by decide +kernel
theorem dX8_isUnit_45 : decode cX8_isUnit 45 = .ok (.iconst 0, 1) := by decide +kernel
theorem dX8_isUnit_46 : decode cX8_isUnit 46 = .ok (.ireturn, 1) := by decide +kernel
theorem dX8_isUnit_47 : decode cX8_isUnit 47 = .ok (.iinc 3 1, 3) := by decide +kernel
theorem dX8_isUnit_50 : decode cX8_isUnit 50 = .ok (.goto (-38), 3) := by decide +kernel
theorem dX8_isUnit_53 : decode cX8_isUnit 53 = .ok (.iinc 2 1, 3) := by decide +kernel
theorem dX8_isUnit_56 : decode cX8_isUnit 56 = .ok (.goto (-54), 3) := by decide +kernel
theorem dX8_isUnit_59 : decode cX8_isUnit 59 = .ok (.iconst 1, 1) := by decide +kernel
theorem dX8_isUnit_60 : decode cX8_isUnit 60 = .ok (.ireturn, 1) := by decide +kernel
end
section
theorem dX9_init_0 : decode cX9_init 0 = .ok (.aload_n 0, 1) := by decide +kernel
theorem dX9_init_1 : decode cX9_init 1 = .ok (.invokespecial 1, 3) := by decide +kernel
theorem dX9_init_4 : decode cX9_init 4 = .ok (.return_, 1) := by decide +kernel
theorem dX9_leave_0 : decode cX9_leave 0 = .ok (.aload_n 0, 1) := by decide +kernel
theorem dX9_leave_1 : decode cX9_leave 1 = .ok (.bipush 31, 2) := by decide +kernel
theorem dX9_leave_3 : decode cX9_leave 3 = .ok (.aload_n 0, 1) := by decide +kernel
theorem dX9_leave_4 : decode cX9_leave 4 = .ok (.getfield 7, 3) := by decide +kernel
theorem dX9_leave_7 : decode cX9_leave 7 = .ok (.imul, 1) := by decide +kernel
theorem dX9_leave_8 : decode cX9_leave 8 = .ok (.iload_n 1, 1) := by decide +kernel
theorem dX9_leave_9 : decode cX9_leave 9 = .ok (.iadd, 1) := by decide +kernel
theorem dX9_leave_10 : decode cX9_leave 10 = .ok (.putfield 7, 3) := by decide +kernel
theorem dX9_leave_13 : decode cX9_leave 13 = .ok (.return_, 1) := by decide +kernel
end
section
/-! the heap of a system by cell numbers: cell c lies at ad c and holds en c -/
def wl (cs : List Nat) (ad : Nat → Nat) (en : Nat → va_E) : va_W := cs.map (fun c => (ad c, en c))
theorem wl_get {cs : List Nat} {ad : Nat → Nat} {en : Nat → va_E} {c : Nat} (h : c ∈ cs) : ∃ k : Nat, (wl cs ad en)[k]? = some (ad c, en c) ∧ cs[k]? = some c := by
  obtain ⟨k, hk⟩ := List.getElem?_of_mem h
  exact ⟨k, by unfold wl; rw [List.getElem?_map, hk]; rfl, hk⟩
theorem wl_of {cs : List Nat} {ad : Nat → Nat} {en : Nat → va_E} {k : Nat} {q : Nat × va_E} (h : (wl cs ad en)[k]? = some q) : ∃ c, cs[k]? = some c ∧ c ∈ cs ∧ q = (ad c, en c) := by
  unfold wl at h
  rw [List.getElem?_map] at h
  cases hk : cs[k]? with
  | none => rw [hk] at h; cases h
  | some c =>
    rw [hk] at h
    cases h
    exact ⟨c, rfl, List.mem_of_getElem? hk, rfl⟩
theorem wl_D {A : Nat → Prop} {cs : List Nat} {ad : Nat → Nat} {en en' : Nat → va_E} (h : va_D A (wl cs ad en)) : va_D A (wl cs ad en') := by
  refine ⟨fun i j p q hi hj hpq => ?_, fun k q hk => ?_⟩
  · obtain ⟨c, hc, -, rfl⟩ := wl_of hi
    obtain ⟨d, hd, -, rfl⟩ := wl_of hj
    exact h.1 i j (ad c, en c) (ad d, en d) (by unfold wl; rw [List.getElem?_map, hc]; rfl) (by unfold wl; rw [List.getElem?_map, hd]; rfl) hpq
  · obtain ⟨c, hc, -, rfl⟩ := wl_of hk
    exact h.2 k (ad c, en c) (by unfold wl; rw [List.getElem?_map, hc]; rfl)
theorem wl_inj {A : Nat → Prop} {cs : List Nat} {ad : Nat → Nat} {en : Nat → va_E} (h : va_D A (wl cs ad en)) {k j c : Nat} (hk : cs[k]? = some c) (hj : cs[j]? = some c) : k = j :=
  h.1 k j (ad c, en c) (ad c, en c) (by unfold wl; rw [List.getElem?_map, hk]; rfl) (by unfold wl; rw [List.getElem?_map, hj]; rfl) rfl
theorem wl_set {A : Nat → Prop} {cs : List Nat} {ad : Nat → Nat} {en : Nat → va_E} {c k : Nat} {x : va_E} (hD : va_D A (wl cs ad en)) (hk : cs[k]? = some c) : (wl cs ad en).set k (ad c, x) = wl cs ad (va_up en c x) := by
  have hl : k < (wl cs ad en).length := by
    unfold wl
    rw [List.length_map]
    exact (List.getElem?_eq_some_iff.mp hk).1
  apply List.ext_getElem?
  intro j
  by_cases hj : k = j
  · subst hj
    rw [List.getElem?_set_self hl]
    unfold wl
    rw [List.getElem?_map, hk]
    simp [va_up]
  · rw [List.getElem?_set_ne hj]
    unfold wl
    rw [List.getElem?_map, List.getElem?_map]
    cases hd : cs[j]? with
    | none => rfl
    | some d =>
      have hne : d ≠ c := fun q => hj (wl_inj hD hk (by rw [hd, q]))
      simp [va_up, hne]
def Hp (D : va_G) (A B : Nat → Prop) (H0 H : Heap) (locs : List Loc) (cs : List Nat) (ad : Nat → Nat) (en : Nat → va_E) : Prop := va_P D vwCl (wl cs ad en) H ∧ va_D B (wl cs ad en) ∧ va_S A H0 H locs
def Af (cs : List Nat) (ad : Nat → Nat) (sz : Nat) : Nat → Prop := fun q => (∃ c, c ∈ cs ∧ ad c = q) ∨ sz ≤ q
def Nf (sz : Nat) : Nat → Prop := fun q => sz ≤ q
def tyl (cy : Nat → ClassId) : List (ClassId × FieldType) := [(cy 0, .int), (cy 1, .long), (cy 2, .boolean), (cy 3, .object "AnyOrder$Table"), (cy 4, .object "AnyOrder$Survey"), (cy 5, .object "AnyOrder$Word"), (cy 6, .object "AnyOrder$Sheet"), (cy 7, .array .int), (cy 8, .array .long)]
def Pre (D : va_G) (cy : Nat → ClassId) (cs : List Nat) (ad : Nat → Nat) (en : Nat → va_E) (sz : Nat) (U : State) : Prop := U.heap.size = sz ∧ va_P D vwCl (wl cs ad en) U.heap ∧ va_K D vwCl (tyl cy) U ∧ va_D (fun _ => True) (wl cs ad en)
theorem pre_fb {D : va_G} {cy : Nat → ClassId} {cs : List Nat} {ad : Nat → Nat} {en : Nat → va_E} {sz : Nat} {av : List Value} : FrameBlind (va_Pc av (Pre D cy cs ad en sz)) := fun a U g mk q => by
  obtain ⟨q0, q1, qP, qK, qD⟩ := q
  exact ⟨q0, q1, qP, va_K.moved (u := U) (U := U.calling g mk a) (Vm.Alike.refl U.vm) qK, qD⟩
section LB1
variable {p : Program} {l : Launch} {e : Env} {R : Room} {s : State} {m : MethodId} {args : Array Value} {below : List Frame} {meth : Method} {c : Code} {H : Heap} {locs : List Loc} {cells slots : Nat} {Q : State → Prop}
variable {cc : ByteArray} {pc : Nat} {ls : Array Slot} {rest : List Value} {D : va_G} {A B : Nat → Prop} {cy : Nat → ClassId} {H0 : Heap} {cs : List Nat} {ad : Nat → Nat} {en : Nat → va_E}
theorem preS_of {As : List Value} (hh : Hp D A B H0 H locs cs ad en) (hK : va_K D vwCl (tyl cy) s) : PreS s H (va_Pc As (Pre D cy cs ad en H.size)) As :=
  ⟨pre_fb, fun U hU hW => ⟨rfl, by rw [hU], by rw [hU]; exact hh.1, va_K.moved hW.alike hK, hh.2.1.weaken (fun _ _ _ _ => trivial)⟩⟩
theorem preV_of {As : List Value} {q ci : Nat} {fs : List Value} {C : String} {T : u_T} {N : Nat} (hh : Hp D A B H0 H locs cs ad en) (hK : va_K D vwCl (tyl cy) s) (hq : q ∈ cs) (he : en q = .inr (ci, fs)) (hc : vwCl[ci]? = some (C, T, N)) : PreV s H C (ad q) (va_Pc (.ref (ad q) :: As) (Pre D cy cs ad en H.size)) As := by
  obtain ⟨k, hk, -⟩ := wl_get (ad := ad) (en := en) hq
  rw [he] at hk
  exact ⟨pre_fb, va_recv hK hh.1 hc hk, fun U hU hW => ⟨rfl, by rw [hU], by rw [hU]; exact hh.1, va_K.moved hW.alike hK, hh.2.1.weaken (fun _ _ _ _ => trivial)⟩⟩
theorem hp_get (hx : p.tables.exec = Jvm.exec) (hb : c.code = cc) (hts : ∀ w ∈ TB, w.before args s = true) {own ref C : String} {T : u_T} {N ci index : Nat} (hin : ∀ w ∈ u_ws C T N, w ∈ TB) (hown : s.vm.findClass own = some m.cls) (hK : va_K D vwCl (tyl cy) s) (hh : Hp D A B H0 H locs cs ad en) {q a : Nat} (ha : ad q = a) (hq : q ∈ cs) {fs : List Value} (he : en q = .inr (ci, fs)) (hc : vwCl[ci]? = some (C, T, N)) (k : Nat) (hk : k < N) (hlink : (Cond.fieldLink own index ref (T k).2.1 (T k).2.2.1).before args s = true) (hsame : ∀ x, s.fieldFound? (T k).1 (T k).2.1 (T k).2.2.1 = some x → s.fieldFound? ref (T k).2.1 (T k).2.2.1 = some x) {v : Value} (hv : fs[k]? = some v) (hdg : decode cc pc = .ok (.getfield index, 3))
    (kk : W p l e R s m args below meth c H locs cells slots Q (F0 m (pc + 3) ls (v :: rest))) : W p l e R s m args below meth c H locs cells slots Q (F0 m pc ls (.ref a :: rest)) := by
  subst ha
  obtain ⟨i, hi, -⟩ := wl_get (ad := ad) (en := en) hq
  rw [he] at hi
  exact va_get hx hb hts hin hown hK hh.1 i hi hc k hk hlink hsame hv hdg kk
theorem hp_put (hx : p.tables.exec = Jvm.exec) (hb : c.code = cc) (hts : ∀ w ∈ TB, w.before args s = true) {own ref C : String} {T : u_T} {N ci index : Nat} (hin : ∀ w ∈ u_ws C T N, w ∈ TB) (ty0 : Nat → FieldType) (hty : ∀ k, k < N → parseFieldDescriptor (T k).2.2.1 = some (ty0 k)) (hnm : ∀ a, a < N → ∀ b, b < N → a ≠ b → (T a).2.1 ≠ (T b).2.1) (hown : s.vm.findClass own = some m.cls) (hK : va_K D vwCl (tyl cy) s) (hh : Hp D A A H0 H locs cs ad en) {q a : Nat} (ha : ad q = a) (hq : q ∈ cs) {fs : List Value} (he : en q = .inr (ci, fs)) (hc : vwCl[ci]? = some (C, T, N)) (k : Nat) (hk : k < N) (hlink : (Cond.fieldLink own index ref (T k).2.1 (T k).2.2.1).before args s = true) (hsame : ∀ x, s.fieldFound? (T k).1 (T k).2.1 (T k).2.2.1 = some x → s.fieldFound? ref (T k).2.1 (T k).2.2.1 = some x) (hfin : (T k).2.2.2 = false) {ty : FieldType} {v : Value} (hd : parseFieldDescriptor (T k).2.2.1 = some ty) (hn : narrow ty v = v) (hfit : fits ty v = true) (hl : k < fs.length)
    (hdg : decode cc pc = .ok (.putfield index, 3)) (kk : ∀ (H1 : Heap) (locs1 : List Loc) (en1 : Nat → va_E), en1 = va_up en q (.inr (ci, fs.set k v)) → Hp D A A H0 H1 locs1 cs ad en1 → W p l e R s m args below meth c H1 locs1 cells slots Q (F0 m (pc + 3) ls rest)) : W p l e R s m args below meth c H locs cells slots Q (F0 m pc ls (v :: .ref a :: rest)) := by
  subst ha
  obtain ⟨i, hi, hci⟩ := wl_get (ad := ad) (en := en) hq
  rw [he] at hi
  refine va_put hx hb hts hin ty0 hty hnm hown hK hh.1 hh.2.1 hh.2.2 i hi hc k hk hlink hsame hfin hd hn hfit hl hdg (fun H1 locs1 hP hD hS => ?_)
  rw [wl_set hh.2.1 hci] at hP hD
  exact kk H1 locs1 _ rfl ⟨hP, hD, hS⟩
theorem hp_putF (hx : p.tables.exec = Jvm.exec) (hb : c.code = cc) (hts : ∀ w ∈ TB, w.before args s = true) {own ref C : String} {T : u_T} {N ci index : Nat} (hin : ∀ w ∈ u_ws C T N, w ∈ TB) (ty0 : Nat → FieldType) (hty : ∀ k, k < N → parseFieldDescriptor (T k).2.2.1 = some (ty0 k)) (hnm : ∀ a, a < N → ∀ b, b < N → a ≠ b → (T a).2.1 ≠ (T b).2.1) (hown : s.vm.findClass own = some m.cls) (hK : va_K D vwCl (tyl cy) s) (hh : Hp D A A H0 H locs cs ad en) {q a : Nat} (ha : ad q = a) (hq : q ∈ cs) {fs : List Value} (he : en q = .inr (ci, fs)) (hc : vwCl[ci]? = some (C, T, N)) (k : Nat) (hk : k < N) (hlink : (Cond.fieldLink own index ref (T k).2.1 (T k).2.2.1).before args s = true) (hsame : ∀ x, s.fieldFound? (T k).1 (T k).2.1 (T k).2.2.1 = some x → s.fieldFound? ref (T k).2.1 (T k).2.2.1 = some x) (hfin : (T k).2.2.2 = true) (hin2 : meth.name = "<init>") (hdecl : (T k).1 = own) {ty : FieldType} {v : Value} (hd : parseFieldDescriptor (T k).2.2.1 = some ty) (hn : narrow ty v = v) (hfit : fits ty v = true) (hl : k < fs.length)
    (hdg : decode cc pc = .ok (.putfield index, 3)) (kk : ∀ (H1 : Heap) (locs1 : List Loc) (en1 : Nat → va_E), en1 = va_up en q (.inr (ci, fs.set k v)) → Hp D A A H0 H1 locs1 cs ad en1 → W p l e R s m args below meth c H1 locs1 cells slots Q (F0 m (pc + 3) ls rest)) : W p l e R s m args below meth c H locs cells slots Q (F0 m pc ls (v :: .ref a :: rest)) := by
  subst ha
  obtain ⟨i, hi, hci⟩ := wl_get (ad := ad) (en := en) hq
  rw [he] at hi
  refine va_putF hx hb hts hin ty0 hty hnm hown hK hh.1 hh.2.1 hh.2.2 i hi hc k hk hlink hsame hfin hin2 hdecl hd hn hfit hl hdg (fun H1 locs1 hP hD hS => ?_)
  rw [wl_set hh.2.1 hci] at hP hD
  exact kk H1 locs1 _ rfl ⟨hP, hD, hS⟩
theorem hp_iald (hx : p.tables.exec = Jvm.exec) (hb : c.code = cc) (hK : va_K D vwCl (tyl cy) s) (hh : Hp D A B H0 H locs cs ad en) {q a : Nat} (ha : ad q = a) (hq : q ∈ cs) {n : Nat} {f : Nat → Int32} (he : en q = .inl (cy 0, n, .inl f)) {i : Int32} (hin : vp_in i n) (hdg : decode cc pc = .ok (.iaload, 1))
    (kk : W p l e R s m args below meth c H locs cells slots Q (F0 m (pc + 1) ls (.int (f i.toNatClampNeg) :: rest))) : W p l e R s m args below meth c H locs cells slots Q (F0 m pc ls (.int i :: .ref a :: rest)) := by
  subst ha
  obtain ⟨k, hk, -⟩ := wl_get (ad := ad) (en := en) hq
  rw [he] at hk
  exact va_iald hx hb hK hh.1 k 0 hk rfl hin hdg kk
theorem hp_zald (hx : p.tables.exec = Jvm.exec) (hb : c.code = cc) (hK : va_K D vwCl (tyl cy) s) (hh : Hp D A B H0 H locs cs ad en) {q a : Nat} (ha : ad q = a) (hq : q ∈ cs) {n : Nat} {f : Nat → Int32} (he : en q = .inl (cy 2, n, .inl f)) {i : Int32} (hin : vp_in i n) (hdg : decode cc pc = .ok (.baload, 1))
    (kk : W p l e R s m args below meth c H locs cells slots Q (F0 m (pc + 1) ls (.int (f i.toNatClampNeg) :: rest))) : W p l e R s m args below meth c H locs cells slots Q (F0 m pc ls (.int i :: .ref a :: rest)) := by
  subst ha
  obtain ⟨k, hk, -⟩ := wl_get (ad := ad) (en := en) hq
  rw [he] at hk
  exact va_zald hx hb hK hh.1 k 2 hk rfl hin hdg kk
theorem hp_lald (hx : p.tables.exec = Jvm.exec) (hb : c.code = cc) (hK : va_K D vwCl (tyl cy) s) (hh : Hp D A B H0 H locs cs ad en) {q a : Nat} (ha : ad q = a) (hq : q ∈ cs) {n : Nat} {f : Nat → Int64} (he : en q = .inl (cy 1, n, .inr (.inl f))) {i : Int32} (hin : vp_in i n) (hdg : decode cc pc = .ok (.laload, 1))
    (kk : W p l e R s m args below meth c H locs cells slots Q (F0 m (pc + 1) ls (.long (f i.toNatClampNeg) :: rest))) : W p l e R s m args below meth c H locs cells slots Q (F0 m pc ls (.int i :: .ref a :: rest)) := by
  subst ha
  obtain ⟨k, hk, -⟩ := wl_get (ad := ad) (en := en) hq
  rw [he] at hk
  exact va_lald hx hb hK hh.1 k 1 hk rfl hin hdg kk
theorem hp_iast (hx : p.tables.exec = Jvm.exec) (hb : c.code = cc) (hK : va_K D vwCl (tyl cy) s) (hh : Hp D A A H0 H locs cs ad en) {q a : Nat} (ha : ad q = a) (hq : q ∈ cs) {n : Nat} {f : Nat → Int32} (he : en q = .inl (cy 0, n, .inl f)) {i x : Int32} (hin : vp_in i n) (hdg : decode cc pc = .ok (.iastore, 1))
    (kk : ∀ (H1 : Heap) (locs1 : List Loc) (en1 : Nat → va_E), en1 = va_up en q (.inl (cy 0, n, .inl (upd f i.toNatClampNeg x))) → Hp D A A H0 H1 locs1 cs ad en1 → W p l e R s m args below meth c H1 locs1 cells slots Q (F0 m (pc + 1) ls rest)) : W p l e R s m args below meth c H locs cells slots Q (F0 m pc ls (.int x :: .int i :: .ref a :: rest)) := by
  subst ha
  obtain ⟨k, hk, hck⟩ := wl_get (ad := ad) (en := en) hq
  rw [he] at hk
  refine va_iast hx hb hK hh.1 hh.2.1 hh.2.2 k 0 hk rfl hin hdg (fun H1 locs1 hP hD hS => ?_)
  rw [wl_set hh.2.1 hck] at hP hD
  exact kk H1 locs1 _ rfl ⟨hP, hD, hS⟩
theorem hp_zast (hx : p.tables.exec = Jvm.exec) (hb : c.code = cc) (hK : va_K D vwCl (tyl cy) s) (hh : Hp D A A H0 H locs cs ad en) {q a : Nat} (ha : ad q = a) (hq : q ∈ cs) {n : Nat} {f : Nat → Int32} (he : en q = .inl (cy 2, n, .inl f)) {i x : Int32} (hin : vp_in i n) (hdg : decode cc pc = .ok (.bastore, 1))
    (kk : ∀ (H1 : Heap) (locs1 : List Loc) (en1 : Nat → va_E), en1 = va_up en q (.inl (cy 2, n, .inl (upd f i.toNatClampNeg (vp_nar .boolean x)))) → Hp D A A H0 H1 locs1 cs ad en1 → W p l e R s m args below meth c H1 locs1 cells slots Q (F0 m (pc + 1) ls rest)) : W p l e R s m args below meth c H locs cells slots Q (F0 m pc ls (.int x :: .int i :: .ref a :: rest)) := by
  subst ha
  obtain ⟨k, hk, hck⟩ := wl_get (ad := ad) (en := en) hq
  rw [he] at hk
  refine va_zast hx hb hK hh.1 hh.2.1 hh.2.2 k 2 hk rfl hin hdg (fun H1 locs1 hP hD hS => ?_)
  rw [wl_set hh.2.1 hck] at hP hD
  exact kk H1 locs1 _ rfl ⟨hP, hD, hS⟩
theorem hp_last (hx : p.tables.exec = Jvm.exec) (hb : c.code = cc) (hK : va_K D vwCl (tyl cy) s) (hh : Hp D A A H0 H locs cs ad en) {q a : Nat} (ha : ad q = a) (hq : q ∈ cs) {n : Nat} {f : Nat → Int64} (he : en q = .inl (cy 1, n, .inr (.inl f))) {i : Int32} {x : Int64} (hin : vp_in i n) (hdg : decode cc pc = .ok (.lastore, 1))
    (kk : ∀ (H1 : Heap) (locs1 : List Loc) (en1 : Nat → va_E), en1 = va_up en q (.inl (cy 1, n, .inr (.inl (vp_updL f i.toNatClampNeg x)))) → Hp D A A H0 H1 locs1 cs ad en1 → W p l e R s m args below meth c H1 locs1 cells slots Q (F0 m (pc + 1) ls rest)) : W p l e R s m args below meth c H locs cells slots Q (F0 m pc ls (.long x :: .int i :: .ref a :: rest)) := by
  subst ha
  obtain ⟨k, hk, hck⟩ := wl_get (ad := ad) (en := en) hq
  rw [he] at hk
  refine va_last hx hb hK hh.1 hh.2.1 hh.2.2 k 1 hk rfl hin hdg (fun H1 locs1 hP hD hS => ?_)
  rw [wl_set hh.2.1 hck] at hP hD
  exact kk H1 locs1 _ rfl ⟨hP, hD, hS⟩
theorem hp_alen (hx : p.tables.exec = Jvm.exec) (hb : c.code = cc) (hK : va_K D vwCl (tyl cy) s) (hh : Hp D A B H0 H locs cs ad en) {q a : Nat} (ha : ad q = a) (hq : q ∈ cs) (t0 : Nat) {x : vp_A} (he : en q = .inl (cy t0, x)) {ty : FieldType} (ht : (tyl cy)[t0]? = some (cy t0, ty)) {v : Int32} (hv : Int32.ofNat x.1 = v) (hdg : decode cc pc = .ok (.arraylength, 1))
    (kk : W p l e R s m args below meth c H locs cells slots Q (F0 m (pc + 1) ls (.int v :: rest))) : W p l e R s m args below meth c H locs cells slots Q (F0 m pc ls (.ref a :: rest)) := by
  subst ha
  obtain ⟨k, hk, -⟩ := wl_get (ad := ad) (en := en) hq
  rw [he] at hk
  exact va_alen hx hb hK hh.1 k t0 hk ht hv hdg kk
/-- a load out of an array of references (objects or arrays) -/
theorem hp_aald (hx : p.tables.exec = Jvm.exec) (hb : c.code = cc) (hK : va_K D vwCl (tyl cy) s) (hh : Hp D A B H0 H locs cs ad en) {q a : Nat} (ha : ad q = a) (hq : q ∈ cs) (t0 : Nat) {ty : FieldType} {n : Nat} {f : Nat → Option Nat} (he : en q = .inl (cy t0, n, .inr (.inr (.inr (.inr f))))) (ht : (tyl cy)[t0]? = some (cy t0, ty)) (hty : ty.isReference = true) {i : Int32} (hin : vp_in i n) {v : Value} (hv : va_rf (f i.toNatClampNeg) = v) (hdg : decode cc pc = .ok (.aaload, 1))
    (kk : W p l e R s m args below meth c H locs cells slots Q (F0 m (pc + 1) ls (v :: rest))) : W p l e R s m args below meth c H locs cells slots Q (F0 m pc ls (.int i :: .ref a :: rest)) := by
  subst ha
  obtain ⟨k, hk, -⟩ := wl_get (ad := ad) (en := en) hq
  rw [he] at hk
  subst hv
  have hlt : i.toNatClampNeg < n := Nat.not_le.mp fun q => hin (Or.inr q)
  exact W.aald (v := va_rf (f i.toNatClampNeg)) (ty := ty) hx hb (hh.1 k _ hk) ((hK.2 t0 _ ht).1 n (fun j => va_rf (f j))) hty (fun q => by cases q) (by show ¬ (i < 0 ∨ (arrV _ _ _).slots.size ≤ _); rw [arrV_size]; exact hin) (by show (arrV _ _ _).slots[_]? = _; rw [arrV_read _ _ hlt]) rfl rfl hdg kk
/-- calls: a callee that only reads -/
theorem hp_callRi {post : Int32 → Unit → Prop} {st0 : List Value} {av : Array Value} (hr : va_Run p l e R s m args below meth c H locs cells slots 0 0 (F0 m pc ls st0) rest (va_Qi post (fun _ _ => True) (Nf H.size) av) (Nf H.size)) (hh : Hp D A B H0 H locs cs ad en) (hA : ∀ q, H0.size ≤ q → A q)
    (kk : ∀ (r : Int32) (H1 : Heap) (locs1 : List Loc), post r () → Hp D A B H0 H1 locs1 cs ad en → W p l e R s m args below meth c H1 locs1 cells slots Q (F0 m (pc + 3) ls (.int r :: rest))) : W p l e R s m args below meth c H locs cells slots Q (F0 m pc ls st0) := by
  refine va_calli hr hh.2.2 (fun q h1 h2 => absurd h2 (Nat.not_le.mpr h1)) (fun q h => hA q (Nat.le_trans hh.2.2.1 h)) (fun r u t H1 locs1 ht hvm hw hB hz hk hS => ?_)
  exact kk r H1 locs1 hw ⟨hh.1.kept (fun k q hq => hk q.1 ((hh.1 k q hq).lt) (Nat.not_le.mpr ((hh.1 k q hq).lt))), hh.2.1, hS⟩
theorem hp_callRl {post : Int64 → Unit → Prop} {st0 : List Value} {av : Array Value} (hr : va_Run p l e R s m args below meth c H locs cells slots 0 0 (F0 m pc ls st0) rest (va_Ql post (fun _ _ => True) (Nf H.size) av) (Nf H.size)) (hh : Hp D A B H0 H locs cs ad en) (hA : ∀ q, H0.size ≤ q → A q)
    (kk : ∀ (r : Int64) (H1 : Heap) (locs1 : List Loc), post r () → Hp D A B H0 H1 locs1 cs ad en → W p l e R s m args below meth c H1 locs1 cells slots Q (F0 m (pc + 3) ls (.long r :: rest))) : W p l e R s m args below meth c H locs cells slots Q (F0 m pc ls st0) := by
  refine va_calll hr hh.2.2 (fun q h1 h2 => absurd h2 (Nat.not_le.mpr h1)) (fun q h => hA q (Nat.le_trans hh.2.2.1 h)) (fun r u t H1 locs1 ht hvm hw hB hz hk hS => ?_)
  exact kk r H1 locs1 hw ⟨hh.1.kept (fun k q hq => hk q.1 ((hh.1 k q hq).lt) (Nat.not_le.mpr ((hh.1 k q hq).lt))), hh.2.1, hS⟩
/-- a callee that only reads and answers a reference (or null) -/
theorem hp_callRq {post : Option Nat → Unit → Prop} {st0 : List Value} {av : Array Value} (hr : va_Run p l e R s m args below meth c H locs cells slots 0 0 (F0 m pc ls st0) rest (va_Qq post (fun _ _ => True) (Nf H.size) av) (Nf H.size)) (hh : Hp D A B H0 H locs cs ad en) (hA : ∀ q, H0.size ≤ q → A q)
    (kk : ∀ (r : Option Nat) (H1 : Heap) (locs1 : List Loc), post r () → Hp D A B H0 H1 locs1 cs ad en → W p l e R s m args below meth c H1 locs1 cells slots Q (F0 m (pc + 3) ls (va_rf r :: rest))) : W p l e R s m args below meth c H locs cells slots Q (F0 m pc ls st0) := by
  refine va_callq hr hh.2.2 (fun q h1 h2 => absurd h2 (Nat.not_le.mpr h1)) (fun q h => hA q (Nat.le_trans hh.2.2.1 h)) (fun r u t H1 locs1 ht hvm hw hB hz hk hS => ?_)
  exact kk r H1 locs1 hw ⟨hh.1.kept (fun k q hq => hk q.1 ((hh.1 k q hq).lt) (Nat.not_le.mpr ((hh.1 k q hq).lt))), hh.2.1, hS⟩
/-- calls: a callee that writes into the cells, and makes none -/
theorem Af_in (hh : Hp D A A H0 H locs cs ad en) (hA : ∀ q, H0.size ≤ q → A q) : ∀ q, Af cs ad H.size q → A q := by
  intro q h
  rcases h with ⟨c, hc, rfl⟩ | h
  · obtain ⟨k, hk, -⟩ := wl_get (ad := ad) (en := en) hc
    exact hh.2.1.2 k _ hk
  · exact hA q (Nat.le_trans hh.2.2.1 h)
def PostM (D : va_G) (cs : List Nat) (ad : Nat → Nat) : (Nat → va_E) → State → Prop := fun en t => va_P D vwCl (wl cs ad en) t.heap
theorem hp_callMi {post : Int32 → (Nat → va_E) → Prop} {st0 : List Value} {av : Array Value} (hr : va_Run p l e R s m args below meth c H locs cells slots 0 0 (F0 m pc ls st0) rest (va_Qi post (PostM D cs ad) (Af cs ad H.size) av) (Af cs ad H.size)) (hh : Hp D A A H0 H locs cs ad en) (hA : ∀ q, H0.size ≤ q → A q)
    (kk : ∀ (r : Int32) (H1 : Heap) (locs1 : List Loc) (en1 : Nat → va_E), post r en1 → Hp D A A H0 H1 locs1 cs ad en1 → W p l e R s m args below meth c H1 locs1 cells slots Q (F0 m (pc + 3) ls (.int r :: rest))) : W p l e R s m args below meth c H locs cells slots Q (F0 m pc ls st0) := by
  refine va_calli hr hh.2.2 (fun q _ h => Af_in hh hA q h) (Af_in hh hA) (fun r u t H1 locs1 ht hvm hw hB hz hk hS => ?_)
  exact kk r H1 locs1 u hw ⟨by rw [← ht]; exact hB, wl_D hh.2.1, hS⟩
theorem hp_callMl {post : Int64 → (Nat → va_E) → Prop} {st0 : List Value} {av : Array Value} (hr : va_Run p l e R s m args below meth c H locs cells slots 0 0 (F0 m pc ls st0) rest (va_Ql post (PostM D cs ad) (Af cs ad H.size) av) (Af cs ad H.size)) (hh : Hp D A A H0 H locs cs ad en) (hA : ∀ q, H0.size ≤ q → A q)
    (kk : ∀ (r : Int64) (H1 : Heap) (locs1 : List Loc) (en1 : Nat → va_E), post r en1 → Hp D A A H0 H1 locs1 cs ad en1 → W p l e R s m args below meth c H1 locs1 cells slots Q (F0 m (pc + 3) ls (.long r :: rest))) : W p l e R s m args below meth c H locs cells slots Q (F0 m pc ls st0) := by
  refine va_calll hr hh.2.2 (fun q _ h => Af_in hh hA q h) (Af_in hh hA) (fun r u t H1 locs1 ht hvm hw hB hz hk hS => ?_)
  exact kk r H1 locs1 u hw ⟨by rw [← ht]; exact hB, wl_D hh.2.1, hS⟩
theorem hp_callMv {post : (Nat → va_E) → Prop} {st0 : List Value} {av : Array Value} (hr : va_Run p l e R s m args below meth c H locs cells slots 0 0 (F0 m pc ls st0) rest (va_Qv post (PostM D cs ad) (Af cs ad H.size) av) (Af cs ad H.size)) (hh : Hp D A A H0 H locs cs ad en) (hA : ∀ q, H0.size ≤ q → A q)
    (kk : ∀ (H1 : Heap) (locs1 : List Loc) (en1 : Nat → va_E), post en1 → Hp D A A H0 H1 locs1 cs ad en1 → W p l e R s m args below meth c H1 locs1 cells slots Q (F0 m (pc + 3) ls (rest))) : W p l e R s m args below meth c H locs cells slots Q (F0 m pc ls st0) := by
  refine va_callv hr hh.2.2 (fun q _ h => Af_in hh hA q h) (Af_in hh hA) (fun u t H1 locs1 ht hvm hw hB hz hk hS => ?_)
  exact kk H1 locs1 u hw ⟨by rw [← ht]; exact hB, wl_D hh.2.1, hS⟩
theorem hp_callMq {post : Option Nat → (Nat → va_E) → Prop} {st0 : List Value} {av : Array Value} (hr : va_Run p l e R s m args below meth c H locs cells slots 0 0 (F0 m pc ls st0) rest (va_Qq post (PostM D cs ad) (Af cs ad H.size) av) (Af cs ad H.size)) (hh : Hp D A A H0 H locs cs ad en) (hA : ∀ q, H0.size ≤ q → A q)
    (kk : ∀ (r : Option Nat) (H1 : Heap) (locs1 : List Loc) (en1 : Nat → va_E), post r en1 → Hp D A A H0 H1 locs1 cs ad en1 → W p l e R s m args below meth c H1 locs1 cells slots Q (F0 m (pc + 3) ls (va_rf r :: rest))) : W p l e R s m args below meth c H locs cells slots Q (F0 m pc ls st0) := by
  refine va_callq hr hh.2.2 (fun q _ h => Af_in hh hA q h) (Af_in hh hA) (fun r u t H1 locs1 ht hvm hw hB hz hk hS => ?_)
  exact kk r H1 locs1 u hw ⟨by rw [← ht]; exact hB, wl_D hh.2.1, hS⟩
/-- ends -/
theorem hp_iretR {post : Int32 → Unit → Prop} {v : Int32} {sz : Nat} (hx : p.tables.exec = Jvm.exec) (hb : c.code = cc) {ty : FieldType} (hr : meth.sig.returnType = some ty) (hn : narrow ty (.int v) = .int v) (hlocks : meth.locks = false) (hsz : s.heap.size = sz) (hh : Hp D (Nf sz) B s.heap H locs cs ad en) (hpost : post v ()) (hdg : decode cc pc = .ok (.ireturn, 1)) : W p l e R s m args below meth c H locs cells slots (MQ below (va_Qi post (fun _ _ => True) (Nf sz)) args s cells slots (Nf sz)) (F0 m pc ls [.int v]) :=
  W.zret hx hb hr hn (fun t ht hW => ⟨⟨v, (), rfl, hpost, trivial⟩, hh.2.2.F ht⟩) hh.2.2.2.2 hdg hlocks
theorem hp_lretR {post : Int64 → Unit → Prop} {v : Int64} {sz : Nat} (hx : p.tables.exec = Jvm.exec) (hb : c.code = cc) (hr : meth.sig.returnType = some .long) (hlocks : meth.locks = false) (hsz : s.heap.size = sz) (hh : Hp D (Nf sz) B s.heap H locs cs ad en) (hpost : post v ()) (hdg : decode cc pc = .ok (.lreturn, 1)) : W p l e R s m args below meth c H locs cells slots (MQ below (va_Ql post (fun _ _ => True) (Nf sz)) args s cells slots (Nf sz)) (F0 m pc ls [.long v]) :=
  W.lret hx hb hr (fun t ht hW => ⟨⟨v, (), rfl, hpost, trivial⟩, hh.2.2.F ht⟩) hh.2.2.2.2 hdg hlocks
theorem hp_aretR {post : Option Nat → Unit → Prop} {v : Option Nat} {va : Value} (hv : va = va_rf v) {sz : Nat} (hx : p.tables.exec = Jvm.exec) (hb : c.code = cc) {rt : FieldType} (hr : meth.sig.returnType = some rt) (hrt : (∃ n, rt = .object n) ∨ ∃ t, rt = .array t) (hlocks : meth.locks = false) (hsz : s.heap.size = sz) (hh : Hp D (Nf sz) B s.heap H locs cs ad en) (hpost : post v ()) (hdg : decode cc pc = .ok (.areturn, 1)) : W p l e R s m args below meth c H locs cells slots (MQ below (va_Qq post (fun _ _ => True) (Nf sz)) args s cells slots (Nf sz)) (F0 m pc ls [va]) := by
  subst hv
  exact W.aret hx hb hr hrt (va_rf_or v) (fun t ht hW => ⟨⟨v, (), rfl, hpost, trivial⟩, hh.2.2.F ht⟩) hh.2.2.2.2 hdg hlocks
theorem hp_iretM {post : Int32 → (Nat → va_E) → Prop} {v : Int32} {F : Nat → Prop} (hx : p.tables.exec = Jvm.exec) (hb : c.code = cc) {ty : FieldType} (hr : meth.sig.returnType = some ty) (hn : narrow ty (.int v) = .int v) (hlocks : meth.locks = false) (hh : Hp D F B s.heap H locs cs ad en) (hpost : post v en) (hdg : decode cc pc = .ok (.ireturn, 1)) : W p l e R s m args below meth c H locs cells slots (MQ below (va_Qi post (PostM D cs ad) F) args s cells slots F) (F0 m pc ls [.int v]) :=
  W.zret hx hb hr hn (fun t ht hW => ⟨⟨v, en, rfl, hpost, by show va_P _ _ _ t.heap; rw [ht]; exact hh.1⟩, hh.2.2.F ht⟩) hh.2.2.2.2 hdg hlocks
theorem hp_lretM {post : Int64 → (Nat → va_E) → Prop} {v : Int64} {F : Nat → Prop} (hx : p.tables.exec = Jvm.exec) (hb : c.code = cc) (hr : meth.sig.returnType = some .long) (hlocks : meth.locks = false) (hh : Hp D F B s.heap H locs cs ad en) (hpost : post v en) (hdg : decode cc pc = .ok (.lreturn, 1)) : W p l e R s m args below meth c H locs cells slots (MQ below (va_Ql post (PostM D cs ad) F) args s cells slots F) (F0 m pc ls [.long v]) :=
  W.lret hx hb hr (fun t ht hW => ⟨⟨v, en, rfl, hpost, by show va_P _ _ _ t.heap; rw [ht]; exact hh.1⟩, hh.2.2.F ht⟩) hh.2.2.2.2 hdg hlocks
theorem hp_vretM {post : (Nat → va_E) → Prop} {F : Nat → Prop} (hx : p.tables.exec = Jvm.exec) (hb : c.code = cc) (hr : meth.sig.returnType = none) (hlocks : meth.locks = false) (hh : Hp D F B s.heap H locs cs ad en) (hpost : post en) (hdg : decode cc pc = .ok (.return_, 1)) : W p l e R s m args below meth c H locs cells slots (MQ below (va_Qv post (PostM D cs ad) F) args s cells slots F) (F0 m pc ls []) :=
  W.vret hx hb hr (fun t ht hW => ⟨⟨en, rfl, hpost, by show va_P _ _ _ t.heap; rw [ht]; exact hh.1⟩, hh.2.2.F ht⟩) hh.2.2.2.2 hdg hlocks
theorem hp_aretM {post : Option Nat → (Nat → va_E) → Prop} {v : Option Nat} {va : Value} (hv : va = va_rf v) {F : Nat → Prop} (hx : p.tables.exec = Jvm.exec) (hb : c.code = cc) {rt : FieldType} (hr : meth.sig.returnType = some rt) (hrt : (∃ n, rt = .object n) ∨ ∃ t, rt = .array t) (hlocks : meth.locks = false) (hh : Hp D F B s.heap H locs cs ad en) (hpost : post v en) (hdg : decode cc pc = .ok (.areturn, 1)) : W p l e R s m args below meth c H locs cells slots (MQ below (va_Qq post (PostM D cs ad) F) args s cells slots F) (F0 m pc ls [va]) := by
  subst hv
  exact W.aret hx hb hr hrt (va_rf_or v) (fun t ht hW => ⟨⟨v, en, rfl, hpost, by show va_P _ _ _ t.heap; rw [ht]; exact hh.1⟩, hh.2.2.F ht⟩) hh.2.2.2.2 hdg hlocks
end LB1
/-- the room of a method whose calls go d deep and that makes nothing -/
abbrev rmN (d : Nat) : Room := { frames := d, cells := 0, slots := 0, locals := 40 * d }
end
section
theorem Af_self {cs : List Nat} {ad : Nat → Nat} {en : Nat → va_E} {sz : Nat} (h : va_D (fun _ => True) (wl cs ad en)) : va_D (Af cs ad sz) (wl cs ad en) := ⟨h.1, fun k q hk => by
  obtain ⟨c, -, hc, rfl⟩ := wl_of hk
  exact Or.inl ⟨c, hc, rfl⟩⟩
theorem tb_out {x : Int32} {lo hi : Int} (n : Nat) (h : hi = lo + n - 1) (_ : True) (hj : ∀ j : Nat, j < n → ¬ x.toInt = lo + (j : Int)) : x.toInt < lo ∨ hi < x.toInt := by
  rcases Int.lt_or_le x.toInt lo with h1 | h1
  · exact Or.inl h1
  · rcases Int.lt_or_le hi x.toInt with h2 | h2
    · exact Or.inr h2
    · exact absurd (by omega) (hj (x.toInt - lo).toNat (by omega))
abbrev wi (v a b : Int32) : Prop := a.toInt ≤ v.toInt ∧ v.toInt ≤ b.toInt
abbrev wj (v a b : Int64) : Prop := a.toInt ≤ v.toInt ∧ v.toInt ≤ b.toInt
theorem wj_32 {k a b : Int32} {a' b' : Int64} (ha : a'.toInt = a.toInt) (hb : b'.toInt = b.toInt) : wj k.toInt64 a' b' ↔ wi k a b := by
  unfold wj wi
  rw [Int32.toInt_toInt64, ha, hb]
theorem i_lt {x y : Int32} (h : x < y) : x.toInt < y.toInt := Int32.lt_iff_toInt_lt.mp h
theorem i_nlt {x y : Int32} (h : ¬ x < y) : y.toInt ≤ x.toInt := by
  have h2 : ¬ x.toInt < y.toInt := fun q => h (Int32.lt_iff_toInt_lt.mpr q)
  omega
theorem i_le {x y : Int32} (h : x ≤ y) : x.toInt ≤ y.toInt := Int32.le_iff_toInt_le.mp h
theorem i_nle {x y : Int32} (h : ¬ x ≤ y) : y.toInt < x.toInt := by
  have h2 : ¬ x.toInt ≤ y.toInt := fun q => h (Int32.le_iff_toInt_le.mpr q)
  omega
theorem i_eq {x y : Int32} (h : x = y) : x.toInt = y.toInt := congrArg Int32.toInt h
theorem i_neq {x y : Int32} (h : ¬ x = y) : x.toInt ≠ y.toInt := fun q => h (Int32.toInt_inj.mp q)
theorem l_lt {x y : Int64} (h : x < y) : x.toInt < y.toInt := Int64.lt_iff_toInt_lt.mp h
theorem l_nlt {x y : Int64} (h : ¬ x < y) : y.toInt ≤ x.toInt := by
  have h2 : ¬ x.toInt < y.toInt := fun q => h (Int64.lt_iff_toInt_lt.mpr q)
  omega
/-- an index that was tested lies within -/
theorem wi_in {v b : Int32} (n : Nat) (h : wi v 0 b) (hb : b.toInt + 1 = n) : vp_in v n := vp_in_iff.mpr ⟨by have := h.1; simpa using this, by have := h.2; omega⟩
theorem wi_cl {v b : Int32} (n : Nat) (h : wi v 0 b) (hb : b.toInt + 1 = n) (hn : n < 2 ^ 31) : ∃ j : Nat, j < n ∧ v = nI j ∧ v.toNatClampNeg = j := by
  obtain ⟨j, hj, rfl⟩ := vp_in_of (wi_in n h hb) hn
  exact ⟨j, hj, rfl, nI_clamp (by omega)⟩
theorem wi_lt {v b : Int32} (n : Nat) (h : wi v 0 b) (hb : b.toInt + 1 = n) : v.toNatClampNeg < n := Nat.not_le.mp fun q => wi_in n h hb (Or.inr q)
theorem va_up_id {α : Type} {f : Nat → α} {c : Nat} {x : α} (h : f c = x) : va_up f c x = f := by
  funext j
  by_cases hj : j = c
  · subst hj; rw [va_up_self, h]
  · rw [va_up_ne _ _ hj]
def sp3 (k lane : Int32) : Int32 := if wi k 0 3 then (if wi lane 0 2 then -11 else -2) else -1
theorem sp3_a {k lane : Int32} (h : wi k 0 3) (h2 : wi lane 0 2) : sp3 k lane = -11 := by unfold sp3; rw [if_pos h, if_pos h2]
theorem sp3_b {k lane : Int32} (h : wi k 0 3) (h2 : ¬ wi lane 0 2) : sp3 k lane = -2 := by unfold sp3; rw [if_pos h, if_neg h2]
theorem sp3_c {k lane : Int32} (h : ¬ wi k 0 3) : sp3 k lane = -1 := by unfold sp3; rw [if_neg h]
theorem g_lt {x y : Int64} (h : lg_cmp x y < 0) : x.toInt < y.toInt := Int64.lt_iff_toInt_lt.mp ((lg_cmp_lt _ _).mp h)
theorem g_nlt {x y : Int64} (h : ¬ lg_cmp x y < 0) : y.toInt ≤ x.toInt := l_nlt (fun q => h ((lg_cmp_lt _ _).mpr q))
theorem g_gt {x y : Int64} (h : 0 < lg_cmp x y) : y.toInt < x.toInt := Int64.lt_iff_toInt_lt.mp ((lg_cmp_gt _ _).mp h)
theorem g_ngt {x y : Int64} (h : ¬ 0 < lg_cmp x y) : x.toInt ≤ y.toInt := l_nlt (fun q => h ((lg_cmp_gt _ _).mpr q))
theorem g_le {x y : Int64} (h : lg_cmp x y ≤ 0) : x.toInt ≤ y.toInt := Int64.le_iff_toInt_le.mp ((lg_cmp_le _ _).mp h)
theorem g_ge {x y : Int64} (h : 0 ≤ lg_cmp x y) : y.toInt ≤ x.toInt := Int64.le_iff_toInt_le.mp ((lg_cmp_ge _ _).mp h)
theorem g_nle {x y : Int64} (h : ¬ lg_cmp x y ≤ 0) : y.toInt < x.toInt := by
  have h2 : ¬ x.toInt ≤ y.toInt := fun q => h ((lg_cmp_le _ _).mpr (Int64.le_iff_toInt_le.mpr q))
  omega
theorem g_nge {x y : Int64} (h : ¬ 0 ≤ lg_cmp x y) : x.toInt < y.toInt := by
  have h2 : ¬ y.toInt ≤ x.toInt := fun q => h ((lg_cmp_ge _ _).mpr (Int64.le_iff_toInt_le.mpr q))
  omega
theorem g_eq {x y : Int64} (h : lg_cmp x y = 0) : x.toInt = y.toInt := congrArg Int64.toInt ((lg_cmp_eq _ _).mp h)
theorem g_neq {x y : Int64} (h : ¬ lg_cmp x y = 0) : x.toInt ≠ y.toInt := fun q => h ((lg_cmp_eq _ _).mpr (Int64.toInt_inj.mp q))
end
section
set_option maxHeartbeats 4000000 in
set_option maxRecDepth 100000 in
/-- isWithin -/
theorem c_X11_isWithin (l : Launch) (D : va_G) (cy : Nat → ClassId) (sz : Nat) (cs : List Nat) (ad : Nat → Nat) (en : Nat → va_E) (v a b : Int32)  : Met l yX11_isWithin (Cond.code yX11_isWithin cX11_isWithin 3 (some .boolean) :: TB) (rmN 0) (va_Pc [.int v, .int a, .int b] (Pre D cy cs ad en sz)) (va_Qi (S := Unit) (fun r _ => r = if wi v a b then 1 else 0) (fun _ _ => True) (Nf sz)) 0 0 (Nf sz) := by
  refine Met.ofW (cc := cX11_isWithin) (maxL := 3) (ret := (some .boolean)) (by decide) rfl ?_
  intro p e s m args below meth c s₁ B hml hv
  obtain ⟨rfl, hsz, hP, hK, hD0⟩ := hv
  have hx := B.exec
  have hb := B.bytes
  have hr := B.returns
  have hts : ∀ w ∈ TB, w.before _ s = true := fun w h => atoms_spec (ws := _ :: TB) B.pre w (List.mem_cons_of_mem _ h)
  have hown : s.vm.findClass RX11 = some m.cls := findClass_of_methodNamed B.named
  have hlocks := B.notSynchronized
  have hh : Hp D (Nf sz) (fun _ => True) s.heap s.heap [] cs ad en := ⟨hP, hD0, va_S.rf⟩
  have hA : ∀ q : Nat, s.heap.size ≤ q → Nf sz q := fun q h => by rw [hsz] at h; exact h
  have hl := lv_entry ([.int v, .int a, .int b]) (n := 3) (Nat.le_of_ble_eq_true rfl)
  rw [lg_entry_eq]
  generalize (lg_sl ([.int v, .int a, .int b]) ++ List.replicate (3 - (lg_sl ([.int v, .int a, .int b])).length) Slot.unset).toArray = ls at hl ⊢
  have hl : lv_has ls 3 [(0, .int v), (1, .int a), (2, .int b)] := hl
  refine lv_iload_n hx hb dX11_isWithin_0 rfl (lv_at hl 0 rfl) ?_
  refine lv_iload_n hx hb dX11_isWithin_1 rfl (lv_at hl 1 rfl) ?_
  refine lv_icmp_lt (tgt := 14) hx hb dX11_isWithin_2 (by decide) (fun c_1 => ?_) (fun c_1 => ?_)
  · refine lv_iconst (v := 0) hx hb dX11_isWithin_14 (by decide) ?_
    have := i_lt c_1
    exact hp_iretR hx hb hr rfl hlocks hsz hh ((if_neg (by omega)).symm) dX11_isWithin_15
  · refine lv_iload_n hx hb dX11_isWithin_5 rfl (lv_at hl 0 rfl) ?_
    refine lv_iload_n hx hb dX11_isWithin_6 rfl (lv_at hl 2 rfl) ?_
    refine lv_icmp_gt (tgt := 14) hx hb dX11_isWithin_7 (by decide) (fun c_2 => ?_) (fun c_2 => ?_)
    · refine lv_iconst (v := 0) hx hb dX11_isWithin_14 (by decide) ?_
      have := i_nlt c_1
      have := i_lt c_2
      exact hp_iretR hx hb hr rfl hlocks hsz hh ((if_neg (by omega)).symm) dX11_isWithin_15
    · refine lv_iconst (v := 1) hx hb dX11_isWithin_10 (by decide) ?_
      refine lv_goto (tgt := 15) hx hb dX11_isWithin_11 (by decide) ?_
      have := i_nlt c_1
      have := i_nlt c_2
      exact hp_iretR hx hb hr rfl hlocks hsz hh ((if_pos (by omega)).symm) dX11_isWithin_15
theorem kw_X11_isWithin {R : Room} {s : State} {args : Array Value} {idx : Nat} (hts : ∀ w ∈ TB, w.before args s = true) (hl : Cond.methodLink RX11 idx yX11_isWithin ∈ TB) (hR : 0 + 1 ≤ R.frames ∧ 8 + (3 + 11) + 40 * 0 ≤ R.locals) : CallB R s args RX11 idx yX11_isWithin cX11_isWithin 3 (some .boolean) (Cond.code yX11_isWithin cX11_isWithin 3 (some .boolean) :: TB) (rmN 0) 0 0 3 ∧ (Cond.static yX11_isWithin).before args s = true := cwS 3 hts (TB_S hl tw_275 tw_1 tw_276) rfl rfl rfl (by decide +kernel) hR
set_option maxHeartbeats 4000000 in
set_option maxRecDepth 100000 in
/-- isSheet -/
theorem c_X11_isSheet (l : Launch) (D : va_G) (cy : Nat → ClassId) (sz : Nat) (cs : List Nat) (ad : Nat → Nat) (en : Nat → va_E) (k : Int32)  : Met l yX11_isSheet (Cond.code yX11_isSheet cX11_isSheet 1 (some .boolean) :: TB) (rmN 1) (va_Pc [.int k] (Pre D cy cs ad en sz)) (va_Qi (S := Unit) (fun r _ => r = if wi k 0 3 then 1 else 0) (fun _ _ => True) (Nf sz)) 0 0 (Nf sz) := by
  refine Met.ofW (cc := cX11_isSheet) (maxL := 1) (ret := (some .boolean)) (by decide) rfl ?_
  intro p e s m args below meth c s₁ B hml hv
  obtain ⟨rfl, hsz, hP, hK, hD0⟩ := hv
  have hx := B.exec
  have hb := B.bytes
  have hr := B.returns
  have hts : ∀ w ∈ TB, w.before _ s = true := fun w h => atoms_spec (ws := _ :: TB) B.pre w (List.mem_cons_of_mem _ h)
  have hown : s.vm.findClass RX11 = some m.cls := findClass_of_methodNamed B.named
  have hlocks := B.notSynchronized
  have hh : Hp D (Nf sz) (fun _ => True) s.heap s.heap [] cs ad en := ⟨hP, hD0, va_S.rf⟩
  have hA : ∀ q : Nat, s.heap.size ≤ q → Nf sz q := fun q h => by rw [hsz] at h; exact h
  have hl := lv_entry ([.int k]) (n := 1) (Nat.le_of_ble_eq_true rfl)
  rw [lg_entry_eq]
  generalize (lg_sl ([.int k]) ++ List.replicate (1 - (lg_sl ([.int k])).length) Slot.unset).toArray = ls at hl ⊢
  have hl : lv_has ls 1 [(0, .int k)] := hl
  refine lv_iload_n hx hb dX11_isSheet_0 rfl (lv_at hl 0 rfl) ?_
  refine lv_iconst (v := 0) hx hb dX11_isSheet_1 (by decide) ?_
  refine lv_iconst (v := 3) hx hb dX11_isSheet_2 (by decide) ?_
  refine hp_callRi (va_runS (As := [.int k, .int 0, .int 3]) (rest := []) ⟨hx, hb, hml, hown, hts⟩ (c_X11_isWithin l D cy _ cs ad en k 0 3 ) (kw_X11_isWithin hts tw_274 ⟨by decide, by decide⟩) (preS_of hh hK) rfl rfl hl.1 rfl (lv_room (Nat.le_of_ble_eq_true rfl)) dX11_isSheet_3 ⟨Nat.le_of_ble_eq_true rfl, Nat.le_of_ble_eq_true rfl⟩) hh hA (fun r_3 H locs hw_3 hh => ?_)
  rcases Decidable.em (wi k 0 3) with hp_3 | hp_3
  · obtain rfl : r_3 = 1 := Eq.trans hw_3 (if_pos hp_3)
    exact hp_iretR hx hb hr rfl hlocks hsz hh ((if_pos hp_3).symm) dX11_isSheet_6
  · obtain rfl : r_3 = 0 := Eq.trans hw_3 (if_neg hp_3)
    exact hp_iretR hx hb hr rfl hlocks hsz hh ((if_neg hp_3).symm) dX11_isSheet_6
theorem kw_X11_isSheet {R : Room} {s : State} {args : Array Value} {idx : Nat} (hts : ∀ w ∈ TB, w.before args s = true) (hl : Cond.methodLink RX11 idx yX11_isSheet ∈ TB) (hR : 1 + 1 ≤ R.frames ∧ 8 + (1 + 11) + 40 * 1 ≤ R.locals) : CallB R s args RX11 idx yX11_isSheet cX11_isSheet 1 (some .boolean) (Cond.code yX11_isSheet cX11_isSheet 1 (some .boolean) :: TB) (rmN 1) 0 0 1 ∧ (Cond.static yX11_isSheet).before args s = true := cwS 1 hts (TB_S hl tw_306 tw_1 tw_307) rfl rfl rfl (by decide +kernel) hR
set_option maxHeartbeats 4000000 in
set_option maxRecDepth 100000 in
/-- isLane -/
theorem c_X11_isLane (l : Launch) (D : va_G) (cy : Nat → ClassId) (sz : Nat) (cs : List Nat) (ad : Nat → Nat) (en : Nat → va_E) (k : Int32)  : Met l yX11_isLane (Cond.code yX11_isLane cX11_isLane 1 (some .boolean) :: TB) (rmN 1) (va_Pc [.int k] (Pre D cy cs ad en sz)) (va_Qi (S := Unit) (fun r _ => r = if wi k 0 2 then 1 else 0) (fun _ _ => True) (Nf sz)) 0 0 (Nf sz) := by
  refine Met.ofW (cc := cX11_isLane) (maxL := 1) (ret := (some .boolean)) (by decide) rfl ?_
  intro p e s m args below meth c s₁ B hml hv
  obtain ⟨rfl, hsz, hP, hK, hD0⟩ := hv
  have hx := B.exec
  have hb := B.bytes
  have hr := B.returns
  have hts : ∀ w ∈ TB, w.before _ s = true := fun w h => atoms_spec (ws := _ :: TB) B.pre w (List.mem_cons_of_mem _ h)
  have hown : s.vm.findClass RX11 = some m.cls := findClass_of_methodNamed B.named
  have hlocks := B.notSynchronized
  have hh : Hp D (Nf sz) (fun _ => True) s.heap s.heap [] cs ad en := ⟨hP, hD0, va_S.rf⟩
  have hA : ∀ q : Nat, s.heap.size ≤ q → Nf sz q := fun q h => by rw [hsz] at h; exact h
  have hl := lv_entry ([.int k]) (n := 1) (Nat.le_of_ble_eq_true rfl)
  rw [lg_entry_eq]
  generalize (lg_sl ([.int k]) ++ List.replicate (1 - (lg_sl ([.int k])).length) Slot.unset).toArray = ls at hl ⊢
  have hl : lv_has ls 1 [(0, .int k)] := hl
  refine lv_iload_n hx hb dX11_isLane_0 rfl (lv_at hl 0 rfl) ?_
  refine lv_iconst (v := 0) hx hb dX11_isLane_1 (by decide) ?_
  refine lv_iconst (v := 2) hx hb dX11_isLane_2 (by decide) ?_
  refine hp_callRi (va_runS (As := [.int k, .int 0, .int 2]) (rest := []) ⟨hx, hb, hml, hown, hts⟩ (c_X11_isWithin l D cy _ cs ad en k 0 2 ) (kw_X11_isWithin hts tw_274 ⟨by decide, by decide⟩) (preS_of hh hK) rfl rfl hl.1 rfl (lv_room (Nat.le_of_ble_eq_true rfl)) dX11_isLane_3 ⟨Nat.le_of_ble_eq_true rfl, Nat.le_of_ble_eq_true rfl⟩) hh hA (fun r_4 H locs hw_4 hh => ?_)
  rcases Decidable.em (wi k 0 2) with hp_4 | hp_4
  · obtain rfl : r_4 = 1 := Eq.trans hw_4 (if_pos hp_4)
    exact hp_iretR hx hb hr rfl hlocks hsz hh ((if_pos hp_4).symm) dX11_isLane_6
  · obtain rfl : r_4 = 0 := Eq.trans hw_4 (if_neg hp_4)
    exact hp_iretR hx hb hr rfl hlocks hsz hh ((if_neg hp_4).symm) dX11_isLane_6
theorem kw_X11_isLane {R : Room} {s : State} {args : Array Value} {idx : Nat} (hts : ∀ w ∈ TB, w.before args s = true) (hl : Cond.methodLink RX11 idx yX11_isLane ∈ TB) (hR : 1 + 1 ≤ R.frames ∧ 8 + (1 + 11) + 40 * 1 ≤ R.locals) : CallB R s args RX11 idx yX11_isLane cX11_isLane 1 (some .boolean) (Cond.code yX11_isLane cX11_isLane 1 (some .boolean) :: TB) (rmN 1) 0 0 1 ∧ (Cond.static yX11_isLane).before args s = true := cwS 1 hts (TB_S hl tw_309 tw_1 tw_310) rfl rfl rfl (by decide +kernel) hR
set_option maxHeartbeats 4000000 in
set_option maxRecDepth 100000 in
/-- faultAnswer -/
theorem c_X11_faultAnswer (l : Launch) (D : va_G) (cy : Nat → ClassId) (sz : Nat) (cs : List Nat) (ad : Nat → Nat) (en : Nat → va_E) (k : Int32)  : Met l yX11_faultAnswer (Cond.code yX11_faultAnswer cX11_faultAnswer 1 (some .int) :: TB) (rmN 0) (va_Pc [.int k] (Pre D cy cs ad en sz)) (va_Qi (S := Unit) (fun r _ => r = (-10) - k) (fun _ _ => True) (Nf sz)) 0 0 (Nf sz) := by
  refine Met.ofW (cc := cX11_faultAnswer) (maxL := 1) (ret := (some .int)) (by decide) rfl ?_
  intro p e s m args below meth c s₁ B hml hv
  obtain ⟨rfl, hsz, hP, hK, hD0⟩ := hv
  have hx := B.exec
  have hb := B.bytes
  have hr := B.returns
  have hts : ∀ w ∈ TB, w.before _ s = true := fun w h => atoms_spec (ws := _ :: TB) B.pre w (List.mem_cons_of_mem _ h)
  have hown : s.vm.findClass RX11 = some m.cls := findClass_of_methodNamed B.named
  have hlocks := B.notSynchronized
  have hh : Hp D (Nf sz) (fun _ => True) s.heap s.heap [] cs ad en := ⟨hP, hD0, va_S.rf⟩
  have hA : ∀ q : Nat, s.heap.size ≤ q → Nf sz q := fun q h => by rw [hsz] at h; exact h
  have hl := lv_entry ([.int k]) (n := 1) (Nat.le_of_ble_eq_true rfl)
  rw [lg_entry_eq]
  generalize (lg_sl ([.int k]) ++ List.replicate (1 - (lg_sl ([.int k])).length) Slot.unset).toArray = ls at hl ⊢
  have hl : lv_has ls 1 [(0, .int k)] := hl
  refine lv_bipush (v := (-10)) hx hb dX11_faultAnswer_0 (by decide) ?_
  refine lv_iload_n hx hb dX11_faultAnswer_2 rfl (lv_at hl 0 rfl) ?_
  refine lv_isub hx hb dX11_faultAnswer_3 ?_
  exact hp_iretR hx hb hr rfl hlocks hsz hh (rfl) dX11_faultAnswer_4
theorem kw_X11_faultAnswer {R : Room} {s : State} {args : Array Value} {idx : Nat} (hts : ∀ w ∈ TB, w.before args s = true) (hl : Cond.methodLink RX11 idx yX11_faultAnswer ∈ TB) (hR : 0 + 1 ≤ R.frames ∧ 8 + (1 + 11) + 40 * 0 ≤ R.locals) : CallB R s args RX11 idx yX11_faultAnswer cX11_faultAnswer 1 (some .int) (Cond.code yX11_faultAnswer cX11_faultAnswer 1 (some .int) :: TB) (rmN 0) 0 0 1 ∧ (Cond.static yX11_faultAnswer).before args s = true := cwS 1 hts (TB_S hl tw_312 tw_1 tw_313) rfl rfl rfl (by decide +kernel) hR
set_option maxHeartbeats 4000000 in
set_option maxRecDepth 100000 in
/-- count -/
theorem c_X8_count (l : Launch) (D : va_G) (cy : Nat → ClassId) (sz : Nat) (cs : List Nat) (ad : Nat → Nat) (en : Nat → va_E) (hcs : ∀ c, c < 115 → c ∈ cs) (cnt dd mm : Int32) (e1 : en 1 = .inr (7, [.ref (ad 2), .ref (ad 3), .ref (ad 10), .ref (ad 11), .int cnt, .int dd, .int mm])) : Met l yX8_count (Cond.code yX8_count cX8_count 1 (some .int) :: TB) (rmN 0) (va_Pc [.ref (ad 1)] (Pre D cy cs ad en sz)) (va_Qi (S := Unit) (fun r _ => r = cnt) (fun _ _ => True) (Nf sz)) 0 0 (Nf sz) := by
  refine Met.ofW (cc := cX8_count) (maxL := 1) (ret := (some .int)) (by decide) rfl ?_
  intro p e s m args below meth c s₁ B hml hv
  obtain ⟨rfl, hsz, hP, hK, hD0⟩ := hv
  have hx := B.exec
  have hb := B.bytes
  have hr := B.returns
  have hts : ∀ w ∈ TB, w.before _ s = true := fun w h => atoms_spec (ws := _ :: TB) B.pre w (List.mem_cons_of_mem _ h)
  have hown : s.vm.findClass RX8 = some m.cls := findClass_of_methodNamed B.named
  have hlocks := B.notSynchronized
  have hh : Hp D (Nf sz) (fun _ => True) s.heap s.heap [] cs ad en := ⟨hP, hD0, va_S.rf⟩
  have hA : ∀ q : Nat, s.heap.size ≤ q → Nf sz q := fun q h => by rw [hsz] at h; exact h
  have hl := lv_entry ([.ref (ad 1)]) (n := 1) (Nat.le_of_ble_eq_true rfl)
  rw [lg_entry_eq]
  generalize (lg_sl ([.ref (ad 1)]) ++ List.replicate (1 - (lg_sl ([.ref (ad 1)])).length) Slot.unset).toArray = ls at hl ⊢
  have hl : lv_has ls 1 [(0, .ref (ad 1))] := hl
  refine lv_aload_n hx hb dX8_count_0 rfl (lv_at hl 0 rfl) ?_
  refine hp_get hx hb hts ix8 hown hK hh (q := 1) rfl (hcs _ (by decide)) e1 rfl 4 (by decide) (hts _ tw_43) (fun _ h9 => h9) rfl dX8_count_1 ?_
  exact hp_iretR hx hb hr rfl hlocks hsz hh (rfl) dX8_count_4
theorem kw_X8_count {R : Room} {s : State} {args : Array Value} {own : String} {idx : Nat} (hts : ∀ w ∈ TB, w.before args s = true) (hl : Cond.methodLink own idx yX8_count ∈ TB) (hR : 0 + 1 ≤ R.frames ∧ 8 + (1 + 11) + 40 * 0 ≤ R.locals) : CallW R s args own RX8 idx yX8_count cX8_count 1 (some .int) (Cond.code yX8_count cX8_count 1 (some .int) :: TB) (rmN 0) 0 0 0 := cwV 0 hts (TB_V hl tw_319 tw_320 tw_2 tw_321) rfl rfl rfl (by decide +kernel) hR
set_option maxHeartbeats 4000000 in
set_option maxRecDepth 100000 in
/-- dimension -/
theorem c_X8_dimension (l : Launch) (D : va_G) (cy : Nat → ClassId) (sz : Nat) (cs : List Nat) (ad : Nat → Nat) (en : Nat → va_E) (hcs : ∀ c, c < 115 → c ∈ cs) (cnt dd mm : Int32) (e1 : en 1 = .inr (7, [.ref (ad 2), .ref (ad 3), .ref (ad 10), .ref (ad 11), .int cnt, .int dd, .int mm])) : Met l yX8_dimension (Cond.code yX8_dimension cX8_dimension 1 (some .int) :: TB) (rmN 0) (va_Pc [.ref (ad 1)] (Pre D cy cs ad en sz)) (va_Qi (S := Unit) (fun r _ => r = dd) (fun _ _ => True) (Nf sz)) 0 0 (Nf sz) := by
  refine Met.ofW (cc := cX8_dimension) (maxL := 1) (ret := (some .int)) (by decide) rfl ?_
  intro p e s m args below meth c s₁ B hml hv
  obtain ⟨rfl, hsz, hP, hK, hD0⟩ := hv
  have hx := B.exec
  have hb := B.bytes
  have hr := B.returns
  have hts : ∀ w ∈ TB, w.before _ s = true := fun w h => atoms_spec (ws := _ :: TB) B.pre w (List.mem_cons_of_mem _ h)
  have hown : s.vm.findClass RX8 = some m.cls := findClass_of_methodNamed B.named
  have hlocks := B.notSynchronized
  have hh : Hp D (Nf sz) (fun _ => True) s.heap s.heap [] cs ad en := ⟨hP, hD0, va_S.rf⟩
  have hA : ∀ q : Nat, s.heap.size ≤ q → Nf sz q := fun q h => by rw [hsz] at h; exact h
  have hl := lv_entry ([.ref (ad 1)]) (n := 1) (Nat.le_of_ble_eq_true rfl)
  rw [lg_entry_eq]
  generalize (lg_sl ([.ref (ad 1)]) ++ List.replicate (1 - (lg_sl ([.ref (ad 1)])).length) Slot.unset).toArray = ls at hl ⊢
  have hl : lv_has ls 1 [(0, .ref (ad 1))] := hl
  refine lv_aload_n hx hb dX8_dimension_0 rfl (lv_at hl 0 rfl) ?_
  refine hp_get hx hb hts ix8 hown hK hh (q := 1) rfl (hcs _ (by decide)) e1 rfl 5 (by decide) (hts _ tw_44) (fun _ h9 => h9) rfl dX8_dimension_1 ?_
  exact hp_iretR hx hb hr rfl hlocks hsz hh (rfl) dX8_dimension_4
theorem kw_X8_dimension {R : Room} {s : State} {args : Array Value} {own : String} {idx : Nat} (hts : ∀ w ∈ TB, w.before args s = true) (hl : Cond.methodLink own idx yX8_dimension ∈ TB) (hR : 0 + 1 ≤ R.frames ∧ 8 + (1 + 11) + 40 * 0 ≤ R.locals) : CallW R s args own RX8 idx yX8_dimension cX8_dimension 1 (some .int) (Cond.code yX8_dimension cX8_dimension 1 (some .int) :: TB) (rmN 0) 0 0 0 := cwV 0 hts (TB_V hl tw_571 tw_572 tw_2 tw_573) rfl rfl rfl (by decide +kernel) hR
set_option maxHeartbeats 4000000 in
set_option maxRecDepth 100000 in
/-- modulus -/
theorem c_X8_modulus (l : Launch) (D : va_G) (cy : Nat → ClassId) (sz : Nat) (cs : List Nat) (ad : Nat → Nat) (en : Nat → va_E) (hcs : ∀ c, c < 115 → c ∈ cs) (cnt dd mm : Int32) (e1 : en 1 = .inr (7, [.ref (ad 2), .ref (ad 3), .ref (ad 10), .ref (ad 11), .int cnt, .int dd, .int mm])) : Met l yX8_modulus (Cond.code yX8_modulus cX8_modulus 1 (some .int) :: TB) (rmN 0) (va_Pc [.ref (ad 1)] (Pre D cy cs ad en sz)) (va_Qi (S := Unit) (fun r _ => r = mm) (fun _ _ => True) (Nf sz)) 0 0 (Nf sz) := by
  refine Met.ofW (cc := cX8_modulus) (maxL := 1) (ret := (some .int)) (by decide) rfl ?_
  intro p e s m args below meth c s₁ B hml hv
  obtain ⟨rfl, hsz, hP, hK, hD0⟩ := hv
  have hx := B.exec
  have hb := B.bytes
  have hr := B.returns
  have hts : ∀ w ∈ TB, w.before _ s = true := fun w h => atoms_spec (ws := _ :: TB) B.pre w (List.mem_cons_of_mem _ h)
  have hown : s.vm.findClass RX8 = some m.cls := findClass_of_methodNamed B.named
  have hlocks := B.notSynchronized
  have hh : Hp D (Nf sz) (fun _ => True) s.heap s.heap [] cs ad en := ⟨hP, hD0, va_S.rf⟩
  have hA : ∀ q : Nat, s.heap.size ≤ q → Nf sz q := fun q h => by rw [hsz] at h; exact h
  have hl := lv_entry ([.ref (ad 1)]) (n := 1) (Nat.le_of_ble_eq_true rfl)
  rw [lg_entry_eq]
  generalize (lg_sl ([.ref (ad 1)]) ++ List.replicate (1 - (lg_sl ([.ref (ad 1)])).length) Slot.unset).toArray = ls at hl ⊢
  have hl : lv_has ls 1 [(0, .ref (ad 1))] := hl
  refine lv_aload_n hx hb dX8_modulus_0 rfl (lv_at hl 0 rfl) ?_
  refine hp_get hx hb hts ix8 hown hK hh (q := 1) rfl (hcs _ (by decide)) e1 rfl 6 (by decide) (hts _ tw_45) (fun _ h9 => h9) rfl dX8_modulus_1 ?_
  exact hp_iretR hx hb hr rfl hlocks hsz hh (rfl) dX8_modulus_4
theorem kw_X8_modulus {R : Room} {s : State} {args : Array Value} {own : String} {idx : Nat} (hts : ∀ w ∈ TB, w.before args s = true) (hl : Cond.methodLink own idx yX8_modulus ∈ TB) (hR : 0 + 1 ≤ R.frames ∧ 8 + (1 + 11) + 40 * 0 ≤ R.locals) : CallW R s args own RX8 idx yX8_modulus cX8_modulus 1 (some .int) (Cond.code yX8_modulus cX8_modulus 1 (some .int) :: TB) (rmN 0) 0 0 0 := cwV 0 hts (TB_V hl tw_562 tw_563 tw_2 tw_564) rfl rfl rfl (by decide +kernel) hR
set_option maxHeartbeats 4000000 in
set_option maxRecDepth 100000 in
/-- has -/
theorem c_X8_has (l : Launch) (D : va_G) (cy : Nat → ClassId) (sz : Nat) (cs : List Nat) (ad : Nat → Nat) (en : Nat → va_E) (hcs : ∀ c, c < 115 → c ∈ cs) (cnt dd mm : Int32) (t : Int32) (e1 : en 1 = .inr (7, [.ref (ad 2), .ref (ad 3), .ref (ad 10), .ref (ad 11), .int cnt, .int dd, .int mm])) : Met l yX8_has (Cond.code yX8_has cX8_has 2 (some .boolean) :: TB) (rmN 0) (va_Pc [.ref (ad 1), .int t] (Pre D cy cs ad en sz)) (va_Qi (S := Unit) (fun r _ => r = if (0 ≤ t.toInt ∧ t.toInt < cnt.toInt) then 1 else 0) (fun _ _ => True) (Nf sz)) 0 0 (Nf sz) := by
  refine Met.ofW (cc := cX8_has) (maxL := 2) (ret := (some .boolean)) (by decide) rfl ?_
  intro p e s m args below meth c s₁ B hml hv
  obtain ⟨rfl, hsz, hP, hK, hD0⟩ := hv
  have hx := B.exec
  have hb := B.bytes
  have hr := B.returns
  have hts : ∀ w ∈ TB, w.before _ s = true := fun w h => atoms_spec (ws := _ :: TB) B.pre w (List.mem_cons_of_mem _ h)
  have hown : s.vm.findClass RX8 = some m.cls := findClass_of_methodNamed B.named
  have hlocks := B.notSynchronized
  have hh : Hp D (Nf sz) (fun _ => True) s.heap s.heap [] cs ad en := ⟨hP, hD0, va_S.rf⟩
  have hA : ∀ q : Nat, s.heap.size ≤ q → Nf sz q := fun q h => by rw [hsz] at h; exact h
  have hl := lv_entry ([.ref (ad 1), .int t]) (n := 2) (Nat.le_of_ble_eq_true rfl)
  rw [lg_entry_eq]
  generalize (lg_sl ([.ref (ad 1), .int t]) ++ List.replicate (2 - (lg_sl ([.ref (ad 1), .int t])).length) Slot.unset).toArray = ls at hl ⊢
  have hl : lv_has ls 2 [(0, .ref (ad 1)), (1, .int t)] := hl
  refine lv_iload_n hx hb dX8_has_0 rfl (lv_at hl 1 rfl) ?_
  refine lv_if_lt (tgt := 16) hx hb dX8_has_1 (by decide) (fun c_5 => ?_) (fun c_5 => ?_)
  · refine lv_iconst (v := 0) hx hb dX8_has_16 (by decide) ?_
    have : (0 : Int32).toInt = 0 := by decide
    have := i_lt c_5
    exact hp_iretR hx hb hr rfl hlocks hsz hh ((if_neg (by omega)).symm) dX8_has_17
  · refine lv_iload_n hx hb dX8_has_4 rfl (lv_at hl 1 rfl) ?_
    refine lv_aload_n hx hb dX8_has_5 rfl (lv_at hl 0 rfl) ?_
    refine hp_get hx hb hts ix8 hown hK hh (q := 1) rfl (hcs _ (by decide)) e1 rfl 4 (by decide) (hts _ tw_43) (fun _ h9 => h9) rfl dX8_has_6 ?_
    refine lv_icmp_ge (tgt := 16) hx hb dX8_has_9 (by decide) (fun c_6 => ?_) (fun c_6 => ?_)
    · refine lv_iconst (v := 0) hx hb dX8_has_16 (by decide) ?_
      have : (0 : Int32).toInt = 0 := by decide
      have := i_nlt c_5
      have := i_le c_6
      exact hp_iretR hx hb hr rfl hlocks hsz hh ((if_neg (by omega)).symm) dX8_has_17
    · refine lv_iconst (v := 1) hx hb dX8_has_12 (by decide) ?_
      refine lv_goto (tgt := 17) hx hb dX8_has_13 (by decide) ?_
      have : (0 : Int32).toInt = 0 := by decide
      have := i_nlt c_5
      have := i_nle c_6
      exact hp_iretR hx hb hr rfl hlocks hsz hh ((if_pos (by omega)).symm) dX8_has_17
theorem kw_X8_has {R : Room} {s : State} {args : Array Value} {own : String} {idx : Nat} (hts : ∀ w ∈ TB, w.before args s = true) (hl : Cond.methodLink own idx yX8_has ∈ TB) (hR : 0 + 1 ≤ R.frames ∧ 8 + (2 + 11) + 40 * 0 ≤ R.locals) : CallW R s args own RX8 idx yX8_has cX8_has 2 (some .boolean) (Cond.code yX8_has cX8_has 2 (some .boolean) :: TB) (rmN 0) 0 0 1 := cwV 1 hts (TB_V hl tw_413 tw_414 tw_2 tw_415) rfl rfl rfl (by decide +kernel) hR
set_option maxHeartbeats 4000000 in
set_option maxRecDepth 100000 in
/-- cellCount -/
theorem c_X8_cellCount (l : Launch) (D : va_G) (cy : Nat → ClassId) (sz : Nat) (cs : List Nat) (ad : Nat → Nat) (en : Nat → va_E) (hcs : ∀ c, c < 115 → c ∈ cs) (cnt dd mm : Int32) (e1 : en 1 = .inr (7, [.ref (ad 2), .ref (ad 3), .ref (ad 10), .ref (ad 11), .int cnt, .int dd, .int mm])) : Met l yX8_cellCount (Cond.code yX8_cellCount cX8_cellCount 1 (some .int) :: TB) (rmN 0) (va_Pc [.ref (ad 1)] (Pre D cy cs ad en sz)) (va_Qi (S := Unit) (fun r _ => r = dd * dd) (fun _ _ => True) (Nf sz)) 0 0 (Nf sz) := by
  refine Met.ofW (cc := cX8_cellCount) (maxL := 1) (ret := (some .int)) (by decide) rfl ?_
  intro p e s m args below meth c s₁ B hml hv
  obtain ⟨rfl, hsz, hP, hK, hD0⟩ := hv
  have hx := B.exec
  have hb := B.bytes
  have hr := B.returns
  have hts : ∀ w ∈ TB, w.before _ s = true := fun w h => atoms_spec (ws := _ :: TB) B.pre w (List.mem_cons_of_mem _ h)
  have hown : s.vm.findClass RX8 = some m.cls := findClass_of_methodNamed B.named
  have hlocks := B.notSynchronized
  have hh : Hp D (Nf sz) (fun _ => True) s.heap s.heap [] cs ad en := ⟨hP, hD0, va_S.rf⟩
  have hA : ∀ q : Nat, s.heap.size ≤ q → Nf sz q := fun q h => by rw [hsz] at h; exact h
  have hl := lv_entry ([.ref (ad 1)]) (n := 1) (Nat.le_of_ble_eq_true rfl)
  rw [lg_entry_eq]
  generalize (lg_sl ([.ref (ad 1)]) ++ List.replicate (1 - (lg_sl ([.ref (ad 1)])).length) Slot.unset).toArray = ls at hl ⊢
  have hl : lv_has ls 1 [(0, .ref (ad 1))] := hl
  refine lv_aload_n hx hb dX8_cellCount_0 rfl (lv_at hl 0 rfl) ?_
  refine hp_get hx hb hts ix8 hown hK hh (q := 1) rfl (hcs _ (by decide)) e1 rfl 5 (by decide) (hts _ tw_44) (fun _ h9 => h9) rfl dX8_cellCount_1 ?_
  refine lv_aload_n hx hb dX8_cellCount_4 rfl (lv_at hl 0 rfl) ?_
  refine hp_get hx hb hts ix8 hown hK hh (q := 1) rfl (hcs _ (by decide)) e1 rfl 5 (by decide) (hts _ tw_44) (fun _ h9 => h9) rfl dX8_cellCount_5 ?_
  refine lv_imul hx hb dX8_cellCount_8 ?_
  exact hp_iretR hx hb hr rfl hlocks hsz hh (rfl) dX8_cellCount_9
theorem kw_X8_cellCount {R : Room} {s : State} {args : Array Value} {own : String} {idx : Nat} (hts : ∀ w ∈ TB, w.before args s = true) (hl : Cond.methodLink own idx yX8_cellCount ∈ TB) (hR : 0 + 1 ≤ R.frames ∧ 8 + (1 + 11) + 40 * 0 ≤ R.locals) : CallW R s args own RX8 idx yX8_cellCount cX8_cellCount 1 (some .int) (Cond.code yX8_cellCount cX8_cellCount 1 (some .int) :: TB) (rmN 0) 0 0 0 := cwV 0 hts (TB_V hl tw_298 tw_299 tw_2 tw_300) rfl rfl rfl (by decide +kernel) hR
set_option maxHeartbeats 4000000 in
set_option maxRecDepth 100000 in
/-- within -/
theorem c_X12_within (l : Launch) (D : va_G) (cy : Nat → ClassId) (sz : Nat) (cs : List Nat) (ad : Nat → Nat) (en : Nat → va_E) (v a b : Int64)  : Met l yX12_within (Cond.code yX12_within cX12_within 6 (some .boolean) :: TB) (rmN 0) (va_Pc [.long v, .long a, .long b] (Pre D cy cs ad en sz)) (va_Qi (S := Unit) (fun r _ => r = if wj v a b then 1 else 0) (fun _ _ => True) (Nf sz)) 0 0 (Nf sz) := by
  refine Met.ofW (cc := cX12_within) (maxL := 6) (ret := (some .boolean)) (by decide) rfl ?_
  intro p e s m args below meth c s₁ B hml hv
  obtain ⟨rfl, hsz, hP, hK, hD0⟩ := hv
  have hx := B.exec
  have hb := B.bytes
  have hr := B.returns
  have hts : ∀ w ∈ TB, w.before _ s = true := fun w h => atoms_spec (ws := _ :: TB) B.pre w (List.mem_cons_of_mem _ h)
  have hown : s.vm.findClass RX12 = some m.cls := findClass_of_methodNamed B.named
  have hlocks := B.notSynchronized
  have hh : Hp D (Nf sz) (fun _ => True) s.heap s.heap [] cs ad en := ⟨hP, hD0, va_S.rf⟩
  have hA : ∀ q : Nat, s.heap.size ≤ q → Nf sz q := fun q h => by rw [hsz] at h; exact h
  have hl := lv_entry ([.long v, .long a, .long b]) (n := 6) (Nat.le_of_ble_eq_true rfl)
  rw [lg_entry_eq]
  generalize (lg_sl ([.long v, .long a, .long b]) ++ List.replicate (6 - (lg_sl ([.long v, .long a, .long b])).length) Slot.unset).toArray = ls at hl ⊢
  have hl : lv_has ls 6 [(0, .long v), (2, .long a), (4, .long b)] := hl
  refine lv_lload_n hx hb dX12_within_0 rfl (lv_at hl 0 rfl) ?_
  refine lv_lload_n hx hb dX12_within_1 rfl (lv_at hl 1 rfl) ?_
  refine W.lcmp hx hb dX12_within_2 ?_
  refine lv_if_lt (tgt := 17) hx hb dX12_within_3 (by decide) (fun c_7 => ?_) (fun c_7 => ?_)
  · refine lv_iconst (v := 0) hx hb dX12_within_17 (by decide) ?_
    have : (0 : Int32).toInt = 0 := by decide
    have := g_lt c_7
    exact hp_iretR hx hb hr rfl hlocks hsz hh ((if_neg (by omega)).symm) dX12_within_18
  · refine lv_lload_n hx hb dX12_within_6 rfl (lv_at hl 0 rfl) ?_
    refine lv_lload hx hb dX12_within_7 (lv_at hl 2 rfl) ?_
    refine W.lcmp hx hb dX12_within_9 ?_
    refine lv_if_gt (tgt := 17) hx hb dX12_within_10 (by decide) (fun c_8 => ?_) (fun c_8 => ?_)
    · refine lv_iconst (v := 0) hx hb dX12_within_17 (by decide) ?_
      have : (0 : Int32).toInt = 0 := by decide
      have := g_nlt c_7
      have := g_gt c_8
      exact hp_iretR hx hb hr rfl hlocks hsz hh ((if_neg (by omega)).symm) dX12_within_18
    · refine lv_iconst (v := 1) hx hb dX12_within_13 (by decide) ?_
      refine lv_goto (tgt := 18) hx hb dX12_within_14 (by decide) ?_
      have : (0 : Int32).toInt = 0 := by decide
      have := g_nlt c_7
      have := g_ngt c_8
      exact hp_iretR hx hb hr rfl hlocks hsz hh ((if_pos (by omega)).symm) dX12_within_18
theorem kw_X12_within {R : Room} {s : State} {args : Array Value} {idx : Nat} (hts : ∀ w ∈ TB, w.before args s = true) (hl : Cond.methodLink RX12 idx yX12_within ∈ TB) (hR : 0 + 1 ≤ R.frames ∧ 8 + (6 + 11) + 40 * 0 ≤ R.locals) : CallB R s args RX12 idx yX12_within cX12_within 6 (some .boolean) (Cond.code yX12_within cX12_within 6 (some .boolean) :: TB) (rmN 0) 0 0 3 ∧ (Cond.static yX12_within).before args s = true := cwS 3 hts (TB_S hl tw_986 tw_9 tw_987) rfl rfl rfl (by decide +kernel) hR
set_option maxHeartbeats 4000000 in
set_option maxRecDepth 100000 in
/-- isTable -/
theorem c_X12_isTable (l : Launch) (D : va_G) (cy : Nat → ClassId) (sz : Nat) (cs : List Nat) (ad : Nat → Nat) (en : Nat → va_E) (hcs : ∀ c, c < 20 → c ∈ cs) (m_fault : Int32) (m_history : Int32) (m_wide : Int32) (m_modulus : Int32) (m_tables : Int32) (m_depth : Int32) (m_many : Int64) (m_greatest : Int64) (m_least : Int64) (m_noughts : Int64) (m_ringMany : Int32) (m_ringBest : Int64) (m_products : Int32) (m_words : Int32) (t : Int32) (m0 : en 0 = .inr (11, [.int m_fault, .int m_history, .int m_wide, .int m_modulus, .int m_tables, .ref (ad 1), .ref (ad 2), .ref (ad 3), .ref (ad 4), .ref (ad 5), .ref (ad 6), .ref (ad 7), .ref (ad 8), .ref (ad 9), .int m_depth, .long m_many, .long m_greatest, .long m_least, .long m_noughts, .ref (ad 10), .ref (ad 11), .ref (ad 12), .int m_ringMany, .long m_ringBest, .ref (ad 13), .int m_products, .ref (ad 14), .ref (ad 15), .ref (ad 16), .ref (ad 17), .int m_words, .ref (ad 18), .ref (ad 19)])) : Met l yX12_isTable (Cond.code yX12_isTable cX12_isTable 2 (some .boolean) :: TB) (rmN 0) (va_Pc [.ref (ad 0), .int t] (Pre D cy cs ad en sz)) (va_Qi (S := Unit) (fun r _ => r = if (0 ≤ t.toInt ∧ t.toInt < m_tables.toInt) then 1 else 0) (fun _ _ => True) (Nf sz)) 0 0 (Nf sz) := by
  refine Met.ofW (cc := cX12_isTable) (maxL := 2) (ret := (some .boolean)) (by decide) rfl ?_
  intro p e s m args below meth c s₁ B hml hv
  obtain ⟨rfl, hsz, hP, hK, hD0⟩ := hv
  have hx := B.exec
  have hb := B.bytes
  have hr := B.returns
  have hts : ∀ w ∈ TB, w.before _ s = true := fun w h => atoms_spec (ws := _ :: TB) B.pre w (List.mem_cons_of_mem _ h)
  have hown : s.vm.findClass RX12 = some m.cls := findClass_of_methodNamed B.named
  have hlocks := B.notSynchronized
  have hh : Hp D (Nf sz) (fun _ => True) s.heap s.heap [] cs ad en := ⟨hP, hD0, va_S.rf⟩
  have hA : ∀ q : Nat, s.heap.size ≤ q → Nf sz q := fun q h => by rw [hsz] at h; exact h
  have hl := lv_entry ([.ref (ad 0), .int t]) (n := 2) (Nat.le_of_ble_eq_true rfl)
  rw [lg_entry_eq]
  generalize (lg_sl ([.ref (ad 0), .int t]) ++ List.replicate (2 - (lg_sl ([.ref (ad 0), .int t])).length) Slot.unset).toArray = ls at hl ⊢
  have hl : lv_has ls 2 [(0, .ref (ad 0)), (1, .int t)] := hl
  refine lv_iload_n hx hb dX12_isTable_0 rfl (lv_at hl 1 rfl) ?_
  refine lv_if_lt (tgt := 16) hx hb dX12_isTable_1 (by decide) (fun c_9 => ?_) (fun c_9 => ?_)
  · refine lv_iconst (v := 0) hx hb dX12_isTable_16 (by decide) ?_
    have : (0 : Int32).toInt = 0 := by decide
    have := i_lt c_9
    exact hp_iretR hx hb hr rfl hlocks hsz hh ((if_neg (by omega)).symm) dX12_isTable_17
  · refine lv_iload_n hx hb dX12_isTable_4 rfl (lv_at hl 1 rfl) ?_
    refine lv_aload_n hx hb dX12_isTable_5 rfl (lv_at hl 0 rfl) ?_
    refine hp_get hx hb hts ix12 hown hK hh (q := 0) rfl (hcs _ (by decide)) m0 rfl 4 (by decide) (hts _ tw_883) (fun _ h9 => h9) rfl dX12_isTable_6 ?_
    refine lv_icmp_ge (tgt := 16) hx hb dX12_isTable_9 (by decide) (fun c_10 => ?_) (fun c_10 => ?_)
    · refine lv_iconst (v := 0) hx hb dX12_isTable_16 (by decide) ?_
      have : (0 : Int32).toInt = 0 := by decide
      have := i_nlt c_9
      have := i_le c_10
      exact hp_iretR hx hb hr rfl hlocks hsz hh ((if_neg (by omega)).symm) dX12_isTable_17
    · refine lv_iconst (v := 1) hx hb dX12_isTable_12 (by decide) ?_
      refine lv_goto (tgt := 17) hx hb dX12_isTable_13 (by decide) ?_
      have : (0 : Int32).toInt = 0 := by decide
      have := i_nlt c_9
      have := i_nle c_10
      exact hp_iretR hx hb hr rfl hlocks hsz hh ((if_pos (by omega)).symm) dX12_isTable_17
theorem kw_X12_isTable {R : Room} {s : State} {args : Array Value} {own : String} {idx : Nat} (hts : ∀ w ∈ TB, w.before args s = true) (hl : Cond.methodLink own idx yX12_isTable ∈ TB) (hR : 0 + 1 ≤ R.frames ∧ 8 + (2 + 11) + 40 * 0 ≤ R.locals) : CallW R s args own RX12 idx yX12_isTable cX12_isTable 2 (some .boolean) (Cond.code yX12_isTable cX12_isTable 2 (some .boolean) :: TB) (rmN 0) 0 0 1 := cwV 1 hts (TB_V hl tw_1009 ts_33 tw_9 tw_1010) rfl rfl rfl (by decide +kernel) hR
set_option maxHeartbeats 4000000 in
set_option maxRecDepth 100000 in
/-- isProduct -/
theorem c_X12_isProduct (l : Launch) (D : va_G) (cy : Nat → ClassId) (sz : Nat) (cs : List Nat) (ad : Nat → Nat) (en : Nat → va_E) (hcs : ∀ c, c < 20 → c ∈ cs) (m_fault : Int32) (m_history : Int32) (m_wide : Int32) (m_modulus : Int32) (m_tables : Int32) (m_depth : Int32) (m_many : Int64) (m_greatest : Int64) (m_least : Int64) (m_noughts : Int64) (m_ringMany : Int32) (m_ringBest : Int64) (m_products : Int32) (m_words : Int32) (t : Int32) (m0 : en 0 = .inr (11, [.int m_fault, .int m_history, .int m_wide, .int m_modulus, .int m_tables, .ref (ad 1), .ref (ad 2), .ref (ad 3), .ref (ad 4), .ref (ad 5), .ref (ad 6), .ref (ad 7), .ref (ad 8), .ref (ad 9), .int m_depth, .long m_many, .long m_greatest, .long m_least, .long m_noughts, .ref (ad 10), .ref (ad 11), .ref (ad 12), .int m_ringMany, .long m_ringBest, .ref (ad 13), .int m_products, .ref (ad 14), .ref (ad 15), .ref (ad 16), .ref (ad 17), .int m_words, .ref (ad 18), .ref (ad 19)])) : Met l yX12_isProduct (Cond.code yX12_isProduct cX12_isProduct 2 (some .boolean) :: TB) (rmN 0) (va_Pc [.ref (ad 0), .int t] (Pre D cy cs ad en sz)) (va_Qi (S := Unit) (fun r _ => r = if (0 ≤ t.toInt ∧ t.toInt < m_products.toInt) then 1 else 0) (fun _ _ => True) (Nf sz)) 0 0 (Nf sz) := by
  refine Met.ofW (cc := cX12_isProduct) (maxL := 2) (ret := (some .boolean)) (by decide) rfl ?_
  intro p e s m args below meth c s₁ B hml hv
  obtain ⟨rfl, hsz, hP, hK, hD0⟩ := hv
  have hx := B.exec
  have hb := B.bytes
  have hr := B.returns
  have hts : ∀ w ∈ TB, w.before _ s = true := fun w h => atoms_spec (ws := _ :: TB) B.pre w (List.mem_cons_of_mem _ h)
  have hown : s.vm.findClass RX12 = some m.cls := findClass_of_methodNamed B.named
  have hlocks := B.notSynchronized
  have hh : Hp D (Nf sz) (fun _ => True) s.heap s.heap [] cs ad en := ⟨hP, hD0, va_S.rf⟩
  have hA : ∀ q : Nat, s.heap.size ≤ q → Nf sz q := fun q h => by rw [hsz] at h; exact h
  have hl := lv_entry ([.ref (ad 0), .int t]) (n := 2) (Nat.le_of_ble_eq_true rfl)
  rw [lg_entry_eq]
  generalize (lg_sl ([.ref (ad 0), .int t]) ++ List.replicate (2 - (lg_sl ([.ref (ad 0), .int t])).length) Slot.unset).toArray = ls at hl ⊢
  have hl : lv_has ls 2 [(0, .ref (ad 0)), (1, .int t)] := hl
  refine lv_iload_n hx hb dX12_isProduct_0 rfl (lv_at hl 1 rfl) ?_
  refine lv_if_lt (tgt := 16) hx hb dX12_isProduct_1 (by decide) (fun c_11 => ?_) (fun c_11 => ?_)
  · refine lv_iconst (v := 0) hx hb dX12_isProduct_16 (by decide) ?_
    have : (0 : Int32).toInt = 0 := by decide
    have := i_lt c_11
    exact hp_iretR hx hb hr rfl hlocks hsz hh ((if_neg (by omega)).symm) dX12_isProduct_17
  · refine lv_iload_n hx hb dX12_isProduct_4 rfl (lv_at hl 1 rfl) ?_
    refine lv_aload_n hx hb dX12_isProduct_5 rfl (lv_at hl 0 rfl) ?_
    refine hp_get hx hb hts ix12 hown hK hh (q := 0) rfl (hcs _ (by decide)) m0 rfl 25 (by decide) (hts _ tw_904) (fun _ h9 => h9) rfl dX12_isProduct_6 ?_
    refine lv_icmp_ge (tgt := 16) hx hb dX12_isProduct_9 (by decide) (fun c_12 => ?_) (fun c_12 => ?_)
    · refine lv_iconst (v := 0) hx hb dX12_isProduct_16 (by decide) ?_
      have : (0 : Int32).toInt = 0 := by decide
      have := i_nlt c_11
      have := i_le c_12
      exact hp_iretR hx hb hr rfl hlocks hsz hh ((if_neg (by omega)).symm) dX12_isProduct_17
    · refine lv_iconst (v := 1) hx hb dX12_isProduct_12 (by decide) ?_
      refine lv_goto (tgt := 17) hx hb dX12_isProduct_13 (by decide) ?_
      have : (0 : Int32).toInt = 0 := by decide
      have := i_nlt c_11
      have := i_nle c_12
      exact hp_iretR hx hb hr rfl hlocks hsz hh ((if_pos (by omega)).symm) dX12_isProduct_17
theorem kw_X12_isProduct {R : Room} {s : State} {args : Array Value} {own : String} {idx : Nat} (hts : ∀ w ∈ TB, w.before args s = true) (hl : Cond.methodLink own idx yX12_isProduct ∈ TB) (hR : 0 + 1 ≤ R.frames ∧ 8 + (2 + 11) + 40 * 0 ≤ R.locals) : CallW R s args own RX12 idx yX12_isProduct cX12_isProduct 2 (some .boolean) (Cond.code yX12_isProduct cX12_isProduct 2 (some .boolean) :: TB) (rmN 0) 0 0 1 := cwV 1 hts (TB_V hl tw_1160 ts_57 tw_9 tw_1161) rfl rfl rfl (by decide +kernel) hR
set_option maxHeartbeats 4000000 in
set_option maxRecDepth 100000 in
/-- isWord -/
theorem c_X12_isWord (l : Launch) (D : va_G) (cy : Nat → ClassId) (sz : Nat) (cs : List Nat) (ad : Nat → Nat) (en : Nat → va_E) (hcs : ∀ c, c < 20 → c ∈ cs) (m_fault : Int32) (m_history : Int32) (m_wide : Int32) (m_modulus : Int32) (m_tables : Int32) (m_depth : Int32) (m_many : Int64) (m_greatest : Int64) (m_least : Int64) (m_noughts : Int64) (m_ringMany : Int32) (m_ringBest : Int64) (m_products : Int32) (m_words : Int32) (t : Int32) (m0 : en 0 = .inr (11, [.int m_fault, .int m_history, .int m_wide, .int m_modulus, .int m_tables, .ref (ad 1), .ref (ad 2), .ref (ad 3), .ref (ad 4), .ref (ad 5), .ref (ad 6), .ref (ad 7), .ref (ad 8), .ref (ad 9), .int m_depth, .long m_many, .long m_greatest, .long m_least, .long m_noughts, .ref (ad 10), .ref (ad 11), .ref (ad 12), .int m_ringMany, .long m_ringBest, .ref (ad 13), .int m_products, .ref (ad 14), .ref (ad 15), .ref (ad 16), .ref (ad 17), .int m_words, .ref (ad 18), .ref (ad 19)])) : Met l yX12_isWord (Cond.code yX12_isWord cX12_isWord 2 (some .boolean) :: TB) (rmN 0) (va_Pc [.ref (ad 0), .int t] (Pre D cy cs ad en sz)) (va_Qi (S := Unit) (fun r _ => r = if (0 ≤ t.toInt ∧ t.toInt < m_words.toInt) then 1 else 0) (fun _ _ => True) (Nf sz)) 0 0 (Nf sz) := by
  refine Met.ofW (cc := cX12_isWord) (maxL := 2) (ret := (some .boolean)) (by decide) rfl ?_
  intro p e s m args below meth c s₁ B hml hv
  obtain ⟨rfl, hsz, hP, hK, hD0⟩ := hv
  have hx := B.exec
  have hb := B.bytes
  have hr := B.returns
  have hts : ∀ w ∈ TB, w.before _ s = true := fun w h => atoms_spec (ws := _ :: TB) B.pre w (List.mem_cons_of_mem _ h)
  have hown : s.vm.findClass RX12 = some m.cls := findClass_of_methodNamed B.named
  have hlocks := B.notSynchronized
  have hh : Hp D (Nf sz) (fun _ => True) s.heap s.heap [] cs ad en := ⟨hP, hD0, va_S.rf⟩
  have hA : ∀ q : Nat, s.heap.size ≤ q → Nf sz q := fun q h => by rw [hsz] at h; exact h
  have hl := lv_entry ([.ref (ad 0), .int t]) (n := 2) (Nat.le_of_ble_eq_true rfl)
  rw [lg_entry_eq]
  generalize (lg_sl ([.ref (ad 0), .int t]) ++ List.replicate (2 - (lg_sl ([.ref (ad 0), .int t])).length) Slot.unset).toArray = ls at hl ⊢
  have hl : lv_has ls 2 [(0, .ref (ad 0)), (1, .int t)] := hl
  refine lv_iload_n hx hb dX12_isWord_0 rfl (lv_at hl 1 rfl) ?_
  refine lv_if_lt (tgt := 16) hx hb dX12_isWord_1 (by decide) (fun c_13 => ?_) (fun c_13 => ?_)
  · refine lv_iconst (v := 0) hx hb dX12_isWord_16 (by decide) ?_
    have : (0 : Int32).toInt = 0 := by decide
    have := i_lt c_13
    exact hp_iretR hx hb hr rfl hlocks hsz hh ((if_neg (by omega)).symm) dX12_isWord_17
  · refine lv_iload_n hx hb dX12_isWord_4 rfl (lv_at hl 1 rfl) ?_
    refine lv_aload_n hx hb dX12_isWord_5 rfl (lv_at hl 0 rfl) ?_
    refine hp_get hx hb hts ix12 hown hK hh (q := 0) rfl (hcs _ (by decide)) m0 rfl 30 (by decide) (hts _ tw_909) (fun _ h9 => h9) rfl dX12_isWord_6 ?_
    refine lv_icmp_ge (tgt := 16) hx hb dX12_isWord_9 (by decide) (fun c_14 => ?_) (fun c_14 => ?_)
    · refine lv_iconst (v := 0) hx hb dX12_isWord_16 (by decide) ?_
      have : (0 : Int32).toInt = 0 := by decide
      have := i_nlt c_13
      have := i_le c_14
      exact hp_iretR hx hb hr rfl hlocks hsz hh ((if_neg (by omega)).symm) dX12_isWord_17
    · refine lv_iconst (v := 1) hx hb dX12_isWord_12 (by decide) ?_
      refine lv_goto (tgt := 17) hx hb dX12_isWord_13 (by decide) ?_
      have : (0 : Int32).toInt = 0 := by decide
      have := i_nlt c_13
      have := i_nle c_14
      exact hp_iretR hx hb hr rfl hlocks hsz hh ((if_pos (by omega)).symm) dX12_isWord_17
theorem kw_X12_isWord {R : Room} {s : State} {args : Array Value} {own : String} {idx : Nat} (hts : ∀ w ∈ TB, w.before args s = true) (hl : Cond.methodLink own idx yX12_isWord ∈ TB) (hR : 0 + 1 ≤ R.frames ∧ 8 + (2 + 11) + 40 * 0 ≤ R.locals) : CallW R s args own RX12 idx yX12_isWord cX12_isWord 2 (some .boolean) (Cond.code yX12_isWord cX12_isWord 2 (some .boolean) :: TB) (rmN 0) 0 0 1 := cwV 1 hts (TB_V hl tw_1177 ts_58 tw_9 tw_1178) rfl rfl rfl (by decide +kernel) hR
end
