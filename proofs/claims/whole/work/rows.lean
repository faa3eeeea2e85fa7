section
-- ===== PART A: goes FIRST, ahead of the names: the tables' words, and 'selects' of the private methods out of them =====
/-- a private method of a class that the tables say can be made, by its rows of tables_1 -/
def lw_okq (q : MethodName × Nat) : Prop := (q.1.cls ≠ "java/lang/invoke/MethodHandle" ∧ q.1.cls ≠ "java/lang/invoke/VarHandle") ∧ Cond.instantiable q.1.cls q.2 ∈ tables_1 ∧ Cond.privateMethod q.1 ∈ tables_1 ∧ Cond.instanceMethod q.1 ∈ tables_1
theorem lw_p0 : lw_okq (⟨"ValveWalk$Segments", "countBegunBelow", "(I)I"⟩, 2) := ⟨⟨by decide +kernel, by decide +kernel⟩, List.mem_of_getElem? (i := 69) (by decide +kernel), List.mem_of_getElem? (i := 209) (by decide +kernel), List.mem_of_getElem? (i := 210) (by decide +kernel)⟩
theorem lw_p1 : lw_okq (⟨"ValveWalk$Segments", "segmentWith", "(I)I"⟩, 2) := ⟨⟨by decide +kernel, by decide +kernel⟩, List.mem_of_getElem? (i := 69) (by decide +kernel), List.mem_of_getElem? (i := 218) (by decide +kernel), List.mem_of_getElem? (i := 219) (by decide +kernel)⟩
theorem lw_p2 : lw_okq (⟨"java/lang/Throwable", "fillInStackTrace", "(I)Ljava/lang/Throwable;"⟩, 6) := ⟨⟨by decide +kernel, by decide +kernel⟩, List.mem_of_getElem? (i := 269) (by decide +kernel), List.mem_of_getElem? (i := 267) (by decide +kernel), List.mem_of_getElem? (i := 268) (by decide +kernel)⟩
theorem lw_p3 : lw_okq (⟨"ValveWalk", "requireNode", "(I)V"⟩, 5) := ⟨⟨by decide +kernel, by decide +kernel⟩, List.mem_of_getElem? (i := 17) (by decide +kernel), List.mem_of_getElem? (i := 319) (by decide +kernel), List.mem_of_getElem? (i := 320) (by decide +kernel)⟩
theorem lw_p4 : lw_okq (⟨"ValveWalk$Network", "join", "(III)V"⟩, 12) := ⟨⟨by decide +kernel, by decide +kernel⟩, List.mem_of_getElem? (i := 25) (by decide +kernel), List.mem_of_getElem? (i := 362) (by decide +kernel), List.mem_of_getElem? (i := 363) (by decide +kernel)⟩
theorem lw_p5 : lw_okq (⟨"ValveWalk", "requirePipe", "(I)V"⟩, 5) := ⟨⟨by decide +kernel, by decide +kernel⟩, List.mem_of_getElem? (i := 17) (by decide +kernel), List.mem_of_getElem? (i := 373) (by decide +kernel), List.mem_of_getElem? (i := 374) (by decide +kernel)⟩
theorem lw_p6 : lw_okq (⟨"ValveWalk", "requireValve", "(I)V"⟩, 5) := ⟨⟨by decide +kernel, by decide +kernel⟩, List.mem_of_getElem? (i := 17) (by decide +kernel), List.mem_of_getElem? (i := 404) (by decide +kernel), List.mem_of_getElem? (i := 405) (by decide +kernel)⟩
theorem lw_p7 : lw_okq (⟨"ValveWalk", "isDry", "(I)Z"⟩, 5) := ⟨⟨by decide +kernel, by decide +kernel⟩, List.mem_of_getElem? (i := 17) (by decide +kernel), List.mem_of_getElem? (i := 436) (by decide +kernel), List.mem_of_getElem? (i := 437) (by decide +kernel)⟩
theorem lw_p8 : lw_okq (⟨"ValveWalk$Segments", "mergePipes", "()V"⟩, 2) := ⟨⟨by decide +kernel, by decide +kernel⟩, List.mem_of_getElem? (i := 69) (by decide +kernel), List.mem_of_getElem? (i := 482) (by decide +kernel), List.mem_of_getElem? (i := 483) (by decide +kernel)⟩
theorem lw_p9 : lw_okq (⟨"ValveWalk$Segments", "merge", "(II)V"⟩, 2) := ⟨⟨by decide +kernel, by decide +kernel⟩, List.mem_of_getElem? (i := 69) (by decide +kernel), List.mem_of_getElem? (i := 493) (by decide +kernel), List.mem_of_getElem? (i := 494) (by decide +kernel)⟩
theorem lw_p10 : lw_okq (⟨"ValveWalk$Segments", "firstOfSet", "(I)I"⟩, 2) := ⟨⟨by decide +kernel, by decide +kernel⟩, List.mem_of_getElem? (i := 69) (by decide +kernel), List.mem_of_getElem? (i := 497) (by decide +kernel), List.mem_of_getElem? (i := 498) (by decide +kernel)⟩
theorem lw_p11 : lw_okq (⟨"ValveWalk", "regionWithoutSource", "(I)I"⟩, 5) := ⟨⟨by decide +kernel, by decide +kernel⟩, List.mem_of_getElem? (i := 17) (by decide +kernel), List.mem_of_getElem? (i := 514) (by decide +kernel), List.mem_of_getElem? (i := 515) (by decide +kernel)⟩
theorem lw_p12 : lw_okq (⟨"ValveWalk$Breaks", "regionWith", "(I)I"⟩, 6) := ⟨⟨by decide +kernel, by decide +kernel⟩, List.mem_of_getElem? (i := 82) (by decide +kernel), List.mem_of_getElem? (i := 523) (by decide +kernel), List.mem_of_getElem? (i := 524) (by decide +kernel)⟩
theorem lw_p13 : lw_okq (⟨"ValveWalk$Breaks", "regionsWithSources", "()I"⟩, 6) := ⟨⟨by decide +kernel, by decide +kernel⟩, List.mem_of_getElem? (i := 82) (by decide +kernel), List.mem_of_getElem? (i := 581) (by decide +kernel), List.mem_of_getElem? (i := 582) (by decide +kernel)⟩
theorem lw_p14 : lw_okq (⟨"ValveWalk$Breaks", "findRegionsOfValves", "()V"⟩, 6) := ⟨⟨by decide +kernel, by decide +kernel⟩, List.mem_of_getElem? (i := 82) (by decide +kernel), List.mem_of_getElem? (i := 586) (by decide +kernel), List.mem_of_getElem? (i := 587) (by decide +kernel)⟩
theorem lw_p15 : lw_okq (⟨"ValveWalk$Breaks", "addWay", "(II)Z"⟩, 6) := ⟨⟨by decide +kernel, by decide +kernel⟩, List.mem_of_getElem? (i := 82) (by decide +kernel), List.mem_of_getElem? (i := 590) (by decide +kernel), List.mem_of_getElem? (i := 591) (by decide +kernel)⟩
def lw_privs_1 : List (MethodName × Nat) := [(⟨"ValveWalk$Segments", "countBegunBelow", "(I)I"⟩, 2), (⟨"ValveWalk$Segments", "segmentWith", "(I)I"⟩, 2), (⟨"java/lang/Throwable", "fillInStackTrace", "(I)Ljava/lang/Throwable;"⟩, 6), (⟨"ValveWalk", "requireNode", "(I)V"⟩, 5), (⟨"ValveWalk$Network", "join", "(III)V"⟩, 12), (⟨"ValveWalk", "requirePipe", "(I)V"⟩, 5), (⟨"ValveWalk", "requireValve", "(I)V"⟩, 5), (⟨"ValveWalk", "isDry", "(I)Z"⟩, 5), (⟨"ValveWalk$Segments", "mergePipes", "()V"⟩, 2), (⟨"ValveWalk$Segments", "merge", "(II)V"⟩, 2), (⟨"ValveWalk$Segments", "firstOfSet", "(I)I"⟩, 2), (⟨"ValveWalk", "regionWithoutSource", "(I)I"⟩, 5), (⟨"ValveWalk$Breaks", "regionWith", "(I)I"⟩, 6), (⟨"ValveWalk$Breaks", "regionsWithSources", "()I"⟩, 6), (⟨"ValveWalk$Breaks", "findRegionsOfValves", "()V"⟩, 6), (⟨"ValveWalk$Breaks", "addWay", "(II)Z"⟩, 6)]
theorem lw_r1 : ∀ q ∈ lw_privs_1, lw_okq q := List.forall_mem_cons.mpr ⟨lw_p0, List.forall_mem_cons.mpr ⟨lw_p1, List.forall_mem_cons.mpr ⟨lw_p2, List.forall_mem_cons.mpr ⟨lw_p3, List.forall_mem_cons.mpr ⟨lw_p4, List.forall_mem_cons.mpr ⟨lw_p5, List.forall_mem_cons.mpr ⟨lw_p6, List.forall_mem_cons.mpr ⟨lw_p7, List.forall_mem_cons.mpr ⟨lw_p8, List.forall_mem_cons.mpr ⟨lw_p9, List.forall_mem_cons.mpr ⟨lw_p10, List.forall_mem_cons.mpr ⟨lw_p11, List.forall_mem_cons.mpr ⟨lw_p12, List.forall_mem_cons.mpr ⟨lw_p13, List.forall_mem_cons.mpr ⟨lw_p14, List.forall_mem_cons.mpr ⟨lw_p15, fun _ h => absurd h List.not_mem_nil⟩⟩⟩⟩⟩⟩⟩⟩⟩⟩⟩⟩⟩⟩⟩⟩
theorem lw_p16 : lw_okq (⟨"ValveWalk$Breaks", "directionAcross", "(II)I"⟩, 6) := ⟨⟨by decide +kernel, by decide +kernel⟩, List.mem_of_getElem? (i := 82) (by decide +kernel), List.mem_of_getElem? (i := 594) (by decide +kernel), List.mem_of_getElem? (i := 595) (by decide +kernel)⟩
theorem lw_p17 : lw_okq (⟨"ValveWalk$Breaks", "keepWayTo", "(II)V"⟩, 6) := ⟨⟨by decide +kernel, by decide +kernel⟩, List.mem_of_getElem? (i := 82) (by decide +kernel), List.mem_of_getElem? (i := 598) (by decide +kernel), List.mem_of_getElem? (i := 599) (by decide +kernel)⟩
theorem lw_p18 : lw_okq (⟨"ValveWalk$Breaks", "wetOver", "(II)I"⟩, 6) := ⟨⟨by decide +kernel, by decide +kernel⟩, List.mem_of_getElem? (i := 82) (by decide +kernel), List.mem_of_getElem? (i := 613) (by decide +kernel), List.mem_of_getElem? (i := 614) (by decide +kernel)⟩
theorem lw_p19 : lw_okq (⟨"ValveWalk$Flushing", "measure", "()V"⟩, 2) := ⟨⟨by decide +kernel, by decide +kernel⟩, List.mem_of_getElem? (i := 107) (by decide +kernel), List.mem_of_getElem? (i := 637) (by decide +kernel), List.mem_of_getElem? (i := 638) (by decide +kernel)⟩
theorem lw_p20 : lw_okq (⟨"ValveWalk$Flushing", "shorten", "(I)V"⟩, 2) := ⟨⟨by decide +kernel, by decide +kernel⟩, List.mem_of_getElem? (i := 107) (by decide +kernel), List.mem_of_getElem? (i := 651) (by decide +kernel), List.mem_of_getElem? (i := 652) (by decide +kernel)⟩
theorem lw_p21 : lw_okq (⟨"ValveWalk$Flushing", "isFlushed", "(I)Z"⟩, 2) := ⟨⟨by decide +kernel, by decide +kernel⟩, List.mem_of_getElem? (i := 107) (by decide +kernel), List.mem_of_getElem? (i := 672) (by decide +kernel), List.mem_of_getElem? (i := 673) (by decide +kernel)⟩
theorem lw_p22 : lw_okq (⟨"ValveWalk$Flushing", "endOf", "(I)I"⟩, 2) := ⟨⟨by decide +kernel, by decide +kernel⟩, List.mem_of_getElem? (i := 107) (by decide +kernel), List.mem_of_getElem? (i := 676) (by decide +kernel), List.mem_of_getElem? (i := 677) (by decide +kernel)⟩
theorem lw_p23 : lw_okq (⟨"ValveWalk$Flushing", "distanceAt", "(II)I"⟩, 2) := ⟨⟨by decide +kernel, by decide +kernel⟩, List.mem_of_getElem? (i := 107) (by decide +kernel), List.mem_of_getElem? (i := 680) (by decide +kernel), List.mem_of_getElem? (i := 681) (by decide +kernel)⟩
theorem lw_p24 : lw_okq (⟨"ValveWalk$Flushing", "placeOf", "(I)I"⟩, 2) := ⟨⟨by decide +kernel, by decide +kernel⟩, List.mem_of_getElem? (i := 107) (by decide +kernel), List.mem_of_getElem? (i := 684) (by decide +kernel), List.mem_of_getElem? (i := 685) (by decide +kernel)⟩
theorem lw_p25 : lw_okq (⟨"ValveWalk$Flushing", "isAhead", "(II)Z"⟩, 2) := ⟨⟨by decide +kernel, by decide +kernel⟩, List.mem_of_getElem? (i := 107) (by decide +kernel), List.mem_of_getElem? (i := 688) (by decide +kernel), List.mem_of_getElem? (i := 689) (by decide +kernel)⟩
theorem lw_p26 : lw_okq (⟨"ValveWalk$Walks", "listStops", "(I)I"⟩, 4) := ⟨⟨by decide +kernel, by decide +kernel⟩, List.mem_of_getElem? (i := 120) (by decide +kernel), List.mem_of_getElem? (i := 707) (by decide +kernel), List.mem_of_getElem? (i := 708) (by decide +kernel)⟩
theorem lw_p27 : lw_okq (⟨"ValveWalk$Walks", "measure", "()V"⟩, 4) := ⟨⟨by decide +kernel, by decide +kernel⟩, List.mem_of_getElem? (i := 120) (by decide +kernel), List.mem_of_getElem? (i := 714) (by decide +kernel), List.mem_of_getElem? (i := 715) (by decide +kernel)⟩
theorem lw_p28 : lw_okq (⟨"ValveWalk$Walks", "shorten", "(III)V"⟩, 4) := ⟨⟨by decide +kernel, by decide +kernel⟩, List.mem_of_getElem? (i := 120) (by decide +kernel), List.mem_of_getElem? (i := 722) (by decide +kernel), List.mem_of_getElem? (i := 723) (by decide +kernel)⟩
theorem lw_p29 : lw_okq (⟨"ValveWalk$Walks", "shortenBy", "(I)V"⟩, 4) := ⟨⟨by decide +kernel, by decide +kernel⟩, List.mem_of_getElem? (i := 120) (by decide +kernel), List.mem_of_getElem? (i := 728) (by decide +kernel), List.mem_of_getElem? (i := 729) (by decide +kernel)⟩
theorem lw_p30 : lw_okq (⟨"ValveWalk$Walks", "lengthBetween", "(II)I"⟩, 4) := ⟨⟨by decide +kernel, by decide +kernel⟩, List.mem_of_getElem? (i := 120) (by decide +kernel), List.mem_of_getElem? (i := 732) (by decide +kernel), List.mem_of_getElem? (i := 733) (by decide +kernel)⟩
theorem lw_p31 : lw_okq (⟨"ValveWalk$Walks", "leastEnding", "(IIII)I"⟩, 4) := ⟨⟨by decide +kernel, by decide +kernel⟩, List.mem_of_getElem? (i := 120) (by decide +kernel), List.mem_of_getElem? (i := 736) (by decide +kernel), List.mem_of_getElem? (i := 737) (by decide +kernel)⟩
def lw_privs_2 : List (MethodName × Nat) := [(⟨"ValveWalk$Breaks", "directionAcross", "(II)I"⟩, 6), (⟨"ValveWalk$Breaks", "keepWayTo", "(II)V"⟩, 6), (⟨"ValveWalk$Breaks", "wetOver", "(II)I"⟩, 6), (⟨"ValveWalk$Flushing", "measure", "()V"⟩, 2), (⟨"ValveWalk$Flushing", "shorten", "(I)V"⟩, 2), (⟨"ValveWalk$Flushing", "isFlushed", "(I)Z"⟩, 2), (⟨"ValveWalk$Flushing", "endOf", "(I)I"⟩, 2), (⟨"ValveWalk$Flushing", "distanceAt", "(II)I"⟩, 2), (⟨"ValveWalk$Flushing", "placeOf", "(I)I"⟩, 2), (⟨"ValveWalk$Flushing", "isAhead", "(II)Z"⟩, 2), (⟨"ValveWalk$Walks", "listStops", "(I)I"⟩, 4), (⟨"ValveWalk$Walks", "measure", "()V"⟩, 4), (⟨"ValveWalk$Walks", "shorten", "(III)V"⟩, 4), (⟨"ValveWalk$Walks", "shortenBy", "(I)V"⟩, 4), (⟨"ValveWalk$Walks", "lengthBetween", "(II)I"⟩, 4), (⟨"ValveWalk$Walks", "leastEnding", "(IIII)I"⟩, 4)]
theorem lw_r2 : ∀ q ∈ lw_privs_2, lw_okq q := List.forall_mem_cons.mpr ⟨lw_p16, List.forall_mem_cons.mpr ⟨lw_p17, List.forall_mem_cons.mpr ⟨lw_p18, List.forall_mem_cons.mpr ⟨lw_p19, List.forall_mem_cons.mpr ⟨lw_p20, List.forall_mem_cons.mpr ⟨lw_p21, List.forall_mem_cons.mpr ⟨lw_p22, List.forall_mem_cons.mpr ⟨lw_p23, List.forall_mem_cons.mpr ⟨lw_p24, List.forall_mem_cons.mpr ⟨lw_p25, List.forall_mem_cons.mpr ⟨lw_p26, List.forall_mem_cons.mpr ⟨lw_p27, List.forall_mem_cons.mpr ⟨lw_p28, List.forall_mem_cons.mpr ⟨lw_p29, List.forall_mem_cons.mpr ⟨lw_p30, List.forall_mem_cons.mpr ⟨lw_p31, fun _ h => absurd h List.not_mem_nil⟩⟩⟩⟩⟩⟩⟩⟩⟩⟩⟩⟩⟩⟩⟩⟩
theorem lw_p32 : lw_okq (⟨"ValveWalkModel", "refused", "(I)Z"⟩, 17) := ⟨⟨by decide +kernel, by decide +kernel⟩, List.mem_of_getElem? (i := 740) (by decide +kernel), List.mem_of_getElem? (i := 806) (by decide +kernel), List.mem_of_getElem? (i := 807) (by decide +kernel)⟩
theorem lw_p33 : lw_okq (⟨"ValveWalkModel", "isNode", "(I)Z"⟩, 17) := ⟨⟨by decide +kernel, by decide +kernel⟩, List.mem_of_getElem? (i := 740) (by decide +kernel), List.mem_of_getElem? (i := 814) (by decide +kernel), List.mem_of_getElem? (i := 815) (by decide +kernel)⟩
theorem lw_p34 : lw_okq (⟨"ValveWalkModel", "isPipe", "(I)Z"⟩, 17) := ⟨⟨by decide +kernel, by decide +kernel⟩, List.mem_of_getElem? (i := 740) (by decide +kernel), List.mem_of_getElem? (i := 825) (by decide +kernel), List.mem_of_getElem? (i := 826) (by decide +kernel)⟩
theorem lw_p35 : lw_okq (⟨"ValveWalkModel", "isValve", "(I)Z"⟩, 17) := ⟨⟨by decide +kernel, by decide +kernel⟩, List.mem_of_getElem? (i := 740) (by decide +kernel), List.mem_of_getElem? (i := 837) (by decide +kernel), List.mem_of_getElem? (i := 838) (by decide +kernel)⟩
theorem lw_p36 : lw_okq (⟨"ValveWalkModel", "fine", "(I)I"⟩, 17) := ⟨⟨by decide +kernel, by decide +kernel⟩, List.mem_of_getElem? (i := 740) (by decide +kernel), List.mem_of_getElem? (i := 849) (by decide +kernel), List.mem_of_getElem? (i := 850) (by decide +kernel)⟩
theorem lw_p37 : lw_okq (⟨"ValveWalkModel", "wet", "(I)I"⟩, 17) := ⟨⟨by decide +kernel, by decide +kernel⟩, List.mem_of_getElem? (i := 740) (by decide +kernel), List.mem_of_getElem? (i := 865) (by decide +kernel), List.mem_of_getElem? (i := 866) (by decide +kernel)⟩
theorem lw_p38 : lw_okq (⟨"ValveWalkModel", "spread", "(III)I"⟩, 17) := ⟨⟨by decide +kernel, by decide +kernel⟩, List.mem_of_getElem? (i := 740) (by decide +kernel), List.mem_of_getElem? (i := 869) (by decide +kernel), List.mem_of_getElem? (i := 870) (by decide +kernel)⟩
theorem lw_p39 : lw_okq (⟨"ValveWalkModel", "isOpen", "(III)Z"⟩, 17) := ⟨⟨by decide +kernel, by decide +kernel⟩, List.mem_of_getElem? (i := 740) (by decide +kernel), List.mem_of_getElem? (i := 876) (by decide +kernel), List.mem_of_getElem? (i := 877) (by decide +kernel)⟩
theorem lw_p40 : lw_okq (⟨"ValveWalkModel", "supply", "(I)I"⟩, 17) := ⟨⟨by decide +kernel, by decide +kernel⟩, List.mem_of_getElem? (i := 740) (by decide +kernel), List.mem_of_getElem? (i := 888) (by decide +kernel), List.mem_of_getElem? (i := 889) (by decide +kernel)⟩
theorem lw_p41 : lw_okq (⟨"ValveWalkModel", "segmentOf", "(I)I"⟩, 17) := ⟨⟨by decide +kernel, by decide +kernel⟩, List.mem_of_getElem? (i := 740) (by decide +kernel), List.mem_of_getElem? (i := 896) (by decide +kernel), List.mem_of_getElem? (i := 897) (by decide +kernel)⟩
theorem lw_p42 : lw_okq (⟨"ValveWalkModel", "noRing", "(I)Z"⟩, 17) := ⟨⟨by decide +kernel, by decide +kernel⟩, List.mem_of_getElem? (i := 740) (by decide +kernel), List.mem_of_getElem? (i := 917) (by decide +kernel), List.mem_of_getElem? (i := 918) (by decide +kernel)⟩
theorem lw_p43 : lw_okq (⟨"ValveWalkModel", "ringOf", "(I)I"⟩, 17) := ⟨⟨by decide +kernel, by decide +kernel⟩, List.mem_of_getElem? (i := 740) (by decide +kernel), List.mem_of_getElem? (i := 921) (by decide +kernel), List.mem_of_getElem? (i := 922) (by decide +kernel)⟩
theorem lw_p44 : lw_okq (⟨"ValveWalkModel", "least", "(I)I"⟩, 17) := ⟨⟨by decide +kernel, by decide +kernel⟩, List.mem_of_getElem? (i := 740) (by decide +kernel), List.mem_of_getElem? (i := 933) (by decide +kernel), List.mem_of_getElem? (i := 934) (by decide +kernel)⟩
theorem lw_p45 : lw_okq (⟨"ValveWalkModel", "measure", "()V"⟩, 17) := ⟨⟨by decide +kernel, by decide +kernel⟩, List.mem_of_getElem? (i := 740) (by decide +kernel), List.mem_of_getElem? (i := 948) (by decide +kernel), List.mem_of_getElem? (i := 949) (by decide +kernel)⟩
theorem lw_p46 : lw_okq (⟨"ValveWalkModel", "sort", "()V"⟩, 17) := ⟨⟨by decide +kernel, by decide +kernel⟩, List.mem_of_getElem? (i := 740) (by decide +kernel), List.mem_of_getElem? (i := 957) (by decide +kernel), List.mem_of_getElem? (i := 958) (by decide +kernel)⟩
theorem lw_p47 : lw_okq (⟨"ValveWalkModel", "reach", "(I)I"⟩, 17) := ⟨⟨by decide +kernel, by decide +kernel⟩, List.mem_of_getElem? (i := 740) (by decide +kernel), List.mem_of_getElem? (i := 961) (by decide +kernel), List.mem_of_getElem? (i := 962) (by decide +kernel)⟩
def lw_privs_3 : List (MethodName × Nat) := [(⟨"ValveWalkModel", "refused", "(I)Z"⟩, 17), (⟨"ValveWalkModel", "isNode", "(I)Z"⟩, 17), (⟨"ValveWalkModel", "isPipe", "(I)Z"⟩, 17), (⟨"ValveWalkModel", "isValve", "(I)Z"⟩, 17), (⟨"ValveWalkModel", "fine", "(I)I"⟩, 17), (⟨"ValveWalkModel", "wet", "(I)I"⟩, 17), (⟨"ValveWalkModel", "spread", "(III)I"⟩, 17), (⟨"ValveWalkModel", "isOpen", "(III)Z"⟩, 17), (⟨"ValveWalkModel", "supply", "(I)I"⟩, 17), (⟨"ValveWalkModel", "segmentOf", "(I)I"⟩, 17), (⟨"ValveWalkModel", "noRing", "(I)Z"⟩, 17), (⟨"ValveWalkModel", "ringOf", "(I)I"⟩, 17), (⟨"ValveWalkModel", "least", "(I)I"⟩, 17), (⟨"ValveWalkModel", "measure", "()V"⟩, 17), (⟨"ValveWalkModel", "sort", "()V"⟩, 17), (⟨"ValveWalkModel", "reach", "(I)I"⟩, 17)]
theorem lw_r3 : ∀ q ∈ lw_privs_3, lw_okq q := List.forall_mem_cons.mpr ⟨lw_p32, List.forall_mem_cons.mpr ⟨lw_p33, List.forall_mem_cons.mpr ⟨lw_p34, List.forall_mem_cons.mpr ⟨lw_p35, List.forall_mem_cons.mpr ⟨lw_p36, List.forall_mem_cons.mpr ⟨lw_p37, List.forall_mem_cons.mpr ⟨lw_p38, List.forall_mem_cons.mpr ⟨lw_p39, List.forall_mem_cons.mpr ⟨lw_p40, List.forall_mem_cons.mpr ⟨lw_p41, List.forall_mem_cons.mpr ⟨lw_p42, List.forall_mem_cons.mpr ⟨lw_p43, List.forall_mem_cons.mpr ⟨lw_p44, List.forall_mem_cons.mpr ⟨lw_p45, List.forall_mem_cons.mpr ⟨lw_p46, List.forall_mem_cons.mpr ⟨lw_p47, fun _ h => absurd h List.not_mem_nil⟩⟩⟩⟩⟩⟩⟩⟩⟩⟩⟩⟩⟩⟩⟩⟩
theorem lw_p48 : lw_okq (⟨"ValveWalkModel", "connect", "()V"⟩, 17) := ⟨⟨by decide +kernel, by decide +kernel⟩, List.mem_of_getElem? (i := 740) (by decide +kernel), List.mem_of_getElem? (i := 969) (by decide +kernel), List.mem_of_getElem? (i := 970) (by decide +kernel)⟩
theorem lw_p49 : lw_okq (⟨"ValveWalkModel", "walked", "(III)I"⟩, 17) := ⟨⟨by decide +kernel, by decide +kernel⟩, List.mem_of_getElem? (i := 740) (by decide +kernel), List.mem_of_getElem? (i := 973) (by decide +kernel), List.mem_of_getElem? (i := 974) (by decide +kernel)⟩
def lw_privs_4 : List (MethodName × Nat) := [(⟨"ValveWalkModel", "connect", "()V"⟩, 17), (⟨"ValveWalkModel", "walked", "(III)I"⟩, 17)]
theorem lw_r4 : ∀ q ∈ lw_privs_4, lw_okq q := List.forall_mem_cons.mpr ⟨lw_p48, List.forall_mem_cons.mpr ⟨lw_p49, fun _ h => absurd h List.not_mem_nil⟩⟩
def lw_privs : List (MethodName × Nat) := lw_privs_1 ++ (lw_privs_2 ++ (lw_privs_3 ++ (lw_privs_4)))
def lw_tbl : List Cond := k2_sels lw_privs ++ tables_1
theorem lw_privs_ok : ∀ q ∈ lw_privs, lw_okq q := by
  show ∀ q ∈ lw_privs_1 ++ (lw_privs_2 ++ (lw_privs_3 ++ (lw_privs_4))), lw_okq q
  exact List.forall_mem_append.mpr ⟨lw_r1, List.forall_mem_append.mpr ⟨lw_r2, List.forall_mem_append.mpr ⟨lw_r3, lw_r4⟩⟩⟩
-- ===== end of PART A; then your names; then what follows =====
/-! ===== BEGIN words of one list among another's, by their places ===== -/
theorem goodIn_r {big : List Cond} (ws : List Cond) (ps : List Nat) (hp : ws = ps.filterMap (fun i => big[i]?)) (h : ws.all goodWord = true) : GoodIn big ws := by
  intro w hw
  have h1 := List.all_eq_true.mp h w hw
  rw [hp] at hw
  obtain ⟨i, -, hi⟩ := List.mem_filterMap.mp hw
  have hm : w ∈ big := by first | exact List.mem_of_getElem? hi | exact List.getElem?_mem hi
  exact ⟨hm, good_of_word h1⟩
theorem goodIn_app {big a b : List Cond} (ha : GoodIn big a) (hb : GoodIn big b) : GoodIn big (a ++ b) := fun w h => (List.mem_append.mp h).elim (ha w) (hb w)
theorem goodIn_ca {big a b : List Cond} {c : Cond} (ha : GoodIn big (c :: a)) (hb : GoodIn big b) : GoodIn big (c :: (a ++ b)) := fun w h => (List.mem_cons.mp h).elim (fun e => ha w (List.mem_cons.mpr (Or.inl e))) (fun h => (List.mem_append.mp h).elim (fun h => ha w (List.mem_cons.mpr (Or.inr h))) (hb w))
theorem goodIn_sub {big ws : List Cond} (hm : ∀ w ∈ ws, w ∈ big) (h : ws.all goodWord = true) : GoodIn big ws := fun w hw => ⟨hm w hw, good_of_word (List.all_eq_true.mp h w hw)⟩
/-! ===== END ===== -/

/-! ===== BEGIN exceptions that leave a method, and their catching by the caller (launches without stack traces) ===== -/
section VXA
/-! The laws vx_back, vx_callV, vx_callS, vx_callSW, vx_throw0, vx_throwS follow proofs of the library, with one case more: JvmDerived/Free/Laws.lean (Back.of_free), Shelf42/LK1.lean (callV, callS), Shelf/KitTraced.lean (throwNew0V, throwNewS). -/
/-- where a method has thrown q: the class by its name, the cell, what was written, the world -/
def vx_T (XC : String → State → State → Prop) (st : State) (q : Addr) (t : State) (mc ms : Nat) (free : Addr → Prop) : Prop :=
  ∃ (E : String) (ce : Cell) (L : List Loc), XC E st t ∧ t.heap[q]? = some ce ∧ ce.vm = .none ∧ st.vm.findClass E = some ce.cls ∧ st.WarmedH t.vm ∧ st.sameButNew ({ t with vm := st.vm } : State) L mc ms ∧ ∀ z ∈ L, free z.base
def vx_Q (Qc : Array Value → State → Outcome → State → Prop) (XC : String → State → State → Prop) (mc ms : Nat) (free : Addr → Prop) : Array Value → State → Outcome → State → Prop := fun a st o t =>
  (Qc a st o t ∧ ∃ L, FrameEnd st o t L mc ms ∧ ∀ q ∈ L, free q.base) ∨ ∃ q, o = .threw q ∧ vx_T XC st q t mc ms free
/-- a callee that returns or throws -/
def vx_Met (l : Launch) (y : MethodName) (ws : List Cond) (rm : Room) (Pc : Array Value → State → Prop) (Qc : Array Value → State → Outcome → State → Prop) (XC : String → State → State → Prop) (mc ms : Nat) (free : Addr → Prop) : Prop :=
  MetFree l y (headSpec ws rm) Pc (fun _ _ _ _ _ => True) (vx_Q Qc XC mc ms free)
def vx_Post (XC : String → State → State → Prop) (mc ms : Nat) (free : Addr → Prop) : Pt → Array Value → Addr → Pt → Prop := fun A a q B =>
  ∃ (g : JFrame) (mk : MethodId) (t : State) (L : List Loc) (E : String) (ce : Cell), B.U.heap = t.heap ∧ B.U.vm = t.vm ∧ XC E (A.U.calling g mk a) t ∧ t.heap[q]? = some ce ∧ ce.vm = .none ∧ A.U.vm.findClass E = some ce.cls ∧ B.locs = A.locs ++ L ∧ (∀ z ∈ L, free z.base) ∧ B.cells = A.cells + mc ∧ B.slots = A.slots + ms
def vx_Back (l : Launch) (R : Room) (p : Program) (e : Env) (below : List Frame) (s : State) (sargs : Array Value) (y : MethodName) (len W9 : Nat)
    (Pre : Pt → Array Value → Prop) (Post : Pt → Array Value → Option Value → Pt → Prop) (PostX : Pt → Array Value → Addr → Pt → Prop) : Prop :=
  ∀ (m : MethodId) (meth : Method) (c : Code) (A : Pt) (g : JFrame) (ig : Instr) (mk : MethodId) (a : Array Value),
    Stand p l e R s m sargs below meth c A.U A.locs A.cells A.slots → g.method = m → g.locals.size = c.maxLocals → decode c.code g.pc = .ok (ig, len) →
    2 * g.monitorRoom + (g.stack.map fun v => v.category).sum ≤ W9 → A.U.methodNamed? y = some mk → Pre A a →
    (∃ (v : Option Value) (B : Pt), Stand p l e R s m sargs below meth c B.U B.locs B.cells B.slots ∧ Post A a v B ∧
      Steps p.tables e below (doInvoke e (A.U.setTop g) [] mk a).1 (B.U.setTop { g with pc := g.pc + len, stack := v.toList ++ g.stack })) ∨
    (∃ (q : Addr) (B : Pt), Stand p l e R s m sargs below meth c B.U B.locs B.cells B.slots ∧ PostX A a q B ∧
      Steps p.tables e below (doInvoke e (A.U.setTop g) [] mk a).1 ((B.U.setTop g).pushFrame (.throwing q)))
section Payer
variable {l : Launch} {R : Room} {p : Program} {e : Env} {below : List Frame} {s : State} {sargs : Array Value} {y : MethodName} {len W9 : Nat}
theorem vx_back {ws : List Cond} {rm : Room} {Pc : Array Value → State → Prop} {Qc : Array Value → State → Outcome → State → Prop} {XC : String → State → State → Prop} {mc ms : Nat} {free : Addr → Prop} {bytes : ByteArray} {maxL : Nat} {ret : Option FieldType}
    (hM : vx_Met l y ws rm Pc Qc XC mc ms free) (hblind : FrameBlind Pc) (hrc : rm.cells = mc) (hrs : rm.slots = ms)
    (hframes : rm.frames + 1 ≤ R.frames) (hlocals : W9 + (maxL + 11) + rm.locals ≤ R.locals)
    (hws : ∀ w ∈ ws, ∀ a' U, s.WarmedH U.vm → w.before a' U = true) (hcode : Cond.code y bytes maxL ret ∈ ws) (hinit : ∀ a' U, s.WarmedH U.vm → (Cond.initialized y.cls).before a' U = true) :
    vx_Back l R p e below s sargs y len W9 (PreOf R mc ms Pc) (PostOf Qc mc ms free) (vx_Post XC mc ms free) := by
  intro m meth c A g ig mk a X hg hsize hdg hW hn hp
  have h1 : (headSpec ws rm).pre.before a A.U = true := atoms_intro fun w hw => hws w hw _ _ X.warmed
  have h2 : (Cond.code y bytes maxL ret).before a A.U = true := hws _ hcode _ _ X.warmed
  have h3 : (Cond.initialized y.cls).before a A.U = true := hinit _ _ X.warmed
  have h4 : A.cells + (headSpec ws rm).room.cells ≤ R.cells := by rw [show (headSpec ws rm).room.cells = mc from hrc]; exact hp.1
  have h5 : A.slots + (headSpec ws rm).room.slots ≤ R.slots := by rw [show (headSpec ws rm).room.slots = ms from hrs]; exact hp.2.1
  have hPc : Pc a (A.U.calling g mk a) := hblind _ _ _ _ hp.2.2
  obtain ⟨U, Ls, c0, s0⟩ := A
  dsimp only [Pt.U, Pt.locs, Pt.cells, Pt.slots] at h1 h2 h3 h4 h5 X hn hPc ⊢
  obtain ⟨methY, cY, hmY, hcY, -, hlY, -, -, -, -⟩ := Cond.code_spec hn h2
  obtain ⟨kY, hkY, -⟩ := className_of_methodNamed hn
  have hinitY : kY.init = .initialized := Cond.initialized_spec (findClass_of_methodNamed hn) hkY h3
  have h : At U g.method c below := by rw [hg]; exact X.here
  have hlocals9 : W9 + (maxL + 11) + (headSpec ws rm).room.locals ≤ R.locals := hlocals
  have happ : (headSpec ws rm).appliesLoose y e.platform (U.calling g mk a) = true :=
    Spec.appliesLoose_calling (g := g) h hdg hn hkY hinitY
      (X.room_calling (g := g) (R' := (headSpec ws rm).room) hsize hmY hcY hframes (by rw [hlY]; omega) h4 h5) h1
  obtain ⟨mid, hmid⟩ := h.above
  have hfr : (U.setTop g).frames = (.java g :: mid) ++ below := by rw [State.frames_setTop' g h.top, hmid]; rfl
  obtain ⟨o, s₂, hsteps, -, hend, hq⟩ := Steps.callFree hM p X.admits X.cas X.clock (acts := []) hfr happ hPc trivial
  have hq' : vx_Q Qc XC mc ms free a (U.calling g mk a) o s₂ := hq
  rw [State.frames_setTop' g h.top] at hend
  obtain ⟨g₀, hg0⟩ := Option.isSome_iff_exists.mp h.top
  obtain ⟨r, hr⟩ := State.topJava?_eq_some.mp hg0
  have hr' : (({ U with heap := s₂.heap, slotsUsed := s₂.slotsUsed } : State).setVm s₂.vm).frames = .java g₀ :: r := hr
  rcases hq' with ⟨hqc, L, hfe, hL⟩ | ⟨q, rfl, E, ce, L, hx, hce, hcv, hcl, hW₂, hsm, hL⟩
  · obtain ⟨⟨v, rfl⟩, hW₂, e2, q2, q3, q4, q5, q6⟩ := id hfe
    have e3 : s₂ = ({ (U.calling g mk a).setFrames s₂.frames with heap := s₂.heap, slotsUsed := s₂.slotsUsed } : State).setVm s₂.vm := by
      have : s₂ = ({ s₂ with vm := (U.calling g mk a).vm } : State).setVm s₂.vm := rfl
      rw [e2] at this
      exact this
    obtain ⟨c₂, i₂, len₂, hc₂, hd₂, hf₂⟩ := hend
    have hW' : U.WarmedH s₂.vm := hW₂
    have hcc : c₂ = c := by
      have h1 : s₂.code? g.method = U.code? g.method := by
        rw [State.code?_eq, State.code?_eq, hW'.alike.method?]
      exact Option.some.inj (hc₂.symm.trans (h1.trans h.code))
    subst hcc
    have hlen : len₂ = len := by rw [hdg] at hd₂; cases hd₂; rfl
    subst hlen
    have hs₂ : s₂ = (({ U with heap := s₂.heap, slotsUsed := s₂.slotsUsed } : State).setVm s₂.vm).setTop { g with pc := g.pc + len₂, stack := v.toList ++ g.stack } := by
      refine e3.trans ?_
      rw [hf₂, State.calling_eq h.top, State.setFrames_setFrames, State.setTop_of_frames _ hr', hr]
      rfl
    have hsame : U.sameButNew ({ U with heap := s₂.heap, slotsUsed := s₂.slotsUsed } : State) L mc ms := by
      refine ⟨?_, q2, q3, q4, q5, q6⟩
      obtain ⟨t, ht, -⟩ := State.frames_cons hr
      show ({ U with heap := s₂.heap, slotsUsed := s₂.slotsUsed } : State) = { U.setFrames U.frames with heap := s₂.heap, slotsUsed := s₂.slotsUsed }
      rw [State.setFrames_self ht]
    subst hg
    refine Or.inl ⟨v, ⟨(({ U with heap := s₂.heap, slotsUsed := s₂.slotsUsed } : State).setVm s₂.vm), Ls ++ L, c0 + mc, s0 + ms⟩,
      ⟨X.admits, X.cas, X.clock, X.frames, X.room, X.hears, X.method, X.code, (X.here.setHeapUsed s₂.heap s₂.slotsUsed).setVm hW'.alike, X.tail, State.WarmedH.trans X.warmed hW', X.limits, X.bytes, X.same.trans (hsame.setVm s.vm)⟩,
      ⟨g, mk, s₂, L, rfl, rfl, hqc, rfl, hL, rfl, rfl⟩, ?_⟩
    show Steps p.tables e below _ ((({ U with heap := s₂.heap, slotsUsed := s₂.slotsUsed } : State).setVm s₂.vm).setTop { g with pc := g.pc + len₂, stack := v.toList ++ g.stack })
    rw [← hs₂]
    exact hsteps
  · obtain ⟨e2, q2, q3, q4, q5, q6⟩ := id hsm
    have e3 : s₂ = ({ (U.calling g mk a).setFrames s₂.frames with heap := s₂.heap, slotsUsed := s₂.slotsUsed } : State).setVm s₂.vm := by
      have : s₂ = ({ s₂ with vm := (U.calling g mk a).vm } : State).setVm s₂.vm := rfl
      rw [e2] at this
      exact this
    have hf₂ : s₂.frames = .throwing q :: .java g :: U.frames.tail := hend
    have hW' : U.WarmedH s₂.vm := hW₂
    have hs₂ : s₂ = ((({ U with heap := s₂.heap, slotsUsed := s₂.slotsUsed } : State).setVm s₂.vm).setTop g).pushFrame (.throwing q) := by
      refine e3.trans ?_
      rw [hf₂, State.calling_eq h.top, State.setFrames_setFrames, State.pushFrame, State.frames_setTop _ hr', State.setTop_of_frames _ hr', State.setFrames_setFrames, hr]
      rfl
    have hsame : U.sameButNew ({ U with heap := s₂.heap, slotsUsed := s₂.slotsUsed } : State) L mc ms := by
      refine ⟨?_, q2, q3, q4, q5, q6⟩
      obtain ⟨t, ht, -⟩ := State.frames_cons hr
      show ({ U with heap := s₂.heap, slotsUsed := s₂.slotsUsed } : State) = { U.setFrames U.frames with heap := s₂.heap, slotsUsed := s₂.slotsUsed }
      rw [State.setFrames_self ht]
    subst hg
    refine Or.inr ⟨q, ⟨(({ U with heap := s₂.heap, slotsUsed := s₂.slotsUsed } : State).setVm s₂.vm), Ls ++ L, c0 + mc, s0 + ms⟩,
      ⟨X.admits, X.cas, X.clock, X.frames, X.room, X.hears, X.method, X.code, (X.here.setHeapUsed s₂.heap s₂.slotsUsed).setVm hW'.alike, X.tail, State.WarmedH.trans X.warmed hW', X.limits, X.bytes, X.same.trans (hsame.setVm s.vm)⟩,
      ⟨g, mk, s₂, L, E, ce, rfl, rfl, hx, hce, hcv, hcl, rfl, hL, rfl, rfl⟩, ?_⟩
    show Steps p.tables e below _ (((({ U with heap := s₂.heap, slotsUsed := s₂.slotsUsed } : State).setVm s₂.vm).setTop g).pushFrame (.throwing q))
    rw [← hs₂]
    exact hsteps
end Payer
section Calls
variable {p : Program} {l : Launch} {e : Env} {R : Room} {s : State} {m : MethodId} {args : Array Value} {below : List Frame} {meth : Method} {c : Code} {T : State} {locs : List Loc} {cells slots : Nat}
theorem vx_callV (X : Stand p l e R s m args below meth c T locs cells slots) (hexec : p.tables.exec = Jvm.exec) {own C : String} {index : Nat} {y : MethodName} {bytes : ByteArray} {maxL : Nat} {ret : Option FieldType}
    (hown : s.vm.findClass own = some m.cls) (hlink : (Cond.methodLink own index y).before args s = true) (hinst : (Cond.instanceMethod y).before args s = true) (hsel : (Cond.selects C y y).before args s = true)
    (hcode : (Cond.code y bytes maxL ret).before args s = true) (hy : y.cls ≠ "java/lang/invoke/MethodHandle" ∧ y.cls ≠ "java/lang/invoke/VarHandle")
    {W9 : Nat} {Pre : Pt → Array Value → Prop} {Post : Pt → Array Value → Option Value → Pt → Prop} {PostX : Pt → Array Value → Addr → Pt → Prop} (hK : vx_Back l R p e below s args y 3 W9 Pre Post PostX)
    {b : Addr} {cellB : Cell} (hcell : T.heap[b]? = some cellB) (hobj : cellB.vm.isStatics = false) (hcls : s.vm.findClass C = some cellB.cls)
    {g : JFrame} (hg : g.method = m) (hsize : g.locals.size = c.maxLocals) {argsL rest : List Value} (hlen : ∀ sig, parseMethodDescriptor y.desc = some sig → argsL.length = sig.parameters.length)
    (hstack : g.stack = argsL.reverse ++ .ref b :: rest) (hW : 2 * g.monitorRoom + (rest.map fun v => v.category).sum ≤ W9) (hdg : decode c.code g.pc = .ok (.invokevirtual index, 3))
    (hpre : ∀ vm₁, s.WarmedH vm₁ → Pre ⟨T.setVm vm₁, locs, cells, slots⟩ (Value.ref b :: argsL).toArray) :
    (∃ (v : Option Value) (vm₁ : Vm) (B : Pt), s.WarmedH vm₁ ∧ Stand p l e R s m args below meth c B.U B.locs B.cells B.slots ∧ Post ⟨T.setVm vm₁, locs, cells, slots⟩ (Value.ref b :: argsL).toArray v B ∧
      ∀ target, Steps p.tables e below (B.U.setTop { g with pc := g.pc + 3, stack := v.toList ++ rest }) target → Steps p.tables e below (T.setTop g) target) ∨
    (∃ (q : Addr) (vm₁ : Vm) (B : Pt), s.WarmedH vm₁ ∧ Stand p l e R s m args below meth c B.U B.locs B.cells B.slots ∧ PostX ⟨T.setVm vm₁, locs, cells, slots⟩ (Value.ref b :: argsL).toArray q B ∧
      Steps p.tables e below (T.setTop g) ((B.U.setTop { g with stack := rest }).pushFrame (.throwing q))) := by
  obtain ⟨mk, methM, hnamed, hmethM, hstM, habM⟩ := Cond.instanceMethod_spec hinst
  obtain ⟨methM', cM, hmethM', -, -, -, -, -, -, hsigM⟩ := Cond.code_spec hnamed hcode
  cases hmethM.symm.trans hmethM'
  obtain ⟨c2, r2, m2, q1, q2, q3, q4, kP, hkP, hkPi⟩ := Cond.selects_spec hsel
  cases hcls.symm.trans q1
  cases (State.methodFound?_of_named hnamed hy).symm.trans q2
  cases hnamed.symm.trans q3
  have hselP : selectMethod e.platform s.vm cellB.cls mk = .method mk := by rw [Launch.admits_selectMethod X.admits]; exact q4
  obtain ⟨vm₁, X₁, hstep₁⟩ := X.invokevirtual hexec hown hlink hnamed hmethM hstM hkP hkPi hy (a := b) (cell := cellB) hcell
    (fun z h => by rw [h] at hobj; cases hobj) hselP hmethM habM hkP hkPi (g := g) hg (argsL := argsL) (rest := rest) (hlen _ hsigM) hstack hdg
  rcases hK m meth c ⟨T.setVm vm₁, locs, cells, slots⟩ { g with stack := rest } (.invokevirtual index) mk (Value.ref b :: argsL).toArray X₁ hg hsize hdg hW (X₁.named hnamed) (hpre vm₁ X₁.warmed) with ⟨v, B, X', hpost, hsteps⟩ | ⟨q, B, X', hpost, hsteps⟩
  · exact Or.inl ⟨v, vm₁, B, X₁.warmed, X', hpost, fun target h => hstep₁ _ fun acts => by rw [doInvoke_state]; exact hsteps.trans h⟩
  · exact Or.inr ⟨q, vm₁, B, X₁.warmed, X', hpost, hstep₁ _ fun acts => by rw [doInvoke_state]; exact hsteps⟩
theorem vx_callS (X : Stand p l e R s m args below meth c T locs cells slots) (hexec : p.tables.exec = Jvm.exec) {own : String} {index : Nat} {y : MethodName} {bytes : ByteArray} {maxL : Nat} {ret : Option FieldType}
    (hown : s.vm.findClass own = some m.cls) (hlink : (Cond.methodLink own index y).before args s = true) (hstat : (Cond.static y).before args s = true) (hinit : (Cond.initialized y.cls).before args s = true)
    (hcode : (Cond.code y bytes maxL ret).before args s = true) (hy : y.cls ≠ "java/lang/invoke/MethodHandle" ∧ y.cls ≠ "java/lang/invoke/VarHandle")
    {W9 : Nat} {Pre : Pt → Array Value → Prop} {Post : Pt → Array Value → Option Value → Pt → Prop} {PostX : Pt → Array Value → Addr → Pt → Prop} (hK : vx_Back l R p e below s args y 3 W9 Pre Post PostX)
    {g : JFrame} (hg : g.method = m) (hsize : g.locals.size = c.maxLocals) {argsL rest : List Value} (hlen : ∀ sig, parseMethodDescriptor y.desc = some sig → argsL.length = sig.parameters.length)
    (hstack : g.stack = argsL.reverse ++ rest) (hW : 2 * g.monitorRoom + (rest.map fun v => v.category).sum ≤ W9) (hdg : decode c.code g.pc = .ok (.invokestatic index, 3))
    (hpre : ∀ vm₁, s.WarmedH vm₁ → Pre ⟨T.setVm vm₁, locs, cells, slots⟩ argsL.toArray) :
    (∃ (v : Option Value) (vm₁ : Vm) (B : Pt), s.WarmedH vm₁ ∧ Stand p l e R s m args below meth c B.U B.locs B.cells B.slots ∧ Post ⟨T.setVm vm₁, locs, cells, slots⟩ argsL.toArray v B ∧
      ∀ target, Steps p.tables e below (B.U.setTop { g with pc := g.pc + 3, stack := v.toList ++ rest }) target → Steps p.tables e below (T.setTop g) target) ∨
    (∃ (q : Addr) (vm₁ : Vm) (B : Pt), s.WarmedH vm₁ ∧ Stand p l e R s m args below meth c B.U B.locs B.cells B.slots ∧ PostX ⟨T.setVm vm₁, locs, cells, slots⟩ argsL.toArray q B ∧
      Steps p.tables e below (T.setTop g) ((B.U.setTop { g with stack := rest }).pushFrame (.throwing q))) := by
  obtain ⟨mk, hnamed⟩ := Cond.code_named hcode
  obtain ⟨methM, cM, hmethM, -, -, -, -, -, -, hsigM⟩ := Cond.code_spec hnamed hcode
  have hstatic : methM.isStatic = true := Cond.static_spec hnamed hmethM hstat
  obtain ⟨kP, hkP, -⟩ := className_of_methodNamed hnamed
  have hinitP : kP.init = .initialized := Cond.initialized_spec (findClass_of_methodNamed hnamed) hkP hinit
  obtain ⟨vm₁, X₁, hstep₁⟩ := X.invokestatic hexec hown hlink hnamed hmethM hstatic hkP hinitP hy (g := g) hg (argsL := argsL) (rest := rest) (hlen _ hsigM) hstack hdg
  rcases hK m meth c ⟨T.setVm vm₁, locs, cells, slots⟩ { g with stack := rest } (.invokestatic index) mk argsL.toArray X₁ hg hsize hdg hW (X₁.named hnamed) (hpre vm₁ X₁.warmed) with ⟨v, B, X', hpost, hsteps⟩ | ⟨q, B, X', hpost, hsteps⟩
  · exact Or.inl ⟨v, vm₁, B, X₁.warmed, X', hpost, fun target h => hstep₁ _ fun acts => by rw [doInvoke_state]; exact hsteps.trans h⟩
  · exact Or.inr ⟨q, vm₁, B, X₁.warmed, X', hpost, hstep₁ _ fun acts => by rw [doInvoke_state]; exact hsteps⟩
end Calls
theorem vx_cls {s : State} {T : State} {vm₁ : Vm} {E : String} {k : ClassId} (hW : s.WarmedH vm₁) (h : (T.setVm vm₁).vm.findClass E = some k) : s.vm.findClass E = some k := by
  have h1 : vm₁.findClass E = some k := h
  rw [hW.alike.findClass] at h1
  exact h1
/-- the method's frame g, with q thrown over it -/
def vx_W (p : Program) (l : Launch) (e : Env) (R : Room) (s : State) (m : MethodId) (args : Array Value) (below : List Frame) (meth : Method) (c : Code) (H : Heap) (locs : List Loc) (cells slots : Nat) (Q : State → Prop) (g : JFrame) (q : Addr) : Prop :=
  ∀ T : State, T.heap = H → Stand p l e R s m args below meth c T locs cells slots → ∃ t, Steps p.tables e below ((T.setTop g).pushFrame (.throwing q)) t ∧ Q t
def vx_Run (p : Program) (l : Launch) (e : Env) (R : Room) (s : State) (m : MethodId) (args : Array Value) (below : List Frame) (meth : Method) (c : Code) (H : Heap) (locs : List Loc) (cells slots mc ms : Nat) (g : JFrame) (rest : List Value) (Qa : State → Outcome → State → Prop) (XC : String → State → State → Prop) (free : Addr → Prop) : Prop :=
  ∀ T : State, T.heap = H → Stand p l e R s m args below meth c T locs cells slots →
    (∃ (v : Option Value) (st₀ t T' : State) (L : List Loc), st₀.heap = H ∧ Stand p l e R s m args below meth c T' (locs ++ L) (cells + mc) (slots + ms) ∧ (∀ q ∈ L, free q.base) ∧ T'.heap = t.heap ∧ T'.vm = t.vm ∧ Qa st₀ (.returned v) t ∧
      Goes p e below T g T' { g with pc := g.pc + 3, stack := v.toList ++ rest }) ∨
    (∃ (q : Addr) (st₀ t T' : State) (L : List Loc) (E : String) (ce : Cell), st₀.heap = H ∧ Stand p l e R s m args below meth c T' (locs ++ L) (cells + mc) (slots + ms) ∧ (∀ z ∈ L, free z.base) ∧ T'.heap = t.heap ∧ T'.vm = t.vm ∧ XC E st₀ t ∧ t.heap[q]? = some ce ∧ ce.vm = .none ∧ s.vm.findClass E = some ce.cls ∧
      Steps p.tables e below (T.setTop g) ((T'.setTop { g with stack := rest }).pushFrame (.throwing q)))
def vx_X {S : Type} (px : S → Prop) (B : String → S → State → Prop) (A : Nat → Prop) : String → State → State → Prop := fun E st t => ∃ u : S, px u ∧ B E u t ∧ va_F A st t
section Runs
variable {p : Program} {l : Launch} {e : Env} {R : Room} {s : State} {m : MethodId} {args : Array Value} {below : List Frame} {meth : Method} {c : Code} {H : Heap} {locs : List Loc} {cells slots : Nat}
variable {y : MethodName} {bytes cc : ByteArray} {maxL nL mc ms n index : Nat} {ret : Option FieldType} {ws : List Cond} {rm : Room} {Pc : Array Value → State → Prop} {Qc : Array Value → State → Outcome → State → Prop} {XC : String → State → State → Prop} {free : Addr → Prop} {Ts : List Cond} {own C : String} {b : Addr} {As rest : List Value} {g : JFrame}
theorem vx_callBack (cb : CallB R s args own index y bytes maxL ret ws rm mc ms n) (hM : vx_Met l y ws rm Pc Qc XC mc ms free) (hbl : FrameBlind Pc) : vx_Back l R p e below s args y 3 8 (PreOf R mc ms Pc) (PostOf Qc mc ms free) (vx_Post XC mc ms free) := by
  obtain ⟨hrc, hrs, hfr, hlo, hws, hcw, -, hini, -⟩ := cb
  exact vx_back (bytes := bytes) (maxL := maxL) (ret := ret) hM hbl hrc hrs hfr hlo hws hcw (fun a' U hW => word_at hW (Or.inl (by first | rfl | simp [Cond.onTables, Cond.keeps, Cond.steady])) hini)
theorem vx_runV (S : CallFix p m c cc nL s args Ts own) (hM : vx_Met l y ws rm Pc Qc XC mc ms free) (cw : CallW R s args own C index y bytes maxL ret ws rm mc ms n) (hp : PreV s H C b Pc As)
    (hg : g.method = m) (hn : As.length = n) (hsize : g.locals.size = nL) (hstack : g.stack = As.reverse ++ .ref b :: rest) (hW : 2 * g.monitorRoom + (rest.map fun v => v.category).sum ≤ 8) (hdg : decode cc g.pc = .ok (.invokevirtual index, 3)) (hf : cells + mc ≤ R.cells ∧ slots + ms ≤ R.slots) :
    vx_Run p l e R s m args below meth c H locs cells slots mc ms g rest (Qc (Value.ref b :: As).toArray) XC free := by
  have hK : vx_Back l R p e below s args y 3 8 (PreOf R mc ms Pc) (PostOf Qc mc ms free) (vx_Post XC mc ms free) := vx_callBack cw.1 hM hp.1
  obtain ⟨⟨-, -, -, -, -, -, hcode, -, hy, hlen, hl⟩, hin, hse⟩ := cw
  obtain ⟨hx, hb, hml, ho, -⟩ := S
  obtain ⟨-, ⟨cellB, hcB, hoB, hclB⟩, hPc⟩ := hp
  intro T hT X
  rcases vx_callV X hx (C := C) (bytes := bytes) (maxL := maxL) (ret := ret) ho hl hin hse hcode hy hK (by rw [hT]; exact hcB) hoB hclB hg (hsize.trans hml.symm) (argsL := As) (rest := rest) (fun sig h => hn.trans (hlen sig h)) hstack hW (by rw [hb]; exact hdg)
    (fun vm₁ hW₁ => ⟨hf.1, hf.2, hPc (T.setVm vm₁) hT hW₁⟩) with ⟨v, vm₁, ⟨U', l2, c2, s2⟩, hW₁, X', ⟨g', mk, t, L, e1, e2, hq, h1, hL, h2, h3⟩, st⟩ | ⟨q, vm₁, ⟨U', l2, c2, s2⟩, hW₁, X', ⟨g', mk, t, L, E, ce, e1, e2, hq, hce, hcv, hcl, h1, hL, h2, h3⟩, st⟩
  · dsimp only [Pt.U, Pt.locs, Pt.cells, Pt.slots] at X' e1 e2 h1 h2 h3 st
    subst h1; subst h2; subst h3
    exact Or.inl ⟨v, (T.setVm vm₁).calling g' mk (Value.ref b :: As).toArray, t, U', L, hT, X', hL, e1, e2, hq, st⟩
  · dsimp only [Pt.U, Pt.locs, Pt.cells, Pt.slots] at X' e1 e2 h1 h2 h3 st hcl
    subst h1; subst h2; subst h3
    exact Or.inr ⟨q, (T.setVm vm₁).calling g' mk (Value.ref b :: As).toArray, t, U', L, E, ce, hT, X', hL, e1, e2, hq, hce, hcv, vx_cls hW₁ hcl, st⟩
theorem vx_runS (S : CallFix p m c cc nL s args Ts own) (hM : vx_Met l y ws rm Pc Qc XC mc ms free) (cw : CallB R s args own index y bytes maxL ret ws rm mc ms n ∧ (Cond.static y).before args s = true) (hp : PreS s H Pc As)
    (hg : g.method = m) (hn : As.length = n) (hsize : g.locals.size = nL) (hstack : g.stack = As.reverse ++ rest) (hW : 2 * g.monitorRoom + (rest.map fun v => v.category).sum ≤ 8) (hdg : decode cc g.pc = .ok (.invokestatic index, 3)) (hf : cells + mc ≤ R.cells ∧ slots + ms ≤ R.slots) :
    vx_Run p l e R s m args below meth c H locs cells slots mc ms g rest (Qc As.toArray) XC free := by
  have hK : vx_Back l R p e below s args y 3 8 (PreOf R mc ms Pc) (PostOf Qc mc ms free) (vx_Post XC mc ms free) := vx_callBack cw.1 hM hp.1
  obtain ⟨⟨-, -, -, -, -, -, hcode, hini, hy, hlen, hl⟩, hstt⟩ := cw
  obtain ⟨hx, hb, hml, ho, -⟩ := S
  intro T hT X
  rcases vx_callS X hx (bytes := bytes) (maxL := maxL) (ret := ret) ho hl hstt hini hcode hy hK hg (hsize.trans hml.symm) (argsL := As) (rest := rest) (fun sig h => hn.trans (hlen sig h)) hstack hW (by rw [hb]; exact hdg)
    (fun vm₁ hW₁ => ⟨hf.1, hf.2, hp.2 (T.setVm vm₁) hT hW₁⟩) with ⟨v, vm₁, ⟨U', l2, c2, s2⟩, hW₁, X', ⟨g', mk, t, L, e1, e2, hq, h1, hL, h2, h3⟩, st⟩ | ⟨q, vm₁, ⟨U', l2, c2, s2⟩, hW₁, X', ⟨g', mk, t, L, E, ce, e1, e2, hq, hce, hcv, hcl, h1, hL, h2, h3⟩, st⟩
  · dsimp only [Pt.U, Pt.locs, Pt.cells, Pt.slots] at X' e1 e2 h1 h2 h3 st
    subst h1; subst h2; subst h3
    exact Or.inl ⟨v, (T.setVm vm₁).calling g' mk As.toArray, t, U', L, hT, X', hL, e1, e2, hq, st⟩
  · dsimp only [Pt.U, Pt.locs, Pt.cells, Pt.slots] at X' e1 e2 h1 h2 h3 st hcl
    subst h1; subst h2; subst h3
    exact Or.inr ⟨q, (T.setVm vm₁).calling g' mk As.toArray, t, U', L, E, ce, hT, X', hL, e1, e2, hq, hce, hcv, vx_cls hW₁ hcl, st⟩
end Runs
section Rows
variable {p : Program} {l : Launch} {e : Env} {R : Room} {s : State} {m : MethodId} {args : Array Value} {below : List Frame} {meth : Method} {c : Code} {H : Heap} {locs : List Loc} {cells slots : Nat} {Q : State → Prop}
variable {mc ms : Nat} {free : Addr → Prop} {A0 A1 : Nat → Prop} {H0 : Heap} {a : Array Value} {pc : Nat} {ls : Array Slot} {st0 rest : List Value}
theorem vx_keep {st₀ t T' : State} {L : List Loc} (h0 : st₀.heap = H) (e1 : T'.heap = t.heap) (hS : va_S A0 H0 H locs) (hA : ∀ q, q < H.size → A1 q → A0 q) (hf : ∀ q, free q → A0 q) (hL : ∀ q ∈ L, free q.base) (hF : va_F A1 st₀ t) :
    H.size ≤ T'.heap.size ∧ (∀ q : Nat, q < H.size → ¬ A1 q → T'.heap[q]? = H[q]?) ∧ va_S A0 H0 T'.heap (locs ++ L) := by
  obtain ⟨hz, hk⟩ := hF
  rw [h0] at hz hk
  exact ⟨by rw [e1]; exact hz, fun q h1 h2 => by rw [e1]; exact hk q h1 h2,
    ⟨Nat.le_trans hS.1 (by rw [e1]; exact hz), fun q h1 h2 => by rw [e1, hk q (Nat.lt_of_lt_of_le h1 hS.1) (fun z => h2 (hA q (Nat.lt_of_lt_of_le h1 hS.1) z))]; exact hS.2.1 q h1 h2, fun q hq => by
      rcases List.mem_append.mp hq with h | h
      · exact hS.2.2 q h
      · exact hf _ (hL q h)⟩⟩
theorem vx_calli {S SX : Type} {post : Int32 → S → Prop} {px : SX → Prop} {B : S → State → Prop} {BX : String → SX → State → Prop} {AX : Nat → Prop} (hr : vx_Run p l e R s m args below meth c H locs cells slots mc ms (F0 m pc ls st0) rest (va_Qi post B A1 a) (vx_X px BX AX) free) (hS : va_S A0 H0 H locs) (hA : ∀ q, q < H.size → A1 q → A0 q) (hf : ∀ q, free q → A0 q) (hAX : ∀ q, q < H.size → AX q → A0 q)
    (kx : ∀ (E : String) (ce : Cell) (q9 : Addr) (u : SX) (t : State) (H1 : Heap) (locs1 : List Loc), t.heap = H1 → s.vm.Alike t.vm → px u → BX E u t → H.size ≤ H1.size → (∀ q : Nat, q < H.size → ¬ AX q → H1[q]? = H[q]?) → va_S A0 H0 H1 locs1 → H1[q9]? = some ce → ce.vm = .none → s.vm.findClass E = some ce.cls → vx_W p l e R s m args below meth c H1 locs1 (cells + mc) (slots + ms) Q (F0 m pc ls rest) q9)
    (kk : ∀ (r : Int32) (u : S) (t : State) (H1 : Heap) (locs1 : List Loc), t.heap = H1 → s.vm.Alike t.vm → post r u → B u t → H.size ≤ H1.size → (∀ q : Nat, q < H.size → ¬ A1 q → H1[q]? = H[q]?) → va_S A0 H0 H1 locs1 → W p l e R s m args below meth c H1 locs1 (cells + mc) (slots + ms) Q (F0 m (pc + 3) ls (.int r :: rest))) : W p l e R s m args below meth c H locs cells slots Q (F0 m pc ls st0) := by
  intro T hT X
  rcases hr T hT X with ⟨v, st₀, t, T', L, h0, X', hL, e1, e2, ⟨⟨r, u, hv, hp, hb⟩, hF⟩, st⟩ | ⟨q, st₀, t, T', L, E, ce, h0, X', hL, e1, e2, ⟨u, hp, hb, hF⟩, hce, hcv, hcl, st⟩
  · cases hv
    obtain ⟨k1, k2, k3⟩ := vx_keep h0 e1 hS hA hf hL hF
    obtain ⟨t2, a1, b1⟩ := kk r u t T'.heap (locs ++ L) e1.symm (by rw [← e2]; exact X'.warmed.alike) hp hb k1 k2 k3 T' rfl X'
    exact ⟨t2, st t2 a1, b1⟩
  · obtain ⟨k1, k2, k3⟩ := vx_keep h0 e1 hS hAX hf hL hF
    obtain ⟨t2, a1, b1⟩ := kx E ce q u t T'.heap (locs ++ L) e1.symm (by rw [← e2]; exact X'.warmed.alike) hp hb k1 k2 k3 (by rw [e1]; exact hce) hcv hcl T' rfl X'
    exact ⟨t2, st.trans a1, b1⟩
theorem vx_calll {S SX : Type} {post : Int64 → S → Prop} {px : SX → Prop} {B : S → State → Prop} {BX : String → SX → State → Prop} {AX : Nat → Prop} (hr : vx_Run p l e R s m args below meth c H locs cells slots mc ms (F0 m pc ls st0) rest (va_Ql post B A1 a) (vx_X px BX AX) free) (hS : va_S A0 H0 H locs) (hA : ∀ q, q < H.size → A1 q → A0 q) (hf : ∀ q, free q → A0 q) (hAX : ∀ q, q < H.size → AX q → A0 q)
    (kx : ∀ (E : String) (ce : Cell) (q9 : Addr) (u : SX) (t : State) (H1 : Heap) (locs1 : List Loc), t.heap = H1 → s.vm.Alike t.vm → px u → BX E u t → H.size ≤ H1.size → (∀ q : Nat, q < H.size → ¬ AX q → H1[q]? = H[q]?) → va_S A0 H0 H1 locs1 → H1[q9]? = some ce → ce.vm = .none → s.vm.findClass E = some ce.cls → vx_W p l e R s m args below meth c H1 locs1 (cells + mc) (slots + ms) Q (F0 m pc ls rest) q9)
    (kk : ∀ (r : Int64) (u : S) (t : State) (H1 : Heap) (locs1 : List Loc), t.heap = H1 → s.vm.Alike t.vm → post r u → B u t → H.size ≤ H1.size → (∀ q : Nat, q < H.size → ¬ A1 q → H1[q]? = H[q]?) → va_S A0 H0 H1 locs1 → W p l e R s m args below meth c H1 locs1 (cells + mc) (slots + ms) Q (F0 m (pc + 3) ls (.long r :: rest))) : W p l e R s m args below meth c H locs cells slots Q (F0 m pc ls st0) := by
  intro T hT X
  rcases hr T hT X with ⟨v, st₀, t, T', L, h0, X', hL, e1, e2, ⟨⟨r, u, hv, hp, hb⟩, hF⟩, st⟩ | ⟨q, st₀, t, T', L, E, ce, h0, X', hL, e1, e2, ⟨u, hp, hb, hF⟩, hce, hcv, hcl, st⟩
  · cases hv
    obtain ⟨k1, k2, k3⟩ := vx_keep h0 e1 hS hA hf hL hF
    obtain ⟨t2, a1, b1⟩ := kk r u t T'.heap (locs ++ L) e1.symm (by rw [← e2]; exact X'.warmed.alike) hp hb k1 k2 k3 T' rfl X'
    exact ⟨t2, st t2 a1, b1⟩
  · obtain ⟨k1, k2, k3⟩ := vx_keep h0 e1 hS hAX hf hL hF
    obtain ⟨t2, a1, b1⟩ := kx E ce q u t T'.heap (locs ++ L) e1.symm (by rw [← e2]; exact X'.warmed.alike) hp hb k1 k2 k3 (by rw [e1]; exact hce) hcv hcl T' rfl X'
    exact ⟨t2, st.trans a1, b1⟩
theorem vx_callf {S SX : Type} {post : UInt32 → S → Prop} {px : SX → Prop} {B : S → State → Prop} {BX : String → SX → State → Prop} {AX : Nat → Prop} (hr : vx_Run p l e R s m args below meth c H locs cells slots mc ms (F0 m pc ls st0) rest (va_Qf post B A1 a) (vx_X px BX AX) free) (hS : va_S A0 H0 H locs) (hA : ∀ q, q < H.size → A1 q → A0 q) (hf : ∀ q, free q → A0 q) (hAX : ∀ q, q < H.size → AX q → A0 q)
    (kx : ∀ (E : String) (ce : Cell) (q9 : Addr) (u : SX) (t : State) (H1 : Heap) (locs1 : List Loc), t.heap = H1 → s.vm.Alike t.vm → px u → BX E u t → H.size ≤ H1.size → (∀ q : Nat, q < H.size → ¬ AX q → H1[q]? = H[q]?) → va_S A0 H0 H1 locs1 → H1[q9]? = some ce → ce.vm = .none → s.vm.findClass E = some ce.cls → vx_W p l e R s m args below meth c H1 locs1 (cells + mc) (slots + ms) Q (F0 m pc ls rest) q9)
    (kk : ∀ (r : UInt32) (u : S) (t : State) (H1 : Heap) (locs1 : List Loc), t.heap = H1 → s.vm.Alike t.vm → post r u → B u t → H.size ≤ H1.size → (∀ q : Nat, q < H.size → ¬ A1 q → H1[q]? = H[q]?) → va_S A0 H0 H1 locs1 → W p l e R s m args below meth c H1 locs1 (cells + mc) (slots + ms) Q (F0 m (pc + 3) ls (.float r :: rest))) : W p l e R s m args below meth c H locs cells slots Q (F0 m pc ls st0) := by
  intro T hT X
  rcases hr T hT X with ⟨v, st₀, t, T', L, h0, X', hL, e1, e2, ⟨⟨r, u, hv, hp, hb⟩, hF⟩, st⟩ | ⟨q, st₀, t, T', L, E, ce, h0, X', hL, e1, e2, ⟨u, hp, hb, hF⟩, hce, hcv, hcl, st⟩
  · cases hv
    obtain ⟨k1, k2, k3⟩ := vx_keep h0 e1 hS hA hf hL hF
    obtain ⟨t2, a1, b1⟩ := kk r u t T'.heap (locs ++ L) e1.symm (by rw [← e2]; exact X'.warmed.alike) hp hb k1 k2 k3 T' rfl X'
    exact ⟨t2, st t2 a1, b1⟩
  · obtain ⟨k1, k2, k3⟩ := vx_keep h0 e1 hS hAX hf hL hF
    obtain ⟨t2, a1, b1⟩ := kx E ce q u t T'.heap (locs ++ L) e1.symm (by rw [← e2]; exact X'.warmed.alike) hp hb k1 k2 k3 (by rw [e1]; exact hce) hcv hcl T' rfl X'
    exact ⟨t2, st.trans a1, b1⟩
theorem vx_calld {S SX : Type} {post : UInt64 → S → Prop} {px : SX → Prop} {B : S → State → Prop} {BX : String → SX → State → Prop} {AX : Nat → Prop} (hr : vx_Run p l e R s m args below meth c H locs cells slots mc ms (F0 m pc ls st0) rest (va_Qd post B A1 a) (vx_X px BX AX) free) (hS : va_S A0 H0 H locs) (hA : ∀ q, q < H.size → A1 q → A0 q) (hf : ∀ q, free q → A0 q) (hAX : ∀ q, q < H.size → AX q → A0 q)
    (kx : ∀ (E : String) (ce : Cell) (q9 : Addr) (u : SX) (t : State) (H1 : Heap) (locs1 : List Loc), t.heap = H1 → s.vm.Alike t.vm → px u → BX E u t → H.size ≤ H1.size → (∀ q : Nat, q < H.size → ¬ AX q → H1[q]? = H[q]?) → va_S A0 H0 H1 locs1 → H1[q9]? = some ce → ce.vm = .none → s.vm.findClass E = some ce.cls → vx_W p l e R s m args below meth c H1 locs1 (cells + mc) (slots + ms) Q (F0 m pc ls rest) q9)
    (kk : ∀ (r : UInt64) (u : S) (t : State) (H1 : Heap) (locs1 : List Loc), t.heap = H1 → s.vm.Alike t.vm → post r u → B u t → H.size ≤ H1.size → (∀ q : Nat, q < H.size → ¬ A1 q → H1[q]? = H[q]?) → va_S A0 H0 H1 locs1 → W p l e R s m args below meth c H1 locs1 (cells + mc) (slots + ms) Q (F0 m (pc + 3) ls (.double r :: rest))) : W p l e R s m args below meth c H locs cells slots Q (F0 m pc ls st0) := by
  intro T hT X
  rcases hr T hT X with ⟨v, st₀, t, T', L, h0, X', hL, e1, e2, ⟨⟨r, u, hv, hp, hb⟩, hF⟩, st⟩ | ⟨q, st₀, t, T', L, E, ce, h0, X', hL, e1, e2, ⟨u, hp, hb, hF⟩, hce, hcv, hcl, st⟩
  · cases hv
    obtain ⟨k1, k2, k3⟩ := vx_keep h0 e1 hS hA hf hL hF
    obtain ⟨t2, a1, b1⟩ := kk r u t T'.heap (locs ++ L) e1.symm (by rw [← e2]; exact X'.warmed.alike) hp hb k1 k2 k3 T' rfl X'
    exact ⟨t2, st t2 a1, b1⟩
  · obtain ⟨k1, k2, k3⟩ := vx_keep h0 e1 hS hAX hf hL hF
    obtain ⟨t2, a1, b1⟩ := kx E ce q u t T'.heap (locs ++ L) e1.symm (by rw [← e2]; exact X'.warmed.alike) hp hb k1 k2 k3 (by rw [e1]; exact hce) hcv hcl T' rfl X'
    exact ⟨t2, st.trans a1, b1⟩
theorem vx_callv {S SX : Type} {post : S → Prop} {px : SX → Prop} {B : S → State → Prop} {BX : String → SX → State → Prop} {AX : Nat → Prop} (hr : vx_Run p l e R s m args below meth c H locs cells slots mc ms (F0 m pc ls st0) rest (va_Qv post B A1 a) (vx_X px BX AX) free) (hS : va_S A0 H0 H locs) (hA : ∀ q, q < H.size → A1 q → A0 q) (hf : ∀ q, free q → A0 q) (hAX : ∀ q, q < H.size → AX q → A0 q)
    (kx : ∀ (E : String) (ce : Cell) (q9 : Addr) (u : SX) (t : State) (H1 : Heap) (locs1 : List Loc), t.heap = H1 → s.vm.Alike t.vm → px u → BX E u t → H.size ≤ H1.size → (∀ q : Nat, q < H.size → ¬ AX q → H1[q]? = H[q]?) → va_S A0 H0 H1 locs1 → H1[q9]? = some ce → ce.vm = .none → s.vm.findClass E = some ce.cls → vx_W p l e R s m args below meth c H1 locs1 (cells + mc) (slots + ms) Q (F0 m pc ls rest) q9)
    (kk : ∀ (u : S) (t : State) (H1 : Heap) (locs1 : List Loc), t.heap = H1 → s.vm.Alike t.vm → post u → B u t → H.size ≤ H1.size → (∀ q : Nat, q < H.size → ¬ A1 q → H1[q]? = H[q]?) → va_S A0 H0 H1 locs1 → W p l e R s m args below meth c H1 locs1 (cells + mc) (slots + ms) Q (F0 m (pc + 3) ls (rest))) : W p l e R s m args below meth c H locs cells slots Q (F0 m pc ls st0) := by
  intro T hT X
  rcases hr T hT X with ⟨v, st₀, t, T', L, h0, X', hL, e1, e2, ⟨⟨u, hv, hp, hb⟩, hF⟩, st⟩ | ⟨q, st₀, t, T', L, E, ce, h0, X', hL, e1, e2, ⟨u, hp, hb, hF⟩, hce, hcv, hcl, st⟩
  · cases hv
    obtain ⟨k1, k2, k3⟩ := vx_keep h0 e1 hS hA hf hL hF
    obtain ⟨t2, a1, b1⟩ := kk u t T'.heap (locs ++ L) e1.symm (by rw [← e2]; exact X'.warmed.alike) hp hb k1 k2 k3 T' rfl X'
    exact ⟨t2, st t2 a1, b1⟩
  · obtain ⟨k1, k2, k3⟩ := vx_keep h0 e1 hS hAX hf hL hF
    obtain ⟨t2, a1, b1⟩ := kx E ce q u t T'.heap (locs ++ L) e1.symm (by rw [← e2]; exact X'.warmed.alike) hp hb k1 k2 k3 (by rw [e1]; exact hce) hcv hcl T' rfl X'
    exact ⟨t2, st.trans a1, b1⟩
/-- caught by the row x of this method's table; the rows ahead don't take it -/
theorem vx_catch {own name : String} {E : String} {ce : Cell} {q : Addr} (hown : s.vm.findClass own = some m.cls) (pre : List ExceptionTableEntry) (x : ExceptionTableEntry) (suf : List ExceptionTableEntry) (hsplit : c.exceptionTable.toList = pre ++ x :: suf)
    (hpass : ∀ z ∈ pre, covers z pc = false ∨ (z.catchType ≠ 0 ∧ ∃ nm : String, (Cond.classLink own z.catchType nm).before args s = true ∧ va_Nc E nm s)) (hx : covers x pc = true) (h0 : x.catchType ≠ 0)
    (hlink : (Cond.classLink own x.catchType name).before args s = true) (hcast : (Cond.castable E name).before args s = true) (hcell : H[q]? = some ce) (hv : ce.vm = .none) (hcl : s.vm.findClass E = some ce.cls)
    (kk : W p l e R s m args below meth c H locs cells slots Q (F0 m x.handlerPc ls [.ref q])) : vx_W p l e R s m args below meth c H locs cells slots Q (F0 m pc ls rest) q := by
  intro T hT X
  have hpl : e.platform.magicAccessors = ({} : Platform).magicAccessors := by rw [X.admits.platform]
  obtain ⟨c3, c4, hc3, hc4, hasg⟩ := Cond.castable_spec hcast
  cases Option.some.inj (hc3.symm.trans hcl)
  obtain ⟨c5, hc5, hcl5⟩ := Cond.classLink_spec hown hlink e.platform hpl
  cases Option.some.inj (hc4.symm.trans hc5)
  obtain ⟨vm', X', st⟩ := X.thenCaughtThrough q (g := F0 m pc ls rest) rfl (Steps.refl _) (by rw [hT]; exact hcell) (by rw [hv]; rfl) (by obtain ⟨k9, h9, -⟩ := Vm.findClass_spec hcl; exact ⟨k9, h9⟩) pre x suf hsplit
    (fun z hz => by
      rcases hpass z hz with h | ⟨hz0, nm, hl1, hn1⟩
      · exact Or.inl h
      · obtain ⟨c6, hc6, hcl6⟩ := Cond.classLink_spec hown hl1 e.platform hpl
        obtain ⟨a8, b8, h1, h2, h3⟩ := hn1
        cases Option.some.inj (h1.symm.trans hcl)
        cases Option.some.inj (h2.symm.trans hc6)
        exact Or.inr ⟨hz0, _, hcl6, h3⟩) hx (Or.inr ⟨h0, c4, hcl5, hasg⟩)
  obtain ⟨t, a1, b1⟩ := kk (T.setVm vm') hT X'
  exact ⟨t, st.trans a1, b1⟩
end Rows
section Ends
variable {p : Program} {l : Launch} {e : Env} {R : Room} {s : State} {m : MethodId} {args : Array Value} {below : List Frame} {meth : Method} {c : Code} {H : Heap} {locs : List Loc} {cells slots : Nat} {Q : State → Prop}
variable {mc ms : Nat} {free : Addr → Prop} {A0 A1 : Nat → Prop} {H0 : Heap} {a : Array Value} {ls : Array Slot} {st0 rest : List Value}
variable {Qc : Array Value → State → Outcome → State → Prop} {XC : String → State → State → Prop}
/-- what a body that may throw owes at its end -/
def vx_MQ (below : List Frame) (Qc : Array Value → State → Outcome → State → Prop) (XC : String → State → State → Prop) (a : Array Value) (s : State) (mc ms : Nat) (free : Addr → Prop) : State → Prop := fun t =>
  ∃ o, t.status = .running ∧ Ended t below o ∧ vx_Q Qc XC mc ms free a s o t
theorem vx_ret {g : JFrame} {mc ms : Nat} (k : W p l e R s m args below meth c H locs cells slots (MQ below Qc args s mc ms free) g) : W p l e R s m args below meth c H locs cells slots (vx_MQ below Qc XC args s mc ms free) g := by
  intro T hT X
  obtain ⟨t, a1, o, b1, b2, b3, b4⟩ := k T hT X
  exact ⟨t, a1, o, b1, b2, Or.inl ⟨b3, b4⟩⟩
/-- not caught here: it goes on to the caller -/
theorem vx_widen {g : JFrame} {q : Addr} {k n : Nat} (h1 : cells ≤ k) (h2 : slots ≤ n) (kk : vx_W p l e R s m args below meth c H locs k n Q g q) : vx_W p l e R s m args below meth c H locs cells slots Q g q := fun T hT X => kk T hT (stand_widen X h1 h2)
theorem vx_out {pc : Nat} {E : String} {ce : Cell} {q : Addr} {mc ms : Nat} (hout : ∀ x ∈ c.exceptionTable.toList, covers x pc = false) (hlocks : meth.locks = false) (hcell : H[q]? = some ce) (hv : ce.vm = .none) (hcl : s.vm.findClass E = some ce.cls)
    (hx : ∀ t : State, t.heap = H → s.vm.Alike t.vm → XC E s t) (hf : ∀ z ∈ locs, free z.base) (hc : cells ≤ mc) (hs : slots ≤ ms) :
    vx_W p l e R s m args below meth c H locs cells slots (vx_MQ below Qc XC args s mc ms free) (F0 m pc ls rest) q := by
  intro T hT X
  obtain ⟨st1, hrun, hend, hW, hsm⟩ := X.leaveThrown q (g := F0 m pc ls rest) rfl rfl rfl hout hlocks
  have hcell9 : (T.setFrames (.throwing q :: below)).heap[q]? = some ce := by
    show T.heap[q]? = some ce
    rw [hT]; exact hcell
  exact ⟨_, st1, .threw q, hrun, hend, Or.inr ⟨q, rfl, E, ce, locs, hx _ hT hW.alike, hcell9, hv, hcl, hW, hsm.mono hc hs, hf⟩⟩
theorem vx_frame {U : State} {k n : Nat} (h : s.sameButNew ({ U with vm := s.vm } : State) locs k n) : s.heap.size ≤ U.heap.size ∧ ∀ q : Nat, q < s.heap.size → (∀ z ∈ locs, z.base ≠ q) → U.heap[q]? = s.heap[q]? := by
  obtain ⟨-, h2, -, -, -, h6⟩ := h
  refine ⟨h2, fun q hq hz => ?_⟩
  obtain ⟨c9, e1, e2, e3, e4⟩ := h6 q _ (Array.getElem?_eq_getElem hq)
  have hs : c9.slots = (s.heap[q]).slots := Array.ext_getElem? fun i => e4 i fun hm => hz _ hm rfl
  have h9 : c9 = s.heap[q] := by
    rw [hs] at e2
    exact e2
  have e5 : U.heap[q]? = some c9 := e1
  rw [e5, h9, Array.getElem?_eq_getElem hq]
/-- the words of a throw but the four that speak of the heap -/
def vx_no (w : Cond) : Bool := decide (w ≠ .isRef (.static Bundle.tN "UNASSIGNED_STACK" Bundle.steD)) && decide (w ≠ .isRef (.static Bundle.tN "SUPPRESSED_SENTINEL" Bundle.listD)) && decide (w ≠ .laysStatic Bundle.tN "UNASSIGNED_STACK" Bundle.steD) && decide (w ≠ .laysStatic Bundle.tN "SUPPRESSED_SENTINEL" Bundle.listD)
def vx_at0 (own : String) (ic : Nat) (X : String) (names : List String) : List Cond := (Bundle.ownAtoms0 own ic X names).filter vx_no
def vx_atS (own : String) (ic : Nat) (X : String) (names : List String) : List Cond := (Bundle.ownAtoms own ic X names).filter vx_no
/-- a word that the tables alone decide, or a good one -/
def vx_ot (w : Cond) : Bool := w.onTables || goodWord w
theorem vx_ot_at {args a' : Array Value} {s U : State} {w : Cond} (hW : s.WarmedH U.vm) (hvm : s.vm = U.vm) (hg : vx_ot w = true) (h : w.before args s = true) : w.before a' U = true := by
  simp only [vx_ot, Bool.or_eq_true] at hg
  rcases hg with hg | hg
  · exact va_tabs hg hvm h
  · exact word_at hW (good_of_word hg) h
/-- a list's words: the good ones out of the method's own list, the others by premises of their own -/
theorem vx_hat {args : Array Value} {s : State} {L B : List Cond} (h1 : ∀ w ∈ L.filter goodWord, w.before args s = true) (h2 : ∀ w ∈ L.filter (fun w => !goodWord w), w ∈ B) (h3 : ∀ w ∈ B, w.before args s = true) : ∀ w ∈ L, w.before args s = true := by
  intro w hw
  by_cases g : goodWord w = true
  · exact h1 w (List.mem_filter.mpr ⟨hw, g⟩)
  · refine h3 w (h2 w (List.mem_filter.mpr ⟨hw, ?_⟩))
    show (!goodWord w) = true
    cases hgw : goodWord w
    · rfl
    · exact absurd hgw g
theorem vx_c {args : Array Value} {s : State} {w : Cond} {B : List Cond} (h : w.before args s = true) (t : ∀ w ∈ B, w.before args s = true) : ∀ w' ∈ w :: B, w'.before args s = true := fun w' h' => (List.mem_cons.mp h').elim (fun e => by rw [e]; exact h) (t w')
theorem vx_n {args : Array Value} {s : State} : ∀ w ∈ ([] : List Cond), w.before args s = true := fun _ h => nomatch h
theorem vx_own {args : Array Value} {s : State} {L : List Cond} (h1 : ∀ w ∈ L.filter vx_no, w.before args s = true)
    (hU : (Cond.isRef (.static Bundle.tN "UNASSIGNED_STACK" Bundle.steD)).before args s = true) (hN : (Cond.isRef (.static Bundle.tN "SUPPRESSED_SENTINEL" Bundle.listD)).before args s = true)
    (lU : (Cond.laysStatic Bundle.tN "UNASSIGNED_STACK" Bundle.steD).before args s = true) (lN : (Cond.laysStatic Bundle.tN "SUPPRESSED_SENTINEL" Bundle.listD).before args s = true) : ∀ w ∈ L, w.before args s = true := by
  intro w hw
  by_cases e1 : w = .isRef (.static Bundle.tN "UNASSIGNED_STACK" Bundle.steD)
  · rw [e1]; exact hU
  · by_cases e2 : w = .isRef (.static Bundle.tN "SUPPRESSED_SENTINEL" Bundle.listD)
    · rw [e2]; exact hN
    · by_cases e3 : w = .laysStatic Bundle.tN "UNASSIGNED_STACK" Bundle.steD
      · rw [e3]; exact lU
      · by_cases e4 : w = .laysStatic Bundle.tN "SUPPRESSED_SENTINEL" Bundle.listD
        · rw [e4]; exact lN
        · exact h1 w (List.mem_filter.mpr ⟨hw, by unfold vx_no; rw [decide_eq_true e1, decide_eq_true e2, decide_eq_true e3, decide_eq_true e4]; rfl⟩)
/-- where a static field lies, its class's statics cell in H -/
def vx_L (C n d : String) (A : Nat → Prop) (U : State) (H : Heap) : Prop := ∃ (c : ClassId) (k : Class) (i : Nat) (f : Field) (a : Nat) (cell : Cell), U.vm.findClass C = some c ∧ U.fieldFound? C n d = some (c, k, i, f) ∧ f.isStatic = true ∧ k.statics = some a ∧ H[a]? = some cell ∧ cell.vm.isStatics = true ∧ cell.cls = c ∧ f.slot < cell.slots.size ∧ k.staticTypes[f.slot]? = some f.type ∧ ¬ A a
theorem vx_L.moved {C n d : String} {A : Nat → Prop} {u U : State} {H : Heap} (hvm : u.vm.Alike U.vm) (h : vx_L C n d A u H) : vx_L C n d A U H := by
  obtain ⟨c, k, i, f, a, cell, h1, h2, h3, h4, h5, h6, h7, h8, h9, h10⟩ := h
  obtain ⟨k', hi', he⟩ := State.fieldFound?_setVm hvm h2
  exact ⟨c, k', i, f, a, cell, by rw [hvm.findClass]; exact h1, hi', h3, by rw [he]; exact h4, h5, h6, h7, h8, by rw [he]; exact h9, h10⟩
theorem vx_L.kept {C n d : String} {A : Nat → Prop} {U : State} {H H1 : Heap} (h : vx_L C n d A U H) (hq : ∀ a : Nat, a < H.size → ¬ A a → H1[a]? = H[a]?) : vx_L C n d A U H1 := by
  obtain ⟨c, k, i, f, a, cell, h1, h2, h3, h4, h5, h6, h7, h8, h9, h10⟩ := h
  exact ⟨c, k, i, f, a, cell, h1, h2, h3, h4, by rw [hq a (Array.getElem?_eq_some_iff.mp h5).1 h10]; exact h5, h6, h7, h8, h9, h10⟩
theorem vx_L.narrow {C n d : String} {A B : Nat → Prop} {U : State} {H : Heap} (h : vx_L C n d A U H) (hAB : ∀ q, B q → A q) : vx_L C n d B U H := by
  obtain ⟨c, k, i, f, a, cell, h1, h2, h3, h4, h5, h6, h7, h8, h9, h10⟩ := h
  exact ⟨c, k, i, f, a, cell, h1, h2, h3, h4, h5, h6, h7, h8, h9, fun z => h10 (hAB _ z)⟩
theorem vx_L.word {C n d : String} {A : Nat → Prop} {s : State} {args : Array Value} (h : vx_L C n d A s s.heap) : (Cond.laysStatic C n d).before args s = true := by
  obtain ⟨c, k, i, f, a, cell, h1, h2, h3, h4, h5, h6, h7, h8, h9, -⟩ := h
  show (Cond.laysStatic C n d).holds args s none s [] = true
  exact Cond.laysStatic_of h1 h2 h3 h4 h5 h6 h7 h8 h9
/-- .. and what it holds: null or some reference -/
def vx_Zq (C n d : String) (A : Nat → Prop) (U : State) (H : Heap) : Prop := va_Zq C n d A U H ∧ vx_L C n d A U H
theorem vx_Zq.moved {C n d : String} {A : Nat → Prop} {u U : State} {H : Heap} (hvm : u.vm.Alike U.vm) (h : vx_Zq C n d A u H) : vx_Zq C n d A U H := ⟨va_Zq.moved hvm h.1, vx_L.moved hvm h.2⟩
theorem vx_Zq.kept {C n d : String} {A : Nat → Prop} {U : State} {H H1 : Heap} (h : vx_Zq C n d A U H) (hq : ∀ a : Nat, a < H.size → ¬ A a → H1[a]? = H[a]?) : vx_Zq C n d A U H1 := ⟨va_Zq.kept h.1 hq, vx_L.kept h.2 hq⟩
theorem vx_Zq.narrow {C n d : String} {A B : Nat → Prop} {U : State} {H : Heap} (h : vx_Zq C n d A U H) (hAB : ∀ q, B q → A q) : vx_Zq C n d B U H := ⟨va_Zq.narrow h.1 hAB, vx_L.narrow h.2 hAB⟩
theorem vx_Zqof {args : Array Value} {s : State} {C n d : String} {A : Nat → Prop} (hl : (Cond.laysStatic C n d).before args s = true) (hini : (Cond.initialized C).before args s = true) (h : (Cond.isRef (.static C n d)).before args s = true) (hA : ∀ a : Nat, a < s.heap.size → ¬ A a) : vx_Zq C n d A s s.heap := by
  refine ⟨va_Zqof hl hini h hA, ?_⟩
  obtain ⟨c, k, i, f, a, cell, h1, h2, h3, h4, h5, h6, h7, h8, h9⟩ := Cond.laysStatic_spec hl
  exact ⟨c, k, i, f, a, cell, h1, h2, h3, h4, h5, h6, h7, h8, h9, hA a (Array.getElem?_eq_some_iff.mp h5).1⟩
theorem vx_isRef {C n d : String} {v : Value} {A : Nat → Prop} {s : State} {args : Array Value} (h : va_Z C n d v A s s.heap) (hv : v.isRef = true) : (Cond.isRef (.static C n d)).before args s = true := by
  obtain ⟨cf, kf, fi, f, a, cell, h1, h2, h3, h4, h5, h6, h7, -⟩ := h
  have he : (Term.static C n d).eval args s none [] s = some v := by
    simp [Term.eval, State.fieldNamed?, h1, h2, h4, h5, h6, h7]
  simp only [Cond.before, Cond.holds, Cond.value, he]
  cases v <;> simp_all [Value.isRef]
theorem vx_isRefq {C n d : String} {A : Nat → Prop} {s : State} {args : Array Value} (h : va_Zq C n d A s s.heap) : (Cond.isRef (.static C n d)).before args s = true := by
  rcases h with h | ⟨t, h⟩
  · exact vx_isRef h rfl
  · exact vx_isRef h rfl
/-- the same frame, seen from here: as if the method were called anew in this heap -/
theorem vx_rebase {T : State} (X : Stand p l e R s m args below meth c T locs cells slots) {R' : Room} (hf : R'.frames ≤ R.frames) (hl : R'.locals ≤ R.locals) (hc : cells + R'.cells ≤ R.cells) (hs : slots + R'.slots ≤ R.slots) :
    Stand p l e R' ((T.setVm s.vm).setFrames (.invoking m args :: below)) m args below meth c T [] 0 0 := by
  have htop : (T.setVm s.vm).topJava?.isSome := X.here.top
  have hF : ((T.setVm s.vm).setFrames (.invoking m args :: below)).frames = .invoking m args :: below := State.frames_setFrames _ (State.cur_lt_of_top htop)
  obtain ⟨g₀, hg0⟩ := Option.isSome_iff_exists.mp htop
  obtain ⟨r, hr⟩ := State.topJava?_eq_some.mp hg0
  have hl9 : e.platform.stackLimits (T.setVm s.vm).me = e.platform.stackLimits s.me := X.limits
  have hb9 : (T.setVm s.vm).me.stackBytes = s.me.stackBytes := X.bytes
  refine ⟨X.admits, X.cas, X.clock, hF, ?_, X.hears, X.method, X.code, X.here, X.tail, X.warmed, ?_, ?_, ?_⟩
  · have h := X.room
    have hU : ((T.setVm s.vm).setFrames (.invoking m args :: below)).localsInUse = s.localsInUse := by
      rw [State.localsInUse_invoking hF (meth := meth) (c := c) X.method X.code, State.localsInUse_invoking X.frames X.method X.code]
    simp only [State.hasRoom, Bool.and_eq_true, decide_eq_true_eq] at h ⊢
    obtain ⟨⟨⟨⟨h1, h2, h3, h4, h5, h6⟩, h7⟩, h8⟩, h9⟩ := h
    rw [X.frames, List.length_cons] at h2 h3
    have q1 := X.heapSize
    have q2 := X.used
    simp only [hF, hU, List.length_cons, State.stackLimits_setFrames, State.stackBytes_setFrames, hl9, hb9]
    refine ⟨⟨⟨⟨by omega, by omega, by omega, by omega, by omega, h6⟩, ?_⟩, ?_⟩, X.book⟩
    · show T.heap.size + R'.cells ≤ e.platform.maxCells
      omega
    · show T.slotsUsed + R'.slots ≤ e.platform.maxSlots
      omega
  · rw [State.stackLimits_setFrames]; rfl
  · rw [State.stackBytes_setFrames]; rfl
  · refine ⟨?_, Nat.le_refl _, Nat.le_refl _, ?_, ?_, fun a c9 h9 => ⟨c9, h9, rfl, rfl, fun _ _ => rfl⟩⟩
    · obtain ⟨t, ht, -⟩ := State.frames_cons hr
      show T.setVm s.vm = { ((T.setVm s.vm).setFrames (.invoking m args :: below)).setFrames (T.setVm s.vm).frames with heap := T.heap, slotsUsed := T.slotsUsed }
      rw [State.setFrames_setFrames, State.setFrames_self ht]
      rfl
    · show T.slotsUsed = T.slotsUsed + ((T.heap.toList.drop T.heap.size).map (·.slots.size)).sum
      rw [List.drop_eq_nil_of_le (Nat.le_of_eq Array.length_toList)]
      rfl
    · show ((T.heap.toList.drop T.heap.size).map (·.slots.size)).sum ≤ 0
      rw [List.drop_eq_nil_of_le (Nat.le_of_eq Array.length_toList)]
      exact Nat.le_refl _
/-- 'throw new E()': new; dup; invokespecial; athrow -/
theorem vx_throw0 {cc : ByteArray} {pc : Nat} (hexec : p.tables.exec = Jvm.exec) (hb : c.code = cc) (hl : l.stackTraces = false) {own cls : String} {names : List String} {ik ic mc ms : Nat} {A : Nat → Prop}
    (hown : s.vm.findClass own = some m.cls) (hcls : Bundle.fit cls = true) (hnames : ∀ n ∈ names, Bundle.fit n = true)
    (hk : (Cond.classLink own ik cls).before args s = true) (hini : (Cond.initialized cls).before args s = true) (hat : ∀ w ∈ vx_at0 own ic cls names, w.before args s = true)
    (hgood : ∀ w ∈ Cond.classLink own ik cls :: Cond.initialized cls :: vx_at0 own ic cls names, vx_ot w = true)
    (hU : vx_Zq Bundle.tN "UNASSIGNED_STACK" Bundle.steD A s s.heap) (hN : vx_Zq Bundle.tN "SUPPRESSED_SENTINEL" Bundle.listD A s s.heap) (hS : va_S A s.heap H locs) (hsize : ls.size = c.maxLocals)
    (d0 : decode cc pc = .ok (.new ik, 3)) (d3 : decode cc (pc + 3) = .ok (.dup, 1)) (d4 : decode cc (pc + 4) = .ok (.invokespecial ic, 3)) (d7 : decode cc (pc + 7) = .ok (.athrow, 1))
    (hout : ∀ x ∈ c.exceptionTable.toList, covers x (pc + 7) = false)
    (hRframes : names.length + 3 < R.frames) (hRlocals : (rest.map fun v => v.category).sum + (13 * (names.length + 1) + 42) ≤ R.locals) (hRcells : cells + 1 ≤ R.cells) (hRslots : slots + 6 ≤ R.slots) (hlocks : meth.locks = false)
    (hx : ∀ t : State, s.vm.Alike t.vm → H.size ≤ t.heap.size → (∀ q : Nat, q < H.size → t.heap[q]? = H[q]?) → XC cls s t)
    (hf : ∀ z ∈ locs, free z.base) (hc : cells + 1 ≤ mc) (hs : slots + 6 ≤ ms) :
    W p l e R s m args below meth c H locs cells slots (vx_MQ below Qc XC args s mc ms free) (F0 m pc ls rest) := by
  intro T hT X
  have htr : e.platform.stackTraces = false := (show e.platform.stackTraces = l.stackTraces by rw [X.admits.platform]).trans hl
  have Y := vx_rebase X (R' := { frames := R.frames, locals := R.locals, cells := 1, slots := 6 }) (Nat.le_refl _) (Nat.le_refl _) hRcells hRslots
  obtain ⟨s', hA⟩ : ∃ z, z = (T.setVm s.vm).setFrames (.invoking m args :: below) := ⟨_, rfl⟩
  rw [← hA] at Y
  have hvm : s'.vm = s.vm := by rw [hA]; rfl
  have hhp : s'.heap = H := by rw [hA]; exact hT
  have hW0 : s.WarmedH s'.vm := by rw [hvm]; exact State.WarmedH.refl s
  have hat' : ∀ w ∈ vx_at0 own ic cls names, w.before args s' = true := fun w hw => vx_ot_at hW0 hvm.symm (hgood w (List.mem_cons_of_mem _ (List.mem_cons_of_mem _ hw))) (hat w hw)
  have hk' : (Cond.classLink own ik cls).before args s' = true := vx_ot_at hW0 hvm.symm (hgood _ List.mem_cons_self) hk
  have hini' : (Cond.initialized cls).before args s' = true := vx_ot_at hW0 hvm.symm (hgood _ (List.mem_cons_of_mem _ List.mem_cons_self)) hini
  have hU' : vx_Zq Bundle.tN "UNASSIGNED_STACK" Bundle.steD A s' s'.heap := by rw [hhp]; exact vx_Zq.moved hW0.alike (hU.kept hS.2.1)
  have hN' : vx_Zq Bundle.tN "SUPPRESSED_SENTINEL" Bundle.listD A s' s'.heap := by rw [hhp]; exact vx_Zq.moved hW0.alike (hN.kept hS.2.1)
  have h : ∀ w ∈ Bundle.ownAtoms0 own ic cls names, w.before args s' = true := vx_own hat' (vx_isRefq hU'.1) (vx_isRefq hN'.1) hU'.2.word hN'.2.word
  have hown' : s'.vm.findClass own = some m.cls := by rw [hvm]; exact hown
  have hins : (Cond.instantiable cls 6).before args s' = true := h _ (by simp [Bundle.ownAtoms0])
  obtain ⟨vm₁, cX, kX, hfX, hkX, -, -, X₁, st1⟩ := Y.newCold hexec (own := own) (C := cls) (index := ik) (n := 6) hown' hk' hins hini'
    (g := F0 m pc ls rest) rfl (by rw [hb]; exact d0) (Nat.le_refl _) (Nat.le_refl _)
  generalize hT1 : (T.setVm vm₁).pushCell { cls := cX, slots := kX.instanceTypes.map defaultValue, vm := .none } = T1 at X₁ st1
  have hcat : (Value.ref T.heap.size).category = 1 := rfl
  have hcellA : T1.heap[T.heap.size]? = some (freshCell cX kX) := by rw [← hT1]; exact State.heap_pushCell_size _ _
  have d3' : decode c.code (pc + 3) = .ok (.dup, 1) := by rw [hb]; exact d3
  obtain ⟨U, hsteps, hrun, hend, hW, hsame, ce, hce, hO⟩ := X₁.ctorThrow0 hexec htr (own := own) (cls := cls) (names := names) (ic := ic) hown' hcls hnames h (fun x hx => nomatch hx) hfX hkX hcellA (by rw [hhp, hT]; exact Nat.le_refl _)
    (g := { method := m, pc := pc + 4, locals := ls, stack := .ref T.heap.size :: .ref T.heap.size :: rest, locked := none }) rfl hsize rfl rfl (rest := rest) rfl
    (by rw [hb]; exact d4) (by rw [hb]; exact d7) hout hRframes (by simp only [List.map_cons, List.sum_cons, hcat]; omega) hlocks
  obtain ⟨f1, f2⟩ := vx_frame hsame
  rw [hhp] at f1 f2
  have hWs : s.WarmedH U.vm := State.WarmedH.trans hW0 hW
  have hcl : s.vm.findClass cls = some ce.cls := by
    have h9 := hO.cls
    rw [hvm] at h9
    exact h9
  have hall : s.sameButNew ({ U with vm := s.vm } : State) locs mc ms := by
    subst hA
    obtain ⟨e1, e2⟩ := hsame
    rw [State.setFrames_setFrames] at e1
    have h2 : (T.setVm s.vm).sameButNew ({ U with vm := s.vm } : State) [] (0 + 1) (0 + 6) := ⟨e1, e2⟩
    have h3 := X.same.trans h2
    rw [List.append_nil] at h3
    exact h3.mono hc hs
  refine ⟨U, ?_, .threw T.heap.size, hrun, hend, Or.inr ⟨T.heap.size, rfl, cls, ce, locs, hx U hWs.alike f1 (fun q hq => f2 q hq (fun z hz => nomatch hz)), hce, hO.vm, hcl, hWs, hall, hf⟩⟩
  refine st1 _ ?_
  show Steps p.tables e below (T1.setTop { method := m, pc := pc + 3, locals := ls, stack := .ref T.heap.size :: rest, locked := none }) _
  jvm_step X₁.here [X₁.here.top, hexec, d3', Value.category]
  exact hsteps
/-- 'throw new E("text")': new; dup; ldc; invokespecial; athrow -/
theorem vx_throwS {cc : ByteArray} {pc : Nat} (hexec : p.tables.exec = Jvm.exec) (hb : c.code = cc) (hl : l.stackTraces = false) {own cls text : String} {names : List String} {ik is ic mc ms sa : Nat} {A : Nat → Prop}
    (hown : s.vm.findClass own = some m.cls) (hcls : Bundle.fit cls = true) (hnames : ∀ n ∈ names, Bundle.fit n = true)
    (hk : (Cond.classLink own ik cls).before args s = true) (hini : (Cond.initialized cls).before args s = true) (hstr : vk_R own is text sa s) (hat : ∀ w ∈ vx_atS own ic cls names, w.before args s = true)
    (hgood : ∀ w ∈ Cond.classLink own ik cls :: Cond.initialized cls :: vx_atS own ic cls names, vx_ot w = true)
    (hU : vx_Zq Bundle.tN "UNASSIGNED_STACK" Bundle.steD A s s.heap) (hN : vx_Zq Bundle.tN "SUPPRESSED_SENTINEL" Bundle.listD A s s.heap) (hS : va_S A s.heap H locs) (hsize : ls.size = c.maxLocals)
    (d0 : decode cc pc = .ok (.new ik, 3)) (d3 : decode cc (pc + 3) = .ok (.dup, 1)) (d4 : decode cc (pc + 4) = .ok (.ldc is, 2)) (d6 : decode cc (pc + 6) = .ok (.invokespecial ic, 3)) (d9 : decode cc (pc + 9) = .ok (.athrow, 1))
    (hout : ∀ x ∈ c.exceptionTable.toList, covers x (pc + 9) = false)
    (hRframes : names.length + 3 < R.frames) (hRlocals : (rest.map fun v => v.category).sum + (13 * (names.length + 1) + 43) ≤ R.locals) (hRcells : cells + 1 ≤ R.cells) (hRslots : slots + 6 ≤ R.slots) (hlocks : meth.locks = false)
    (hx : ∀ t : State, s.vm.Alike t.vm → H.size ≤ t.heap.size → (∀ q : Nat, q < H.size → t.heap[q]? = H[q]?) → XC cls s t)
    (hf : ∀ z ∈ locs, free z.base) (hc : cells + 1 ≤ mc) (hs : slots + 6 ≤ ms) :
    W p l e R s m args below meth c H locs cells slots (vx_MQ below Qc XC args s mc ms free) (F0 m pc ls rest) := by
  intro T hT X
  have htr : e.platform.stackTraces = false := (show e.platform.stackTraces = l.stackTraces by rw [X.admits.platform]).trans hl
  have Y := vx_rebase X (R' := { frames := R.frames, locals := R.locals, cells := 1, slots := 6 }) (Nat.le_refl _) (Nat.le_refl _) hRcells hRslots
  obtain ⟨s', hA⟩ : ∃ z, z = (T.setVm s.vm).setFrames (.invoking m args :: below) := ⟨_, rfl⟩
  rw [← hA] at Y
  have hvm : s'.vm = s.vm := by rw [hA]; rfl
  have hhp : s'.heap = H := by rw [hA]; exact hT
  have hW0 : s.WarmedH s'.vm := by rw [hvm]; exact State.WarmedH.refl s
  have hat' : ∀ w ∈ vx_atS own ic cls names, w.before args s' = true := fun w hw => vx_ot_at hW0 hvm.symm (hgood w (List.mem_cons_of_mem _ (List.mem_cons_of_mem _ hw))) (hat w hw)
  have hk' : (Cond.classLink own ik cls).before args s' = true := vx_ot_at hW0 hvm.symm (hgood _ List.mem_cons_self) hk
  have hini' : (Cond.initialized cls).before args s' = true := vx_ot_at hW0 hvm.symm (hgood _ (List.mem_cons_of_mem _ List.mem_cons_self)) hini
  have hU' : vx_Zq Bundle.tN "UNASSIGNED_STACK" Bundle.steD A s' s'.heap := by rw [hhp]; exact vx_Zq.moved hW0.alike (hU.kept hS.2.1)
  have hN' : vx_Zq Bundle.tN "SUPPRESSED_SENTINEL" Bundle.listD A s' s'.heap := by rw [hhp]; exact vx_Zq.moved hW0.alike (hN.kept hS.2.1)
  have h : ∀ w ∈ Bundle.ownAtoms own ic cls names, w.before args s' = true := vx_own hat' (vx_isRefq hU'.1) (vx_isRefq hN'.1) hU'.2.word hN'.2.word
  have hown' : s'.vm.findClass own = some m.cls := by rw [hvm]; exact hown
  have hins : (Cond.instantiable cls 6).before args s' = true := h _ (by simp [Bundle.ownAtoms])
  obtain ⟨vm₁, cX, kX, hfX, hkX, -, -, X₁, st1⟩ := Y.newCold hexec (own := own) (C := cls) (index := ik) (n := 6) hown' hk' hins hini'
    (g := F0 m pc ls rest) rfl (by rw [hb]; exact d0) (Nat.le_refl _) (Nat.le_refl _)
  generalize hT1 : (T.setVm vm₁).pushCell { cls := cX, slots := kX.instanceTypes.map defaultValue, vm := .none } = T1 at X₁ st1
  have hcat : (Value.ref T.heap.size).category = 1 := rfl
  have hcellA : T1.heap[T.heap.size]? = some (freshCell cX kX) := by rw [← hT1]; exact State.heap_pushCell_size _ _
  have d3' : decode c.code (pc + 3) = .ok (.dup, 1) := by rw [hb]; exact d3
  have d4' : decode c.code (pc + 4) = .ok (.ldc is, 2) := by rw [hb]; exact d4
  have hstr' : vk_R own is text sa s' := vk_R.warm hW0 hstr
  obtain ⟨U, hsteps, hrun, hend, hW, hsame, ce, hce, hO⟩ := X₁.ctorThrowS hexec htr (own := own) (cls := cls) (names := names) (ic := ic) hown' hcls hnames h (fun x hx => nomatch hx) hfX hkX hcellA (by rw [hhp, hT]; exact Nat.le_refl _) (msg := .ref sa) rfl
    (g := { method := m, pc := pc + 6, locals := ls, stack := .ref sa :: .ref T.heap.size :: .ref T.heap.size :: rest, locked := none }) rfl hsize rfl rfl (rest := rest) rfl
    (by rw [hb]; exact d6) (by rw [hb]; exact d9) hout hRframes (by simp only [List.map_cons, List.sum_cons, hcat]; omega) hlocks
  obtain ⟨f1, f2⟩ := vx_frame hsame
  rw [hhp] at f1 f2
  have hWs : s.WarmedH U.vm := State.WarmedH.trans hW0 hW
  have hcl : s.vm.findClass cls = some ce.cls := by
    have h9 := hO.cls
    rw [hvm] at h9
    exact h9
  have hall : s.sameButNew ({ U with vm := s.vm } : State) locs mc ms := by
    subst hA
    obtain ⟨e1, e2⟩ := hsame
    rw [State.setFrames_setFrames] at e1
    have h2 : (T.setVm s.vm).sameButNew ({ U with vm := s.vm } : State) [] (0 + 1) (0 + 6) := ⟨e1, e2⟩
    have h3 := X.same.trans h2
    rw [List.append_nil] at h3
    exact h3.mono hc hs
  refine ⟨U, ?_, .threw T.heap.size, hrun, hend, Or.inr ⟨T.heap.size, rfl, cls, ce, locs, hx U hWs.alike f1 (fun q hq => f2 q hq (fun z hz => nomatch hz)), hce, hO.vm, hcl, hWs, hall, hf⟩⟩
  refine st1 _ ?_
  show Steps p.tables e below (T1.setTop { method := m, pc := pc + 3, locals := ls, stack := .ref T.heap.size :: rest, locked := none }) _
  jvm_step X₁.here [X₁.here.top, hexec, d3', Value.category]
  exact X₁.ldcString hexec (own := own) (text := text) (index := is) (a := sa) hown' hstr'.1 hstr'.2
    (g := { method := m, pc := pc + 4, locals := ls, stack := .ref T.heap.size :: .ref T.heap.size :: rest, locked := none }) rfl d4' _ hsteps
/-- 'throw new E("text")', the text by a wide index -/
theorem vx_throwSW {cc : ByteArray} {pc : Nat} (hexec : p.tables.exec = Jvm.exec) (hb : c.code = cc) (hl : l.stackTraces = false) {own cls text : String} {names : List String} {ik is ic mc ms sa : Nat} {A : Nat → Prop}
    (hown : s.vm.findClass own = some m.cls) (hcls : Bundle.fit cls = true) (hnames : ∀ n ∈ names, Bundle.fit n = true)
    (hk : (Cond.classLink own ik cls).before args s = true) (hini : (Cond.initialized cls).before args s = true) (hstr : vk_R own is text sa s) (hat : ∀ w ∈ vx_atS own ic cls names, w.before args s = true)
    (hgood : ∀ w ∈ Cond.classLink own ik cls :: Cond.initialized cls :: vx_atS own ic cls names, vx_ot w = true)
    (hU : vx_Zq Bundle.tN "UNASSIGNED_STACK" Bundle.steD A s s.heap) (hN : vx_Zq Bundle.tN "SUPPRESSED_SENTINEL" Bundle.listD A s s.heap) (hS : va_S A s.heap H locs) (hsize : ls.size = c.maxLocals)
    (d0 : decode cc pc = .ok (.new ik, 3)) (d3 : decode cc (pc + 3) = .ok (.dup, 1)) (d4 : decode cc (pc + 4) = .ok (.ldc_w is, 3)) (d7 : decode cc (pc + 7) = .ok (.invokespecial ic, 3)) (d10 : decode cc (pc + 10) = .ok (.athrow, 1))
    (hout : ∀ x ∈ c.exceptionTable.toList, covers x (pc + 10) = false)
    (hRframes : names.length + 3 < R.frames) (hRlocals : (rest.map fun v => v.category).sum + (13 * (names.length + 1) + 43) ≤ R.locals) (hRcells : cells + 1 ≤ R.cells) (hRslots : slots + 6 ≤ R.slots) (hlocks : meth.locks = false)
    (hx : ∀ t : State, s.vm.Alike t.vm → H.size ≤ t.heap.size → (∀ q : Nat, q < H.size → t.heap[q]? = H[q]?) → XC cls s t)
    (hf : ∀ z ∈ locs, free z.base) (hc : cells + 1 ≤ mc) (hs : slots + 6 ≤ ms) :
    W p l e R s m args below meth c H locs cells slots (vx_MQ below Qc XC args s mc ms free) (F0 m pc ls rest) := by
  intro T hT X
  have htr : e.platform.stackTraces = false := (show e.platform.stackTraces = l.stackTraces by rw [X.admits.platform]).trans hl
  have Y := vx_rebase X (R' := { frames := R.frames, locals := R.locals, cells := 1, slots := 6 }) (Nat.le_refl _) (Nat.le_refl _) hRcells hRslots
  obtain ⟨s', hA⟩ : ∃ z, z = (T.setVm s.vm).setFrames (.invoking m args :: below) := ⟨_, rfl⟩
  rw [← hA] at Y
  have hvm : s'.vm = s.vm := by rw [hA]; rfl
  have hhp : s'.heap = H := by rw [hA]; exact hT
  have hW0 : s.WarmedH s'.vm := by rw [hvm]; exact State.WarmedH.refl s
  have hat' : ∀ w ∈ vx_atS own ic cls names, w.before args s' = true := fun w hw => vx_ot_at hW0 hvm.symm (hgood w (List.mem_cons_of_mem _ (List.mem_cons_of_mem _ hw))) (hat w hw)
  have hk' : (Cond.classLink own ik cls).before args s' = true := vx_ot_at hW0 hvm.symm (hgood _ List.mem_cons_self) hk
  have hini' : (Cond.initialized cls).before args s' = true := vx_ot_at hW0 hvm.symm (hgood _ (List.mem_cons_of_mem _ List.mem_cons_self)) hini
  have hU' : vx_Zq Bundle.tN "UNASSIGNED_STACK" Bundle.steD A s' s'.heap := by rw [hhp]; exact vx_Zq.moved hW0.alike (hU.kept hS.2.1)
  have hN' : vx_Zq Bundle.tN "SUPPRESSED_SENTINEL" Bundle.listD A s' s'.heap := by rw [hhp]; exact vx_Zq.moved hW0.alike (hN.kept hS.2.1)
  have h : ∀ w ∈ Bundle.ownAtoms own ic cls names, w.before args s' = true := vx_own hat' (vx_isRefq hU'.1) (vx_isRefq hN'.1) hU'.2.word hN'.2.word
  have hown' : s'.vm.findClass own = some m.cls := by rw [hvm]; exact hown
  have hins : (Cond.instantiable cls 6).before args s' = true := h _ (by simp [Bundle.ownAtoms])
  obtain ⟨vm₁, cX, kX, hfX, hkX, -, -, X₁, st1⟩ := Y.newCold hexec (own := own) (C := cls) (index := ik) (n := 6) hown' hk' hins hini'
    (g := F0 m pc ls rest) rfl (by rw [hb]; exact d0) (Nat.le_refl _) (Nat.le_refl _)
  generalize hT1 : (T.setVm vm₁).pushCell { cls := cX, slots := kX.instanceTypes.map defaultValue, vm := .none } = T1 at X₁ st1
  have hcat : (Value.ref T.heap.size).category = 1 := rfl
  have hcellA : T1.heap[T.heap.size]? = some (freshCell cX kX) := by rw [← hT1]; exact State.heap_pushCell_size _ _
  have d3' : decode c.code (pc + 3) = .ok (.dup, 1) := by rw [hb]; exact d3
  have d4' : decode c.code (pc + 4) = .ok (.ldc_w is, 3) := by rw [hb]; exact d4
  have hstr' : vk_R own is text sa s' := vk_R.warm hW0 hstr
  obtain ⟨U, hsteps, hrun, hend, hW, hsame, ce, hce, hO⟩ := X₁.ctorThrowS hexec htr (own := own) (cls := cls) (names := names) (ic := ic) hown' hcls hnames h (fun x hx => nomatch hx) hfX hkX hcellA (by rw [hhp, hT]; exact Nat.le_refl _) (msg := .ref sa) rfl
    (g := { method := m, pc := pc + 7, locals := ls, stack := .ref sa :: .ref T.heap.size :: .ref T.heap.size :: rest, locked := none }) rfl hsize rfl rfl (rest := rest) rfl
    (by rw [hb]; exact d7) (by rw [hb]; exact d10) hout hRframes (by simp only [List.map_cons, List.sum_cons, hcat]; omega) hlocks
  obtain ⟨f1, f2⟩ := vx_frame hsame
  rw [hhp] at f1 f2
  have hWs : s.WarmedH U.vm := State.WarmedH.trans hW0 hW
  have hcl : s.vm.findClass cls = some ce.cls := by
    have h9 := hO.cls
    rw [hvm] at h9
    exact h9
  have hall : s.sameButNew ({ U with vm := s.vm } : State) locs mc ms := by
    subst hA
    obtain ⟨e1, e2⟩ := hsame
    rw [State.setFrames_setFrames] at e1
    have h2 : (T.setVm s.vm).sameButNew ({ U with vm := s.vm } : State) [] (0 + 1) (0 + 6) := ⟨e1, e2⟩
    have h3 := X.same.trans h2
    rw [List.append_nil] at h3
    exact h3.mono hc hs
  refine ⟨U, ?_, .threw T.heap.size, hrun, hend, Or.inr ⟨T.heap.size, rfl, cls, ce, locs, hx U hWs.alike f1 (fun q hq => f2 q hq (fun z hz => nomatch hz)), hce, hO.vm, hcl, hWs, hall, hf⟩⟩
  refine st1 _ ?_
  show Steps p.tables e below (T1.setTop { method := m, pc := pc + 3, locals := ls, stack := .ref T.heap.size :: rest, locked := none }) _
  jvm_step X₁.here [X₁.here.top, hexec, d3', Value.category]
  exact X₁.ldcStringW hexec (own := own) (text := text) (index := is) (a := sa) hown' hstr'.1 hstr'.2
    (g := { method := m, pc := pc + 4, locals := ls, stack := .ref T.heap.size :: .ref T.heap.size :: rest, locked := none }) rfl d4' _ hsteps
end Ends
section Bodies
variable {l : Launch}
theorem vx_ofW {y : MethodName} {ws ws' : List Cond} {rm : Room} {Pc : Array Value → State → Prop} {Qc : Array Value → State → Outcome → State → Prop} {XC : String → State → State → Prop} {mc ms : Nat} {free : Addr → Prop} {cc : ByteArray} {maxL : Nat} {ret : Option FieldType}
    (hy : plainName y.cls = true) (hw : ws = Cond.code y cc maxL ret :: ws')
    (body : ∀ p e s m args below meth c s₁, BodyLoose p l y (headSpec ws rm) cc maxL ret e s m args below meth c s₁ → c.maxLocals = maxL → (∀ x ∈ c.exceptionTable.toList, False) → Pc args s →
      W p l e (headSpec ws rm).room s m args below meth c s.heap [] 0 0 (vx_MQ below Qc XC args s mc ms free) (entryFrame m args maxL)) : vx_Met l y ws rm Pc Qc XC mc ms free := by
  refine MetFree.of_bodyS (code := cc) (maxLocals := maxL) (ret := ret) hy ?_ ?_
  · intro args s m h hn
    obtain ⟨meth, c, h1, h2, h3, h4, h5, h6, -, -⟩ := Cond.code_spec hn (atoms_spec (ws := ws) h _ (by rw [hw]; exact List.mem_cons_self))
    exact ⟨meth, c, h1, h2, h3, h4, h5, h6⟩
  · intro p e s m args below meth c s₁ B hml hP _
    have hh0 : s₁.heap = s.heap := by rw [B.state]; rfl
    have ht : ∀ x ∈ c.exceptionTable.toList, False := by
      obtain ⟨meth9, c9, h1, h2, -, -, -, -, h7, -⟩ := Cond.code_spec B.named (atoms_spec (ws := ws) B.pre _ (by rw [hw]; exact List.mem_cons_self))
      cases Option.some.inj (h1.symm.trans B.method)
      cases Option.some.inj (h2.symm.trans (Stand.of_body B).code)
      intro x hx
      rw [Array.isEmpty_iff.mp h7] at hx
      cases hx
    obtain ⟨t, a1, o, b1, b2, b3⟩ := body p e s m args below meth c s₁ B hml ht hP s₁ hh0 (Stand.of_body B)
    exact ⟨t, o, a1, b1, b2, b3⟩
/-- the table of a body with handlers -/
theorem vx_table {p : Program} {x y : MethodName} {S : Spec} {cc bytes : ByteArray} {maxL maxL' : Nat} {ret ret' : Option FieldType} {e : Env} {s s₁ : State} {m : MethodId} {args : Array Value} {below : List Frame} {meth : Method} {c : Code} {hh : List (Nat × Nat × Nat × Nat)}
    (B : BodyLoose p l y S cc maxL ret e s m args below meth c s₁) (h : (Cond.codeWith y bytes maxL' ret' hh).before args s = true) : c.exceptionTable.toList = tableOf hh := by
  obtain ⟨m9, meth9, c9, hn9, h1, h2, -, -, h6, -⟩ := Cond.codeWith_spec h
  cases Option.some.inj (hn9.symm.trans B.named)
  cases Option.some.inj (h1.symm.trans B.method)
  cases Option.some.inj (h2.symm.trans (Stand.of_body B).code)
  rw [← h6, table_eq]
end Bodies
end VXA
/-! ===== END ===== -/
/-! ===== BEGIN a static call of a method with an exception table ===== -/
section VXS
variable {p : Program} {l : Launch} {e : Env} {R : Room} {s : State} {m : MethodId} {args : Array Value} {below : List Frame} {meth : Method} {c : Code} {T : State} {H : Heap} {locs : List Loc} {cells slots : Nat}
abbrev vx_CSW (R : Room) (s : State) (args : Array Value) (own : String) (index : Nat) (y : MethodName) (bytes : ByteArray) (maxL : Nat) (ret : Option FieldType) (hh : List (Nat × Nat × Nat × Nat)) (ws : List Cond) (rm : Room) (mc ms n : Nat) : Prop :=
  (rm.cells = mc ∧ rm.slots = ms ∧ rm.frames + 1 ≤ R.frames ∧ 8 + (maxL + 11) + rm.locals ≤ R.locals ∧ (∀ w ∈ ws, ∀ (a' : Array Value) (U : State), s.WarmedH U.vm → w.before a' U = true) ∧ Cond.codeWith y bytes maxL ret hh ∈ ws) ∧
  (Cond.codeWith y bytes maxL ret hh).before args s = true ∧ (Cond.initialized y.cls).before args s = true ∧ (y.cls ≠ "java/lang/invoke/MethodHandle" ∧ y.cls ≠ "java/lang/invoke/VarHandle") ∧
  (∀ sig, parseMethodDescriptor y.desc = some sig → n = sig.parameters.length) ∧ (Cond.methodLink own index y).before args s = true ∧ (Cond.static y).before args s = true
theorem vx_cwSW {own : String} {index maxL mc ms : Nat} {y : MethodName} {bytes : ByteArray} {ret : Option FieldType} {hh : List (Nat × Nat × Nat × Nat)} {Ts ws ws' : List Cond} {rm : Room} (n : Nat) (ht : ∀ w ∈ Ts, w.before args s = true) (hT : GoodIn Ts (va_wsS own index y ws)) (hw : ws = Cond.codeWith y bytes maxL ret hh :: ws') (hrc : rm.cells = mc) (hrs : rm.slots = ms)
    (hd : y.cls ≠ "java/lang/invoke/MethodHandle" ∧ y.cls ≠ "java/lang/invoke/VarHandle" ∧ (parseMethodDescriptor y.desc).map (fun d => d.parameters.length) = some n) (hR : rm.frames + 1 ≤ R.frames ∧ 8 + (maxL + 11) + rm.locals ≤ R.locals) :
    vx_CSW R s args own index y bytes maxL ret hh ws rm mc ms n := by
  have ok : ∀ w ∈ va_wsS own index y ws, w.before args s = true := fun w h => ht w (hT w h).1
  have hG : GoodIn Ts ws := fun w h => hT w (by unfold va_wsS; exact List.mem_append_right _ h)
  have hc : Cond.codeWith y bytes maxL ret hh ∈ ws := by rw [hw]; exact List.mem_cons_self
  refine ⟨⟨hrc, hrs, hR.1, hR.2, pay_in ht hG, hc⟩, ht _ (hG _ hc).1, ok _ (by simp [va_wsS]), ⟨hd.1, hd.2.1⟩, fun sig h => ?_, ok _ (by simp [va_wsS]), ok _ (by simp [va_wsS])⟩
  have h2 := hd.2.2
  rw [h] at h2
  exact (Option.some.inj h2).symm
theorem vx_callSW (X : Stand p l e R s m args below meth c T locs cells slots) (hexec : p.tables.exec = Jvm.exec) {own : String} {index : Nat} {y : MethodName} {bytes : ByteArray} {maxL : Nat} {ret : Option FieldType} {hh : List (Nat × Nat × Nat × Nat)}
    (hown : s.vm.findClass own = some m.cls) (hlink : (Cond.methodLink own index y).before args s = true) (hstat : (Cond.static y).before args s = true) (hinit : (Cond.initialized y.cls).before args s = true)
    (hcode : (Cond.codeWith y bytes maxL ret hh).before args s = true) (hy : y.cls ≠ "java/lang/invoke/MethodHandle" ∧ y.cls ≠ "java/lang/invoke/VarHandle")
    {W9 : Nat} {Pre : Pt → Array Value → Prop} {Post : Pt → Array Value → Option Value → Pt → Prop} (hK : Back l R p e below s args y 3 W9 Pre Post)
    {g : JFrame} (hg : g.method = m) (hsize : g.locals.size = c.maxLocals) {argsL rest : List Value} (hlen : ∀ sig, parseMethodDescriptor y.desc = some sig → argsL.length = sig.parameters.length)
    (hstack : g.stack = argsL.reverse ++ rest) (hW : 2 * g.monitorRoom + (rest.map fun v => v.category).sum ≤ W9) (hdg : decode c.code g.pc = .ok (.invokestatic index, 3))
    (hpre : ∀ vm₁, s.WarmedH vm₁ → Pre ⟨T.setVm vm₁, locs, cells, slots⟩ argsL.toArray) :
    ∃ (v : Option Value) (vm₁ : Vm) (B : Pt), s.WarmedH vm₁ ∧ Stand p l e R s m args below meth c B.U B.locs B.cells B.slots ∧ Post ⟨T.setVm vm₁, locs, cells, slots⟩ argsL.toArray v B ∧
      ∀ target, Steps p.tables e below (B.U.setTop { g with pc := g.pc + 3, stack := v.toList ++ rest }) target → Steps p.tables e below (T.setTop g) target := by
  obtain ⟨mk, methM, cM, hnamed, hmethM, -, -, -, -, -, -, hsigM⟩ := Cond.codeWith_spec hcode
  have hstatic : methM.isStatic = true := Cond.static_spec hnamed hmethM hstat
  obtain ⟨kP, hkP, -⟩ := className_of_methodNamed hnamed
  have hinitP : kP.init = .initialized := Cond.initialized_spec (findClass_of_methodNamed hnamed) hkP hinit
  obtain ⟨vm₁, X₁, hstep₁⟩ := X.invokestatic hexec hown hlink hnamed hmethM hstatic hkP hinitP hy (g := g) hg (argsL := argsL) (rest := rest) (hlen _ hsigM) hstack hdg
  obtain ⟨v, B, X', hpost, hsteps⟩ := hK m meth c ⟨T.setVm vm₁, locs, cells, slots⟩ { g with stack := rest } (.invokestatic index) mk argsL.toArray X₁ hg hsize hdg hW (X₁.named hnamed) (hpre vm₁ X₁.warmed)
  exact ⟨v, vm₁, B, X₁.warmed, X', hpost, fun target h => hstep₁ _ fun acts => by rw [doInvoke_state]; exact hsteps.trans h⟩
theorem vx_runSW {y : MethodName} {bytes cc : ByteArray} {maxL nL mc ms n index : Nat} {ret : Option FieldType} {hh : List (Nat × Nat × Nat × Nat)} {ws : List Cond} {rm : Room} {Pc : Array Value → State → Prop} {Qc : Array Value → State → Outcome → State → Prop} {free : Addr → Prop} {Ts : List Cond} {own : String} {As rest : List Value} {g : JFrame}
    (S : CallFix p m c cc nL s args Ts own) (hM : Met l y ws rm Pc Qc mc ms free) (cw : vx_CSW R s args own index y bytes maxL ret hh ws rm mc ms n) (hp : PreS s H Pc As)
    (hg : g.method = m) (hn : As.length = n) (hsize : g.locals.size = nL) (hstack : g.stack = As.reverse ++ rest) (hW : 2 * g.monitorRoom + (rest.map fun v => v.category).sum ≤ 8) (hdg : decode cc g.pc = .ok (.invokestatic index, 3)) (hf : cells + mc ≤ R.cells ∧ slots + ms ≤ R.slots) :
    va_Run p l e R s m args below meth c H locs cells slots mc ms g rest (Qc As.toArray) (free) := by
  obtain ⟨⟨hrc, hrs, hfr, hlo, hws, hcw⟩, hcode, hini, hy, hlen, hl, hstt⟩ := cw
  have hK : Back l R p e below s args y 3 8 (PreOf R mc ms Pc) (PostOf Qc mc ms free) := va_backW (hh := hh) (bytes := bytes) (maxL := maxL) (ret := ret) hM hp.1 hrc hrs hfr hlo hws hcw (fun a' U hW => word_at hW (Or.inl (by first | rfl | simp [Cond.onTables, Cond.keeps, Cond.steady])) hini)
  obtain ⟨hx, hb, hml, ho, -⟩ := S
  intro T hT X
  obtain ⟨v, vm₁, ⟨U', l2, c2, s2⟩, hW₁, X', ⟨g', mk, t, L, e1, e2, hq, h1, hL, h2, h3⟩, st⟩ := vx_callSW X hx (hh := hh) (bytes := bytes) (maxL := maxL) (ret := ret) ho hl hstt hini hcode hy hK hg (hsize.trans hml.symm) (argsL := As) (rest := rest) (fun sig h => hn.trans (hlen sig h)) hstack hW (by rw [hb]; exact hdg)
    (fun vm₁ hW₁ => ⟨hf.1, hf.2, hp.2 (T.setVm vm₁) hT hW₁⟩)
  dsimp only [Pt.U, Pt.locs, Pt.cells, Pt.slots] at X' e1 e2 h1 h2 h3 st
  subst h1; subst h2; subst h3
  exact ⟨v, (T.setVm vm₁).calling g' mk As.toArray, t, U', L, hT, X', hL, e1, e2, hq, st⟩
/-- not caught here, past rows that name other classes: it goes on to the caller -/
theorem vx_outP {p : Program} {l : Launch} {e : Env} {R : Room} {s : State} {m : MethodId} {args : Array Value} {below : List Frame} {meth : Method} {c : Code} {H : Heap} {locs : List Loc} {cells slots : Nat} {free : Addr → Prop} {ls : Array Slot} {rest : List Value} {Qc : Array Value → State → Outcome → State → Prop} {XC : String → State → State → Prop}
    {pc : Nat} {own E : String} {ce : Cell} {q : Addr} {mc ms : Nat} (hown : s.vm.findClass own = some m.cls) (hlocks : meth.locks = false)
    (hpass : ∀ z ∈ c.exceptionTable.toList, covers z pc = false ∨ (z.catchType ≠ 0 ∧ ∃ nm : String, (Cond.classLink own z.catchType nm).before args s = true ∧ va_Nc E nm s)) (hcell : H[q]? = some ce) (hv : ce.vm = .none) (hcl : s.vm.findClass E = some ce.cls)
    (hx : ∀ t : State, t.heap = H → s.vm.Alike t.vm → XC E s t) (hf : ∀ z ∈ locs, free z.base) (hc : cells ≤ mc) (hs : slots ≤ ms) :
    vx_W p l e R s m args below meth c H locs cells slots (vx_MQ below Qc XC args s mc ms free) (F0 m pc ls rest) q := by
  intro T hT X
  have hpl : e.platform.magicAccessors = ({} : Platform).magicAccessors := by rw [X.admits.platform]
  obtain ⟨vm', hW', X', st⟩ := X.outThrough hlocks q (g := F0 m pc ls rest) rfl rfl rfl (cell := ce) (by rw [hT]; exact hcell) (by rw [hv]; rfl)
    (by obtain ⟨k9, h9, -⟩ := Vm.findClass_spec hcl; exact ⟨k9, h9⟩) (fun z hz => by
      rcases hpass z hz with h | ⟨hz0, nm, hl1, hn1⟩
      · exact Or.inl h
      · obtain ⟨c6, hc6, hcl6⟩ := Cond.classLink_spec hown hl1 e.platform hpl
        obtain ⟨a8, b8, h1, h2, h3⟩ := hn1
        cases Option.some.inj (h1.symm.trans hcl)
        cases Option.some.inj (h2.symm.trans hc6)
        exact Or.inr ⟨hz0, _, hcl6, h3⟩)
  obtain ⟨g₀, hfr⟩ := X'.frames_eq
  have hcell9 : ((T.setVm vm').setFrames (.throwing q :: below)).heap[q]? = some ce := by
    show T.heap[q]? = some ce
    rw [hT]; exact hcell
  have hend : Ended ((T.setVm vm').setFrames (.throwing q :: below)) below (.threw q) := State.frames_setFrames _ (State.cur_lt_of_frames hfr)
  refine ⟨(T.setVm vm').setFrames (.throwing q :: below), ?_, .threw q, X'.here.running, hend, Or.inr ⟨q, rfl, E, ce, locs, hx _ hT (X'.ends _).1.alike, hcell9, hv, hcl, (X'.ends _).1, (X'.ends _).2.mono hc hs, hf⟩⟩
  rw [X.pushThrowing_eq]
  exact st
/-- a thing of a world lies in the heap -/
theorem vx_lt {D : va_G} {cl : List vw_C} {ws : va_W} {H1 : Heap} (h : va_P D cl ws H1) {k : Nat} {q : Nat × va_E} (hk : ws[k]? = some q) : q.1 < H1.size := (h k q hk).lt
end VXS
/-! ===== END ===== -/
/-! ===== BEGIN methods with a table of their own: called by a name, returning or throwing ===== -/
section VXH
/-! vx_backW, vx_callVX, vx_callSX, vx_callVW, vx_runVW, vx_runVX, vx_runSX, vx_ofWH follow the same proofs as their sisters above (Free/Laws.lean, Shelf42/LK1.lean); vx_outP calls Shelf42/NT130.lean (outThrough). -/
section
variable {l : Launch} {R : Room} {p : Program} {e : Env} {below : List Frame} {s : State} {sargs : Array Value} {y : MethodName} {len W9 : Nat}
theorem vx_backW {ws : List Cond} {rm : Room} {Pc : Array Value → State → Prop} {Qc : Array Value → State → Outcome → State → Prop} {XC : String → State → State → Prop} {mc ms : Nat} {free : Addr → Prop} {bytes : ByteArray} {maxL : Nat} {ret : Option FieldType} {hh : List (Nat × Nat × Nat × Nat)}
    (hM : vx_Met l y ws rm Pc Qc XC mc ms free) (hblind : FrameBlind Pc) (hrc : rm.cells = mc) (hrs : rm.slots = ms)
    (hframes : rm.frames + 1 ≤ R.frames) (hlocals : W9 + (maxL + 11) + rm.locals ≤ R.locals)
    (hws : ∀ w ∈ ws, ∀ a' U, s.WarmedH U.vm → w.before a' U = true) (hcode : Cond.codeWith y bytes maxL ret hh ∈ ws) (hinit : ∀ a' U, s.WarmedH U.vm → (Cond.initialized y.cls).before a' U = true) :
    vx_Back l R p e below s sargs y len W9 (PreOf R mc ms Pc) (PostOf Qc mc ms free) (vx_Post XC mc ms free) := by
  intro m meth c A g ig mk a X hg hsize hdg hW hn hp
  have h1 : (headSpec ws rm).pre.before a A.U = true := atoms_intro fun w hw => hws w hw _ _ X.warmed
  have h2 : (Cond.codeWith y bytes maxL ret hh).before a A.U = true := hws _ hcode _ _ X.warmed
  have h3 : (Cond.initialized y.cls).before a A.U = true := hinit _ _ X.warmed
  have h4 : A.cells + (headSpec ws rm).room.cells ≤ R.cells := by rw [show (headSpec ws rm).room.cells = mc from hrc]; exact hp.1
  have h5 : A.slots + (headSpec ws rm).room.slots ≤ R.slots := by rw [show (headSpec ws rm).room.slots = ms from hrs]; exact hp.2.1
  have hPc : Pc a (A.U.calling g mk a) := hblind _ _ _ _ hp.2.2
  obtain ⟨U, Ls, c0, s0⟩ := A
  dsimp only [Pt.U, Pt.locs, Pt.cells, Pt.slots] at h1 h2 h3 h4 h5 X hn hPc ⊢
  obtain ⟨m9, methY, cY, hn9, hmY, hcY, -, hlY, -⟩ := Cond.codeWith_spec h2
  cases Option.some.inj (hn9.symm.trans hn)
  obtain ⟨kY, hkY, -⟩ := className_of_methodNamed hn
  have hinitY : kY.init = .initialized := Cond.initialized_spec (findClass_of_methodNamed hn) hkY h3
  have h : At U g.method c below := by rw [hg]; exact X.here
  have hlocals9 : W9 + (maxL + 11) + (headSpec ws rm).room.locals ≤ R.locals := hlocals
  have happ : (headSpec ws rm).appliesLoose y e.platform (U.calling g mk a) = true :=
    Spec.appliesLoose_calling (g := g) h hdg hn hkY hinitY
      (X.room_calling (g := g) (R' := (headSpec ws rm).room) hsize hmY hcY hframes (by rw [hlY]; omega) h4 h5) h1
  obtain ⟨mid, hmid⟩ := h.above
  have hfr : (U.setTop g).frames = (.java g :: mid) ++ below := by rw [State.frames_setTop' g h.top, hmid]; rfl
  obtain ⟨o, s₂, hsteps, -, hend, hq⟩ := Steps.callFree hM p X.admits X.cas X.clock (acts := []) hfr happ hPc trivial
  have hq' : vx_Q Qc XC mc ms free a (U.calling g mk a) o s₂ := hq
  rw [State.frames_setTop' g h.top] at hend
  obtain ⟨g₀, hg0⟩ := Option.isSome_iff_exists.mp h.top
  obtain ⟨r, hr⟩ := State.topJava?_eq_some.mp hg0
  have hr' : (({ U with heap := s₂.heap, slotsUsed := s₂.slotsUsed } : State).setVm s₂.vm).frames = .java g₀ :: r := hr
  rcases hq' with ⟨hqc, L, hfe, hL⟩ | ⟨q, rfl, E, ce, L, hx, hce, hcv, hcl, hW₂, hsm, hL⟩
  · obtain ⟨⟨v, rfl⟩, hW₂, e2, q2, q3, q4, q5, q6⟩ := id hfe
    have e3 : s₂ = ({ (U.calling g mk a).setFrames s₂.frames with heap := s₂.heap, slotsUsed := s₂.slotsUsed } : State).setVm s₂.vm := by
      have : s₂ = ({ s₂ with vm := (U.calling g mk a).vm } : State).setVm s₂.vm := rfl
      rw [e2] at this
      exact this
    obtain ⟨c₂, i₂, len₂, hc₂, hd₂, hf₂⟩ := hend
    have hW' : U.WarmedH s₂.vm := hW₂
    have hcc : c₂ = c := by
      have h1 : s₂.code? g.method = U.code? g.method := by
        rw [State.code?_eq, State.code?_eq, hW'.alike.method?]
      exact Option.some.inj (hc₂.symm.trans (h1.trans h.code))
    subst hcc
    have hlen : len₂ = len := by rw [hdg] at hd₂; cases hd₂; rfl
    subst hlen
    have hs₂ : s₂ = (({ U with heap := s₂.heap, slotsUsed := s₂.slotsUsed } : State).setVm s₂.vm).setTop { g with pc := g.pc + len₂, stack := v.toList ++ g.stack } := by
      refine e3.trans ?_
      rw [hf₂, State.calling_eq h.top, State.setFrames_setFrames, State.setTop_of_frames _ hr', hr]
      rfl
    have hsame : U.sameButNew ({ U with heap := s₂.heap, slotsUsed := s₂.slotsUsed } : State) L mc ms := by
      refine ⟨?_, q2, q3, q4, q5, q6⟩
      obtain ⟨t, ht, -⟩ := State.frames_cons hr
      show ({ U with heap := s₂.heap, slotsUsed := s₂.slotsUsed } : State) = { U.setFrames U.frames with heap := s₂.heap, slotsUsed := s₂.slotsUsed }
      rw [State.setFrames_self ht]
    subst hg
    refine Or.inl ⟨v, ⟨(({ U with heap := s₂.heap, slotsUsed := s₂.slotsUsed } : State).setVm s₂.vm), Ls ++ L, c0 + mc, s0 + ms⟩,
      ⟨X.admits, X.cas, X.clock, X.frames, X.room, X.hears, X.method, X.code, (X.here.setHeapUsed s₂.heap s₂.slotsUsed).setVm hW'.alike, X.tail, State.WarmedH.trans X.warmed hW', X.limits, X.bytes, X.same.trans (hsame.setVm s.vm)⟩,
      ⟨g, mk, s₂, L, rfl, rfl, hqc, rfl, hL, rfl, rfl⟩, ?_⟩
    show Steps p.tables e below _ ((({ U with heap := s₂.heap, slotsUsed := s₂.slotsUsed } : State).setVm s₂.vm).setTop { g with pc := g.pc + len₂, stack := v.toList ++ g.stack })
    rw [← hs₂]
    exact hsteps
  · obtain ⟨e2, q2, q3, q4, q5, q6⟩ := id hsm
    have e3 : s₂ = ({ (U.calling g mk a).setFrames s₂.frames with heap := s₂.heap, slotsUsed := s₂.slotsUsed } : State).setVm s₂.vm := by
      have : s₂ = ({ s₂ with vm := (U.calling g mk a).vm } : State).setVm s₂.vm := rfl
      rw [e2] at this
      exact this
    have hf₂ : s₂.frames = .throwing q :: .java g :: U.frames.tail := hend
    have hW' : U.WarmedH s₂.vm := hW₂
    have hs₂ : s₂ = ((({ U with heap := s₂.heap, slotsUsed := s₂.slotsUsed } : State).setVm s₂.vm).setTop g).pushFrame (.throwing q) := by
      refine e3.trans ?_
      rw [hf₂, State.calling_eq h.top, State.setFrames_setFrames, State.pushFrame, State.frames_setTop _ hr', State.setTop_of_frames _ hr', State.setFrames_setFrames, hr]
      rfl
    have hsame : U.sameButNew ({ U with heap := s₂.heap, slotsUsed := s₂.slotsUsed } : State) L mc ms := by
      refine ⟨?_, q2, q3, q4, q5, q6⟩
      obtain ⟨t, ht, -⟩ := State.frames_cons hr
      show ({ U with heap := s₂.heap, slotsUsed := s₂.slotsUsed } : State) = { U.setFrames U.frames with heap := s₂.heap, slotsUsed := s₂.slotsUsed }
      rw [State.setFrames_self ht]
    subst hg
    refine Or.inr ⟨q, ⟨(({ U with heap := s₂.heap, slotsUsed := s₂.slotsUsed } : State).setVm s₂.vm), Ls ++ L, c0 + mc, s0 + ms⟩,
      ⟨X.admits, X.cas, X.clock, X.frames, X.room, X.hears, X.method, X.code, (X.here.setHeapUsed s₂.heap s₂.slotsUsed).setVm hW'.alike, X.tail, State.WarmedH.trans X.warmed hW', X.limits, X.bytes, X.same.trans (hsame.setVm s.vm)⟩,
      ⟨g, mk, s₂, L, E, ce, rfl, rfl, hx, hce, hcv, hcl, rfl, hL, rfl, rfl⟩, ?_⟩
    show Steps p.tables e below _ (((({ U with heap := s₂.heap, slotsUsed := s₂.slotsUsed } : State).setVm s₂.vm).setTop g).pushFrame (.throwing q))
    rw [← hs₂]
    exact hsteps
end
variable {p : Program} {l : Launch} {e : Env} {R : Room} {s : State} {m : MethodId} {args : Array Value} {below : List Frame} {meth : Method} {c : Code} {T : State} {H : Heap} {locs : List Loc} {cells slots : Nat}
theorem vx_callVX (X : Stand p l e R s m args below meth c T locs cells slots) (hexec : p.tables.exec = Jvm.exec) {own C : String} {index : Nat} {y : MethodName} {bytes : ByteArray} {maxL : Nat} {ret : Option FieldType} {hh : List (Nat × Nat × Nat × Nat)}
    (hown : s.vm.findClass own = some m.cls) (hlink : (Cond.methodLink own index y).before args s = true) (hinst : (Cond.instanceMethod y).before args s = true) (hsel : (Cond.selects C y y).before args s = true)
    (hcode : (Cond.codeWith y bytes maxL ret hh).before args s = true) (hy : y.cls ≠ "java/lang/invoke/MethodHandle" ∧ y.cls ≠ "java/lang/invoke/VarHandle")
    {W9 : Nat} {Pre : Pt → Array Value → Prop} {Post : Pt → Array Value → Option Value → Pt → Prop} {PostX : Pt → Array Value → Addr → Pt → Prop} (hK : vx_Back l R p e below s args y 3 W9 Pre Post PostX)
    {b : Addr} {cellB : Cell} (hcell : T.heap[b]? = some cellB) (hobj : cellB.vm.isStatics = false) (hcls : s.vm.findClass C = some cellB.cls)
    {g : JFrame} (hg : g.method = m) (hsize : g.locals.size = c.maxLocals) {argsL rest : List Value} (hlen : ∀ sig, parseMethodDescriptor y.desc = some sig → argsL.length = sig.parameters.length)
    (hstack : g.stack = argsL.reverse ++ .ref b :: rest) (hW : 2 * g.monitorRoom + (rest.map fun v => v.category).sum ≤ W9) (hdg : decode c.code g.pc = .ok (.invokevirtual index, 3))
    (hpre : ∀ vm₁, s.WarmedH vm₁ → Pre ⟨T.setVm vm₁, locs, cells, slots⟩ (Value.ref b :: argsL).toArray) :
    (∃ (v : Option Value) (vm₁ : Vm) (B : Pt), s.WarmedH vm₁ ∧ Stand p l e R s m args below meth c B.U B.locs B.cells B.slots ∧ Post ⟨T.setVm vm₁, locs, cells, slots⟩ (Value.ref b :: argsL).toArray v B ∧
      ∀ target, Steps p.tables e below (B.U.setTop { g with pc := g.pc + 3, stack := v.toList ++ rest }) target → Steps p.tables e below (T.setTop g) target) ∨
    (∃ (q : Addr) (vm₁ : Vm) (B : Pt), s.WarmedH vm₁ ∧ Stand p l e R s m args below meth c B.U B.locs B.cells B.slots ∧ PostX ⟨T.setVm vm₁, locs, cells, slots⟩ (Value.ref b :: argsL).toArray q B ∧
      Steps p.tables e below (T.setTop g) ((B.U.setTop { g with stack := rest }).pushFrame (.throwing q))) := by
  obtain ⟨mk, methM, hnamed, hmethM, hstM, habM⟩ := Cond.instanceMethod_spec hinst
  obtain ⟨m8, methM', cM, hn8, hmethM', -, -, -, -, -, -, hsigM⟩ := Cond.codeWith_spec hcode
  cases Option.some.inj (hn8.symm.trans hnamed)
  cases hmethM.symm.trans hmethM'
  obtain ⟨c2, r2, m2, q1, q2, q3, q4, kP, hkP, hkPi⟩ := Cond.selects_spec hsel
  cases hcls.symm.trans q1
  cases (State.methodFound?_of_named hnamed hy).symm.trans q2
  cases hnamed.symm.trans q3
  have hselP : selectMethod e.platform s.vm cellB.cls mk = .method mk := by rw [Launch.admits_selectMethod X.admits]; exact q4
  obtain ⟨vm₁, X₁, hstep₁⟩ := X.invokevirtual hexec hown hlink hnamed hmethM hstM hkP hkPi hy (a := b) (cell := cellB) hcell
    (fun z h => by rw [h] at hobj; cases hobj) hselP hmethM habM hkP hkPi (g := g) hg (argsL := argsL) (rest := rest) (hlen _ hsigM) hstack hdg
  rcases hK m meth c ⟨T.setVm vm₁, locs, cells, slots⟩ { g with stack := rest } (.invokevirtual index) mk (Value.ref b :: argsL).toArray X₁ hg hsize hdg hW (X₁.named hnamed) (hpre vm₁ X₁.warmed) with ⟨v, B, X', hpost, hsteps⟩ | ⟨q, B, X', hpost, hsteps⟩
  · exact Or.inl ⟨v, vm₁, B, X₁.warmed, X', hpost, fun target h => hstep₁ _ fun acts => by rw [doInvoke_state]; exact hsteps.trans h⟩
  · exact Or.inr ⟨q, vm₁, B, X₁.warmed, X', hpost, hstep₁ _ fun acts => by rw [doInvoke_state]; exact hsteps⟩
theorem vx_callSX (X : Stand p l e R s m args below meth c T locs cells slots) (hexec : p.tables.exec = Jvm.exec) {own : String} {index : Nat} {y : MethodName} {bytes : ByteArray} {maxL : Nat} {ret : Option FieldType} {hh : List (Nat × Nat × Nat × Nat)}
    (hown : s.vm.findClass own = some m.cls) (hlink : (Cond.methodLink own index y).before args s = true) (hstat : (Cond.static y).before args s = true) (hinit : (Cond.initialized y.cls).before args s = true)
    (hcode : (Cond.codeWith y bytes maxL ret hh).before args s = true) (hy : y.cls ≠ "java/lang/invoke/MethodHandle" ∧ y.cls ≠ "java/lang/invoke/VarHandle")
    {W9 : Nat} {Pre : Pt → Array Value → Prop} {Post : Pt → Array Value → Option Value → Pt → Prop} {PostX : Pt → Array Value → Addr → Pt → Prop} (hK : vx_Back l R p e below s args y 3 W9 Pre Post PostX)
    {g : JFrame} (hg : g.method = m) (hsize : g.locals.size = c.maxLocals) {argsL rest : List Value} (hlen : ∀ sig, parseMethodDescriptor y.desc = some sig → argsL.length = sig.parameters.length)
    (hstack : g.stack = argsL.reverse ++ rest) (hW : 2 * g.monitorRoom + (rest.map fun v => v.category).sum ≤ W9) (hdg : decode c.code g.pc = .ok (.invokestatic index, 3))
    (hpre : ∀ vm₁, s.WarmedH vm₁ → Pre ⟨T.setVm vm₁, locs, cells, slots⟩ argsL.toArray) :
    (∃ (v : Option Value) (vm₁ : Vm) (B : Pt), s.WarmedH vm₁ ∧ Stand p l e R s m args below meth c B.U B.locs B.cells B.slots ∧ Post ⟨T.setVm vm₁, locs, cells, slots⟩ argsL.toArray v B ∧
      ∀ target, Steps p.tables e below (B.U.setTop { g with pc := g.pc + 3, stack := v.toList ++ rest }) target → Steps p.tables e below (T.setTop g) target) ∨
    (∃ (q : Addr) (vm₁ : Vm) (B : Pt), s.WarmedH vm₁ ∧ Stand p l e R s m args below meth c B.U B.locs B.cells B.slots ∧ PostX ⟨T.setVm vm₁, locs, cells, slots⟩ argsL.toArray q B ∧
      Steps p.tables e below (T.setTop g) ((B.U.setTop { g with stack := rest }).pushFrame (.throwing q))) := by
  obtain ⟨mk, methM, cM, hnamed, hmethM, -, -, -, -, -, -, hsigM⟩ := Cond.codeWith_spec hcode
  have hstatic : methM.isStatic = true := Cond.static_spec hnamed hmethM hstat
  obtain ⟨kP, hkP, -⟩ := className_of_methodNamed hnamed
  have hinitP : kP.init = .initialized := Cond.initialized_spec (findClass_of_methodNamed hnamed) hkP hinit
  obtain ⟨vm₁, X₁, hstep₁⟩ := X.invokestatic hexec hown hlink hnamed hmethM hstatic hkP hinitP hy (g := g) hg (argsL := argsL) (rest := rest) (hlen _ hsigM) hstack hdg
  rcases hK m meth c ⟨T.setVm vm₁, locs, cells, slots⟩ { g with stack := rest } (.invokestatic index) mk argsL.toArray X₁ hg hsize hdg hW (X₁.named hnamed) (hpre vm₁ X₁.warmed) with ⟨v, B, X', hpost, hsteps⟩ | ⟨q, B, X', hpost, hsteps⟩
  · exact Or.inl ⟨v, vm₁, B, X₁.warmed, X', hpost, fun target h => hstep₁ _ fun acts => by rw [doInvoke_state]; exact hsteps.trans h⟩
  · exact Or.inr ⟨q, vm₁, B, X₁.warmed, X', hpost, hstep₁ _ fun acts => by rw [doInvoke_state]; exact hsteps⟩
theorem vx_callVW (X : Stand p l e R s m args below meth c T locs cells slots) (hexec : p.tables.exec = Jvm.exec) {own C : String} {index : Nat} {y : MethodName} {bytes : ByteArray} {maxL : Nat} {ret : Option FieldType} {hh : List (Nat × Nat × Nat × Nat)}
    (hown : s.vm.findClass own = some m.cls) (hlink : (Cond.methodLink own index y).before args s = true) (hinst : (Cond.instanceMethod y).before args s = true) (hsel : (Cond.selects C y y).before args s = true)
    (hcode : (Cond.codeWith y bytes maxL ret hh).before args s = true) (hy : y.cls ≠ "java/lang/invoke/MethodHandle" ∧ y.cls ≠ "java/lang/invoke/VarHandle")
    {W9 : Nat} {Pre : Pt → Array Value → Prop} {Post : Pt → Array Value → Option Value → Pt → Prop} (hK : Back l R p e below s args y 3 W9 Pre Post)
    {b : Addr} {cellB : Cell} (hcell : T.heap[b]? = some cellB) (hobj : cellB.vm.isStatics = false) (hcls : s.vm.findClass C = some cellB.cls)
    {g : JFrame} (hg : g.method = m) (hsize : g.locals.size = c.maxLocals) {argsL rest : List Value} (hlen : ∀ sig, parseMethodDescriptor y.desc = some sig → argsL.length = sig.parameters.length)
    (hstack : g.stack = argsL.reverse ++ .ref b :: rest) (hW : 2 * g.monitorRoom + (rest.map fun v => v.category).sum ≤ W9) (hdg : decode c.code g.pc = .ok (.invokevirtual index, 3))
    (hpre : ∀ vm₁, s.WarmedH vm₁ → Pre ⟨T.setVm vm₁, locs, cells, slots⟩ (Value.ref b :: argsL).toArray) :
    ∃ (v : Option Value) (vm₁ : Vm) (B : Pt), s.WarmedH vm₁ ∧ Stand p l e R s m args below meth c B.U B.locs B.cells B.slots ∧ Post ⟨T.setVm vm₁, locs, cells, slots⟩ (Value.ref b :: argsL).toArray v B ∧
      ∀ target, Steps p.tables e below (B.U.setTop { g with pc := g.pc + 3, stack := v.toList ++ rest }) target → Steps p.tables e below (T.setTop g) target := by
  obtain ⟨mk, methM, hnamed, hmethM, hstM, habM⟩ := Cond.instanceMethod_spec hinst
  obtain ⟨m8, methM', cM, hn8, hmethM', -, -, -, -, -, -, hsigM⟩ := Cond.codeWith_spec hcode
  cases Option.some.inj (hn8.symm.trans hnamed)
  cases hmethM.symm.trans hmethM'
  obtain ⟨c2, r2, m2, q1, q2, q3, q4, kP, hkP, hkPi⟩ := Cond.selects_spec hsel
  cases hcls.symm.trans q1
  cases (State.methodFound?_of_named hnamed hy).symm.trans q2
  cases hnamed.symm.trans q3
  have hselP : selectMethod e.platform s.vm cellB.cls mk = .method mk := by rw [Launch.admits_selectMethod X.admits]; exact q4
  obtain ⟨vm₁, X₁, hstep₁⟩ := X.invokevirtual hexec hown hlink hnamed hmethM hstM hkP hkPi hy (a := b) (cell := cellB) hcell
    (fun z h => by rw [h] at hobj; cases hobj) hselP hmethM habM hkP hkPi (g := g) hg (argsL := argsL) (rest := rest) (hlen _ hsigM) hstack hdg
  obtain ⟨v, B, X', hpost, hsteps⟩ := hK m meth c ⟨T.setVm vm₁, locs, cells, slots⟩ { g with stack := rest } (.invokevirtual index) mk (Value.ref b :: argsL).toArray X₁ hg hsize hdg hW (X₁.named hnamed) (hpre vm₁ X₁.warmed)
  exact ⟨v, vm₁, B, X₁.warmed, X', hpost, fun target h => hstep₁ _ fun acts => by rw [doInvoke_state]; exact hsteps.trans h⟩
abbrev vx_CVW (R : Room) (s : State) (args : Array Value) (own C : String) (index : Nat) (y : MethodName) (bytes : ByteArray) (maxL : Nat) (ret : Option FieldType) (hh : List (Nat × Nat × Nat × Nat)) (ws : List Cond) (rm : Room) (mc ms n : Nat) : Prop :=
  (rm.cells = mc ∧ rm.slots = ms ∧ rm.frames + 1 ≤ R.frames ∧ 8 + (maxL + 11) + rm.locals ≤ R.locals ∧ (∀ w ∈ ws, ∀ (a' : Array Value) (U : State), s.WarmedH U.vm → w.before a' U = true) ∧ Cond.codeWith y bytes maxL ret hh ∈ ws) ∧
  (Cond.codeWith y bytes maxL ret hh).before args s = true ∧ (Cond.initialized y.cls).before args s = true ∧ (y.cls ≠ "java/lang/invoke/MethodHandle" ∧ y.cls ≠ "java/lang/invoke/VarHandle") ∧
  (∀ sig, parseMethodDescriptor y.desc = some sig → n = sig.parameters.length) ∧ (Cond.methodLink own index y).before args s = true ∧ (Cond.instanceMethod y).before args s = true ∧ (Cond.selects C y y).before args s = true
theorem vx_cwVW {own C : String} {index maxL mc ms : Nat} {y : MethodName} {bytes : ByteArray} {ret : Option FieldType} {hh : List (Nat × Nat × Nat × Nat)} {Ts ws ws' : List Cond} {rm : Room} (n : Nat) (ht : ∀ w ∈ Ts, w.before args s = true) (hT : GoodIn Ts (wsV own index C y ws)) (hw : ws = Cond.codeWith y bytes maxL ret hh :: ws') (hrc : rm.cells = mc) (hrs : rm.slots = ms)
    (hd : y.cls = C ∧ y.cls ≠ "java/lang/invoke/MethodHandle" ∧ y.cls ≠ "java/lang/invoke/VarHandle" ∧ (parseMethodDescriptor y.desc).map (fun d => d.parameters.length) = some n) (hR : rm.frames + 1 ≤ R.frames ∧ 8 + (maxL + 11) + rm.locals ≤ R.locals) :
    vx_CVW R s args own C index y bytes maxL ret hh ws rm mc ms n := by
  obtain ⟨hC, hd⟩ := hd
  subst hC
  have ok : ∀ w ∈ wsV own index y.cls y ws, w.before args s = true := fun w h => ht w (hT w h).1
  have hG : GoodIn Ts ws := fun w h => hT w (by unfold wsV; exact List.mem_append_right _ h)
  have hc : Cond.codeWith y bytes maxL ret hh ∈ ws := by rw [hw]; exact List.mem_cons_self
  refine ⟨⟨hrc, hrs, hR.1, hR.2, pay_in ht hG, hc⟩, ht _ (hG _ hc).1, ok _ (by simp [wsV]), ⟨hd.1, hd.2.1⟩, fun sig h => ?_, ok _ (by simp [wsV]), ok _ (by simp [wsV]), ok _ (by simp [wsV])⟩
  have h2 := hd.2.2
  rw [h] at h2
  exact (Option.some.inj h2).symm
theorem vx_runVW {y : MethodName} {bytes cc : ByteArray} {maxL nL mc ms n index : Nat} {ret : Option FieldType} {hh : List (Nat × Nat × Nat × Nat)} {ws : List Cond} {rm : Room} {Pc : Array Value → State → Prop} {Qc : Array Value → State → Outcome → State → Prop} {free : Addr → Prop} {Ts : List Cond} {own C : String} {b : Addr} {As rest : List Value} {g : JFrame}
    (S : CallFix p m c cc nL s args Ts own) (hM : Met l y ws rm Pc Qc mc ms free) (cw : vx_CVW R s args own C index y bytes maxL ret hh ws rm mc ms n) (hp : PreV s H C b Pc As)
    (hg : g.method = m) (hn : As.length = n) (hsize : g.locals.size = nL) (hstack : g.stack = As.reverse ++ .ref b :: rest) (hW : 2 * g.monitorRoom + (rest.map fun v => v.category).sum ≤ 8) (hdg : decode cc g.pc = .ok (.invokevirtual index, 3)) (hf : cells + mc ≤ R.cells ∧ slots + ms ≤ R.slots) :
    va_Run p l e R s m args below meth c H locs cells slots mc ms g rest (Qc (Value.ref b :: As).toArray) free := by
  obtain ⟨⟨hrc, hrs, hfr, hlo, hws, hcw⟩, hcode, hini, hy, hlen, hl, hin, hse⟩ := cw
  have hK : Back l R p e below s args y 3 8 (PreOf R mc ms Pc) (PostOf Qc mc ms free) := va_backW (hh := hh) (bytes := bytes) (maxL := maxL) (ret := ret) hM hp.1 hrc hrs hfr hlo hws hcw (fun a' U hW => word_at hW (Or.inl (by first | rfl | simp [Cond.onTables, Cond.keeps, Cond.steady])) hini)
  obtain ⟨hx, hb, hml, ho, -⟩ := S
  obtain ⟨-, ⟨cellB, hcB, hoB, hclB⟩, hPc⟩ := hp
  intro T hT X
  obtain ⟨v, vm₁, ⟨U', l2, c2, s2⟩, hW₁, X', ⟨g', mk, t, L, e1, e2, hq, h1, hL, h2, h3⟩, st⟩ := vx_callVW X hx (C := C) (hh := hh) (bytes := bytes) (maxL := maxL) (ret := ret) ho hl hin hse hcode hy hK (by rw [hT]; exact hcB) hoB hclB hg (hsize.trans hml.symm) (argsL := As) (rest := rest) (fun sig h => hn.trans (hlen sig h)) hstack hW (by rw [hb]; exact hdg)
    (fun vm₁ hW₁ => ⟨hf.1, hf.2, hPc (T.setVm vm₁) hT hW₁⟩)
  dsimp only [Pt.U, Pt.locs, Pt.cells, Pt.slots] at X' e1 e2 h1 h2 h3 st
  subst h1; subst h2; subst h3
  exact ⟨v, (T.setVm vm₁).calling g' mk (Value.ref b :: As).toArray, t, U', L, hT, X', hL, e1, e2, hq, st⟩
section
variable {y : MethodName} {bytes cc : ByteArray} {maxL nL mc ms n index : Nat} {ret : Option FieldType} {ws : List Cond} {rm : Room} {Pc : Array Value → State → Prop} {Qc : Array Value → State → Outcome → State → Prop} {XC : String → State → State → Prop} {free : Addr → Prop} {Ts : List Cond} {own C : String} {b : Addr} {As rest : List Value} {g : JFrame}
theorem vx_runVX {hh : List (Nat × Nat × Nat × Nat)} (S : CallFix p m c cc nL s args Ts own) (hM : vx_Met l y ws rm Pc Qc XC mc ms free) (cw : vx_CVW R s args own C index y bytes maxL ret hh ws rm mc ms n) (hp : PreV s H C b Pc As)
    (hg : g.method = m) (hn : As.length = n) (hsize : g.locals.size = nL) (hstack : g.stack = As.reverse ++ .ref b :: rest) (hW : 2 * g.monitorRoom + (rest.map fun v => v.category).sum ≤ 8) (hdg : decode cc g.pc = .ok (.invokevirtual index, 3)) (hf : cells + mc ≤ R.cells ∧ slots + ms ≤ R.slots) :
    vx_Run p l e R s m args below meth c H locs cells slots mc ms g rest (Qc (Value.ref b :: As).toArray) XC free := by
  obtain ⟨⟨hrc, hrs, hfr, hlo, hws, hcw⟩, hcode, hini, hy, hlen, hl, hin, hse⟩ := cw
  have hK : vx_Back l R p e below s args y 3 8 (PreOf R mc ms Pc) (PostOf Qc mc ms free) (vx_Post XC mc ms free) := vx_backW (hh := hh) (bytes := bytes) (maxL := maxL) (ret := ret) hM hp.1 hrc hrs hfr hlo hws hcw (fun a' U hW => word_at hW (Or.inl (by first | rfl | simp [Cond.onTables, Cond.keeps, Cond.steady])) hini)
  obtain ⟨hx, hb, hml, ho, -⟩ := S
  obtain ⟨-, ⟨cellB, hcB, hoB, hclB⟩, hPc⟩ := hp
  intro T hT X
  rcases vx_callVX X hx (C := C) (hh := hh) (bytes := bytes) (maxL := maxL) (ret := ret) ho hl hin hse hcode hy hK (by rw [hT]; exact hcB) hoB hclB hg (hsize.trans hml.symm) (argsL := As) (rest := rest) (fun sig h => hn.trans (hlen sig h)) hstack hW (by rw [hb]; exact hdg)
    (fun vm₁ hW₁ => ⟨hf.1, hf.2, hPc (T.setVm vm₁) hT hW₁⟩) with ⟨v, vm₁, ⟨U', l2, c2, s2⟩, hW₁, X', ⟨g', mk, t, L, e1, e2, hq, h1, hL, h2, h3⟩, st⟩ | ⟨q, vm₁, ⟨U', l2, c2, s2⟩, hW₁, X', ⟨g', mk, t, L, E, ce, e1, e2, hq, hce, hcv, hcl, h1, hL, h2, h3⟩, st⟩
  · dsimp only [Pt.U, Pt.locs, Pt.cells, Pt.slots] at X' e1 e2 h1 h2 h3 st
    subst h1; subst h2; subst h3
    exact Or.inl ⟨v, (T.setVm vm₁).calling g' mk (Value.ref b :: As).toArray, t, U', L, hT, X', hL, e1, e2, hq, st⟩
  · dsimp only [Pt.U, Pt.locs, Pt.cells, Pt.slots] at X' e1 e2 h1 h2 h3 st hcl
    subst h1; subst h2; subst h3
    exact Or.inr ⟨q, (T.setVm vm₁).calling g' mk (Value.ref b :: As).toArray, t, U', L, E, ce, hT, X', hL, e1, e2, hq, hce, hcv, vx_cls hW₁ hcl, st⟩
theorem vx_runSX {hh : List (Nat × Nat × Nat × Nat)} (S : CallFix p m c cc nL s args Ts own) (hM : vx_Met l y ws rm Pc Qc XC mc ms free) (cw : vx_CSW R s args own index y bytes maxL ret hh ws rm mc ms n) (hp : PreS s H Pc As)
    (hg : g.method = m) (hn : As.length = n) (hsize : g.locals.size = nL) (hstack : g.stack = As.reverse ++ rest) (hW : 2 * g.monitorRoom + (rest.map fun v => v.category).sum ≤ 8) (hdg : decode cc g.pc = .ok (.invokestatic index, 3)) (hf : cells + mc ≤ R.cells ∧ slots + ms ≤ R.slots) :
    vx_Run p l e R s m args below meth c H locs cells slots mc ms g rest (Qc As.toArray) XC free := by
  obtain ⟨⟨hrc, hrs, hfr, hlo, hws, hcw⟩, hcode, hini, hy, hlen, hl, hstt⟩ := cw
  have hK : vx_Back l R p e below s args y 3 8 (PreOf R mc ms Pc) (PostOf Qc mc ms free) (vx_Post XC mc ms free) := vx_backW (hh := hh) (bytes := bytes) (maxL := maxL) (ret := ret) hM hp.1 hrc hrs hfr hlo hws hcw (fun a' U hW => word_at hW (Or.inl (by first | rfl | simp [Cond.onTables, Cond.keeps, Cond.steady])) hini)
  obtain ⟨hx, hb, hml, ho, -⟩ := S
  intro T hT X
  rcases vx_callSX X hx (hh := hh) (bytes := bytes) (maxL := maxL) (ret := ret) ho hl hstt hini hcode hy hK hg (hsize.trans hml.symm) (argsL := As) (rest := rest) (fun sig h => hn.trans (hlen sig h)) hstack hW (by rw [hb]; exact hdg)
    (fun vm₁ hW₁ => ⟨hf.1, hf.2, hp.2 (T.setVm vm₁) hT hW₁⟩) with ⟨v, vm₁, ⟨U', l2, c2, s2⟩, hW₁, X', ⟨g', mk, t, L, e1, e2, hq, h1, hL, h2, h3⟩, st⟩ | ⟨q, vm₁, ⟨U', l2, c2, s2⟩, hW₁, X', ⟨g', mk, t, L, E, ce, e1, e2, hq, hce, hcv, hcl, h1, hL, h2, h3⟩, st⟩
  · dsimp only [Pt.U, Pt.locs, Pt.cells, Pt.slots] at X' e1 e2 h1 h2 h3 st
    subst h1; subst h2; subst h3
    exact Or.inl ⟨v, (T.setVm vm₁).calling g' mk As.toArray, t, U', L, hT, X', hL, e1, e2, hq, st⟩
  · dsimp only [Pt.U, Pt.locs, Pt.cells, Pt.slots] at X' e1 e2 h1 h2 h3 st hcl
    subst h1; subst h2; subst h3
    exact Or.inr ⟨q, (T.setVm vm₁).calling g' mk As.toArray, t, U', L, E, ce, hT, X', hL, e1, e2, hq, hce, hcv, vx_cls hW₁ hcl, st⟩
end
end VXH
theorem vx_ofWH {l : Launch} {y : MethodName} {ws ws' : List Cond} {rm : Room} {Pc : Array Value → State → Prop} {Qc : Array Value → State → Outcome → State → Prop} {XC : String → State → State → Prop} {mc ms : Nat} {free : Addr → Prop} {cc : ByteArray} {maxL : Nat} {ret : Option FieldType} {hh : List (Nat × Nat × Nat × Nat)}
    (hy : plainName y.cls = true) (hw : ws = Cond.codeWith y cc maxL ret hh :: ws')
    (body : ∀ p e s m args below meth c s₁, BodyLoose p l y (headSpec ws rm) cc maxL ret e s m args below meth c s₁ → c.maxLocals = maxL → Pc args s →
      W p l e (headSpec ws rm).room s m args below meth c s.heap [] 0 0 (vx_MQ below Qc XC args s mc ms free) (entryFrame m args maxL)) : vx_Met l y ws rm Pc Qc XC mc ms free := by
  refine MetFree.of_bodyS (code := cc) (maxLocals := maxL) (ret := ret) hy ?_ ?_
  · intro args s m h hn
    obtain ⟨m9, meth, c, hn9, h1, h2, h3, h4, -, h5, h6, -⟩ := Cond.codeWith_spec (atoms_spec (ws := ws) h _ (by rw [hw]; exact List.mem_cons_self))
    cases hn.symm.trans hn9
    exact ⟨meth, c, h1, h2, h3, h4, h5, h6⟩
  · intro p e s m args below meth c s₁ B hml hP _
    have hh0 : s₁.heap = s.heap := by rw [B.state]; rfl
    obtain ⟨t, a1, o, b1, b2, b3⟩ := body p e s m args below meth c s₁ B hml hP s₁ hh0 (Stand.of_body B)
    exact ⟨t, o, a1, b1, b2, b3⟩
/-! ===== END ===== -/
end
section
/-! ===== BEGIN printed: names, fields, word lists, decode rows ===== -/
def RX0 : String := "ValveWalk$Breaks"
def TX0 : u_T := fun k => match k with
  | 0 => ("ValveWalk$Breaks", "network", "LValveWalk$Network;", true)
  | 1 => ("ValveWalk$Breaks", "pipeRegions", "[I", true)
  | 2 => ("ValveWalk$Breaks", "nodeRegions", "[I", true)
  | 3 => ("ValveWalk$Breaks", "ways", "[I", true)
  | 4 => ("ValveWalk$Breaks", "crossed", "[I", true)
  | _ => ("ValveWalk$Breaks", "directions", "[I", true)
def tyX0 : Nat → FieldType := fun k => match k with
  | 0 => .object "ValveWalk$Network"
  | 1 => .array .int
  | 2 => .array .int
  | 3 => .array .int
  | 4 => .array .int
  | _ => .array .int
abbrev wsX00 : List Cond := u_ws RX0 TX0 6
theorem nmX0 : ∀ a, a < 6 → ∀ b, b < 6 → a ≠ b → (TX0 a).2.1 ≠ (TX0 b).2.1 := by decide +kernel
theorem tyX0_ok : ∀ k, k < 6 → parseFieldDescriptor (TX0 k).2.2.1 = some (tyX0 k) := by decide +kernel
abbrev cX0_init : ByteArray := prog_2_method_1_code
def yX0_init : MethodName := ⟨RX0, "<init>", "(LValveWalk$Network;)V"⟩
abbrev cX0_regionOf : ByteArray := prog_2_method_2_code
def yX0_regionOf : MethodName := ⟨RX0, "regionOf", "(I)I"⟩
abbrev cX0_regionWith : ByteArray := prog_2_method_3_code
def yX0_regionWith : MethodName := ⟨RX0, "regionWith", "(I)I"⟩
abbrev cX0_regionsWithSources : ByteArray := prog_2_method_4_code
def yX0_regionsWithSources : MethodName := ⟨RX0, "regionsWithSources", "()I"⟩
abbrev cX0_ringOf : ByteArray := prog_2_method_5_code
def yX0_ringOf : MethodName := ⟨RX0, "ringOf", "(I)I"⟩
abbrev cX0_customersLost : ByteArray := prog_2_method_6_code
def yX0_customersLost : MethodName := ⟨RX0, "customersLost", "(I)I"⟩
abbrev cX0_countWays : ByteArray := prog_2_method_7_code
def yX0_countWays : MethodName := ⟨RX0, "countWays", "(I)I"⟩
abbrev cX0_findRegionsOfValves : ByteArray := prog_2_method_8_code
def yX0_findRegionsOfValves : MethodName := ⟨RX0, "findRegionsOfValves", "()V"⟩
abbrev cX0_addWay : ByteArray := prog_2_method_9_code
def yX0_addWay : MethodName := ⟨RX0, "addWay", "(II)Z"⟩
abbrev cX0_directionAcross : ByteArray := prog_2_method_10_code
def yX0_directionAcross : MethodName := ⟨RX0, "directionAcross", "(II)I"⟩
abbrev cX0_keepWayTo : ByteArray := prog_2_method_11_code
def yX0_keepWayTo : MethodName := ⟨RX0, "keepWayTo", "(II)V"⟩
abbrev cX0_trySets : ByteArray := prog_2_method_12_code
def yX0_trySets : MethodName := ⟨RX0, "trySets", "(I)I"⟩
abbrev cX0_wetOver : ByteArray := prog_2_method_13_code
def yX0_wetOver : MethodName := ⟨RX0, "wetOver", "(II)I"⟩
abbrev cX0_setBehind : ByteArray := prog_2_method_14_code
def yX0_setBehind : MethodName := ⟨RX0, "setBehind", "(II)I"⟩
def RX1 : String := "ValveWalk$Flushing"
def TX1 : u_T := fun k => match k with
  | 0 => ("ValveWalk$Flushing", "network", "LValveWalk$Network;", true)
  | _ => ("ValveWalk$Flushing", "distances", "[I", true)
def tyX1 : Nat → FieldType := fun k => match k with
  | 0 => .object "ValveWalk$Network"
  | _ => .array .int
abbrev wsX10 : List Cond := u_ws RX1 TX1 2
theorem nmX1 : ∀ a, a < 2 → ∀ b, b < 2 → a ≠ b → (TX1 a).2.1 ≠ (TX1 b).2.1 := by decide +kernel
theorem tyX1_ok : ∀ k, k < 2 → parseFieldDescriptor (TX1 k).2.2.1 = some (tyX1 k) := by decide +kernel
abbrev cX1_init : ByteArray := prog_3_method_1_code
def yX1_init : MethodName := ⟨RX1, "<init>", "(LValveWalk$Network;)V"⟩
abbrev cX1_distanceOf : ByteArray := prog_3_method_2_code
def yX1_distanceOf : MethodName := ⟨RX1, "distanceOf", "(I)I"⟩
abbrev cX1_measure : ByteArray := prog_3_method_3_code
def yX1_measure : MethodName := ⟨RX1, "measure", "()V"⟩
abbrev cX1_shorten : ByteArray := prog_3_method_4_code
def yX1_shorten : MethodName := ⟨RX1, "shorten", "(I)V"⟩
abbrev cX1_pipeAndEndAt : ByteArray := prog_3_method_5_code
def yX1_pipeAndEndAt : MethodName := ⟨RX1, "pipeAndEndAt", "(I)I"⟩
abbrev cX1_placeOf : ByteArray := prog_3_method_6_code
def yX1_placeOf : MethodName := ⟨RX1, "placeOf", "(I)I"⟩
abbrev cX1_isAhead : ByteArray := prog_3_method_7_code
def yX1_isAhead : MethodName := ⟨RX1, "isAhead", "(II)Z"⟩
abbrev cX1_isFlushed : ByteArray := prog_3_method_8_code
def yX1_isFlushed : MethodName := ⟨RX1, "isFlushed", "(I)Z"⟩
abbrev cX1_endOf : ByteArray := prog_3_method_9_code
def yX1_endOf : MethodName := ⟨RX1, "endOf", "(I)I"⟩
abbrev cX1_distanceAt : ByteArray := prog_3_method_10_code
def yX1_distanceAt : MethodName := ⟨RX1, "distanceAt", "(II)I"⟩
def RX2 : String := "ValveWalk$Network"
def TX2 : u_T := fun k => match k with
  | 0 => ("ValveWalk$Network", "nodeCount", "I", false)
  | 1 => ("ValveWalk$Network", "pipeCount", "I", false)
  | 2 => ("ValveWalk$Network", "valveCount", "I", false)
  | 3 => ("ValveWalk$Network", "sources", "I", false)
  | 4 => ("ValveWalk$Network", "shut", "I", false)
  | 5 => ("ValveWalk$Network", "stuck", "I", false)
  | 6 => ("ValveWalk$Network", "lengths", "[I", true)
  | 7 => ("ValveWalk$Network", "customers", "[I", true)
  | 8 => ("ValveWalk$Network", "nodeAt", "[I", true)
  | 9 => ("ValveWalk$Network", "valveBitAt", "[I", true)
  | 10 => ("ValveWalk$Network", "sidesAt", "[I", true)
  | _ => ("ValveWalk$Network", "jointOf", "[I", true)
def tyX2 : Nat → FieldType := fun k => match k with
  | 0 => .int
  | 1 => .int
  | 2 => .int
  | 3 => .int
  | 4 => .int
  | 5 => .int
  | 6 => .array .int
  | 7 => .array .int
  | 8 => .array .int
  | 9 => .array .int
  | 10 => .array .int
  | _ => .array .int
abbrev wsX20 : List Cond := u_ws RX2 TX2 12
theorem nmX2 : ∀ a, a < 12 → ∀ b, b < 12 → a ≠ b → (TX2 a).2.1 ≠ (TX2 b).2.1 := by decide +kernel
theorem tyX2_ok : ∀ k, k < 12 → parseFieldDescriptor (TX2 k).2.2.1 = some (tyX2 k) := by decide +kernel
abbrev cX2_init : ByteArray := prog_4_method_1_code
def yX2_init : MethodName := ⟨RX2, "<init>", "()V"⟩
abbrev cX2_nodeCount : ByteArray := prog_4_method_2_code
def yX2_nodeCount : MethodName := ⟨RX2, "nodeCount", "()I"⟩
abbrev cX2_pipeCount : ByteArray := prog_4_method_3_code
def yX2_pipeCount : MethodName := ⟨RX2, "pipeCount", "()I"⟩
abbrev cX2_valveCount : ByteArray := prog_4_method_4_code
def yX2_valveCount : MethodName := ⟨RX2, "valveCount", "()I"⟩
abbrev cX2_sources : ByteArray := prog_4_method_5_code
def yX2_sources : MethodName := ⟨RX2, "sources", "()I"⟩
abbrev cX2_putNode : ByteArray := prog_4_method_6_code
def yX2_putNode : MethodName := ⟨RX2, "putNode", "(Z)I"⟩
abbrev cX2_putPipe : ByteArray := prog_4_method_7_code
def yX2_putPipe : MethodName := ⟨RX2, "putPipe", "(IIII)I"⟩
abbrev cX2_join : ByteArray := prog_4_method_8_code
def yX2_join : MethodName := ⟨RX2, "join", "(III)V"⟩
abbrev cX2_putValve : ByteArray := prog_4_method_9_code
def yX2_putValve : MethodName := ⟨RX2, "putValve", "(II)I"⟩
abbrev cX2_markSource : ByteArray := prog_4_method_10_code
def yX2_markSource : MethodName := ⟨RX2, "markSource", "(IZ)Z"⟩
abbrev cX2_markStuck : ByteArray := prog_4_method_11_code
def yX2_markStuck : MethodName := ⟨RX2, "markStuck", "(IZ)Z"⟩
abbrev cX2_markShut : ByteArray := prog_4_method_12_code
def yX2_markShut : MethodName := ⟨RX2, "markShut", "(IZ)Z"⟩
abbrev cX2_isStuck : ByteArray := prog_4_method_13_code
def yX2_isStuck : MethodName := ⟨RX2, "isStuck", "(I)Z"⟩
abbrev cX2_hasPart : ByteArray := prog_4_method_14_code
def yX2_hasPart : MethodName := ⟨RX2, "hasPart", "(I)Z"⟩
abbrev cX2_lengthOf : ByteArray := prog_4_method_15_code
def yX2_lengthOf : MethodName := ⟨RX2, "lengthOf", "(I)I"⟩
abbrev cX2_nodeAt : ByteArray := prog_4_method_16_code
def yX2_nodeAt : MethodName := ⟨RX2, "nodeAt", "(II)I"⟩
abbrev cX2_valveBitAt : ByteArray := prog_4_method_17_code
def yX2_valveBitAt : MethodName := ⟨RX2, "valveBitAt", "(II)I"⟩
abbrev cX2_isShutAt : ByteArray := prog_4_method_18_code
def yX2_isShutAt : MethodName := ⟨RX2, "isShutAt", "(II)Z"⟩
abbrev cX2_pipeOfValve : ByteArray := prog_4_method_19_code
def yX2_pipeOfValve : MethodName := ⟨RX2, "pipeOfValve", "(I)I"⟩
abbrev cX2_nodeOfValve : ByteArray := prog_4_method_20_code
def yX2_nodeOfValve : MethodName := ⟨RX2, "nodeOfValve", "(I)I"⟩
abbrev cX2_closable : ByteArray := prog_4_method_21_code
def yX2_closable : MethodName := ⟨RX2, "closable", "()I"⟩
abbrev cX2_bounding : ByteArray := prog_4_method_22_code
def yX2_bounding : MethodName := ⟨RX2, "bounding", "()I"⟩
abbrev cX2_reach : ByteArray := prog_4_method_23_code
def yX2_reach : MethodName := ⟨RX2, "reach", "(II)I"⟩
abbrev cX2_wetBehind : ByteArray := prog_4_method_24_code
def yX2_wetBehind : MethodName := ⟨RX2, "wetBehind", "(I)I"⟩
abbrev cX2_customersOf : ByteArray := prog_4_method_25_code
def yX2_customersOf : MethodName := ⟨RX2, "customersOf", "(I)I"⟩
def RX3 : String := "ValveWalk$Segments"
def TX3 : u_T := fun k => match k with
  | 0 => ("ValveWalk$Segments", "network", "LValveWalk$Network;", true)
  | _ => ("ValveWalk$Segments", "earlier", "[I", true)
def tyX3 : Nat → FieldType := fun k => match k with
  | 0 => .object "ValveWalk$Network"
  | _ => .array .int
abbrev wsX30 : List Cond := u_ws RX3 TX3 2
theorem nmX3 : ∀ a, a < 2 → ∀ b, b < 2 → a ≠ b → (TX3 a).2.1 ≠ (TX3 b).2.1 := by decide +kernel
theorem tyX3_ok : ∀ k, k < 2 → parseFieldDescriptor (TX3 k).2.2.1 = some (tyX3 k) := by decide +kernel
abbrev cX3_init : ByteArray := prog_5_method_1_code
def yX3_init : MethodName := ⟨RX3, "<init>", "(LValveWalk$Network;)V"⟩
abbrev cX3_count : ByteArray := prog_5_method_2_code
def yX3_count : MethodName := ⟨RX3, "count", "()I"⟩
abbrev cX3_numberByWalking : ByteArray := prog_5_method_3_code
def yX3_numberByWalking : MethodName := ⟨RX3, "numberByWalking", "(I)I"⟩
abbrev cX3_segmentWith : ByteArray := prog_5_method_4_code
def yX3_segmentWith : MethodName := ⟨RX3, "segmentWith", "(I)I"⟩
abbrev cX3_countBegunBelow : ByteArray := prog_5_method_5_code
def yX3_countBegunBelow : MethodName := ⟨RX3, "countBegunBelow", "(I)I"⟩
abbrev cX3_numberByMerging : ByteArray := prog_5_method_6_code
def yX3_numberByMerging : MethodName := ⟨RX3, "numberByMerging", "(I)I"⟩
abbrev cX3_mergePipes : ByteArray := prog_5_method_7_code
def yX3_mergePipes : MethodName := ⟨RX3, "mergePipes", "()V"⟩
abbrev cX3_merge : ByteArray := prog_5_method_8_code
def yX3_merge : MethodName := ⟨RX3, "merge", "(II)V"⟩
abbrev cX3_firstOfSet : ByteArray := prog_5_method_9_code
def yX3_firstOfSet : MethodName := ⟨RX3, "firstOfSet", "(I)I"⟩
def RX4 : String := "ValveWalk$Walks"
def TX4 : u_T := fun k => match k with
  | 0 => ("ValveWalk$Walks", "network", "LValveWalk$Network;", true)
  | 1 => ("ValveWalk$Walks", "between", "[I", true)
  | 2 => ("ValveWalk$Walks", "stops", "[I", true)
  | _ => ("ValveWalk$Walks", "least", "[I", true)
def tyX4 : Nat → FieldType := fun k => match k with
  | 0 => .object "ValveWalk$Network"
  | 1 => .array .int
  | 2 => .array .int
  | _ => .array .int
abbrev wsX40 : List Cond := u_ws RX4 TX4 4
theorem nmX4 : ∀ a, a < 4 → ∀ b, b < 4 → a ≠ b → (TX4 a).2.1 ≠ (TX4 b).2.1 := by decide +kernel
theorem tyX4_ok : ∀ k, k < 4 → parseFieldDescriptor (TX4 k).2.2.1 = some (tyX4 k) := by decide +kernel
abbrev cX4_init : ByteArray := prog_6_method_1_code
def yX4_init : MethodName := ⟨RX4, "<init>", "(LValveWalk$Network;)V"⟩
abbrev cX4_leastLength : ByteArray := prog_6_method_2_code
def yX4_leastLength : MethodName := ⟨RX4, "leastLength", "(II)I"⟩
abbrev cX4_listStops : ByteArray := prog_6_method_3_code
def yX4_listStops : MethodName := ⟨RX4, "listStops", "(I)I"⟩
abbrev cX4_leastEnding : ByteArray := prog_6_method_4_code
def yX4_leastEnding : MethodName := ⟨RX4, "leastEnding", "(IIII)I"⟩
abbrev cX4_lengthBetween : ByteArray := prog_6_method_5_code
def yX4_lengthBetween : MethodName := ⟨RX4, "lengthBetween", "(II)I"⟩
abbrev cX4_measure : ByteArray := prog_6_method_6_code
def yX4_measure : MethodName := ⟨RX4, "measure", "()V"⟩
abbrev cX4_shortenBy : ByteArray := prog_6_method_7_code
def yX4_shortenBy : MethodName := ⟨RX4, "shortenBy", "(I)V"⟩
abbrev cX4_shorten : ByteArray := prog_6_method_8_code
def yX4_shorten : MethodName := ⟨RX4, "shorten", "(III)V"⟩
def RX5 : String := "ValveWalk"
def TX5 : u_T := fun k => match k with
  | 0 => ("ValveWalk", "network", "LValveWalk$Network;", true)
  | 1 => ("ValveWalk", "parting", "LValveWalk$Segments;", true)
  | 2 => ("ValveWalk", "breaks", "LValveWalk$Breaks;", true)
  | 3 => ("ValveWalk", "flushing", "LValveWalk$Flushing;", true)
  | _ => ("ValveWalk", "walks", "LValveWalk$Walks;", true)
def tyX5 : Nat → FieldType := fun k => match k with
  | 0 => .object "ValveWalk$Network"
  | 1 => .object "ValveWalk$Segments"
  | 2 => .object "ValveWalk$Breaks"
  | 3 => .object "ValveWalk$Flushing"
  | _ => .object "ValveWalk$Walks"
abbrev wsX50 : List Cond := u_ws RX5 TX5 5
theorem nmX5 : ∀ a, a < 5 → ∀ b, b < 5 → a ≠ b → (TX5 a).2.1 ≠ (TX5 b).2.1 := by decide +kernel
theorem tyX5_ok : ∀ k, k < 5 → parseFieldDescriptor (TX5 k).2.2.1 = some (tyX5 k) := by decide +kernel
abbrev cX5_init : ByteArray := prog_1_method_1_code
def yX5_init : MethodName := ⟨RX5, "<init>", "()V"⟩
abbrev cX5_addNode : ByteArray := prog_1_method_2_code
def yX5_addNode : MethodName := ⟨RX5, "addNode", "(Z)I"⟩
abbrev cX5_addPipe : ByteArray := prog_1_method_3_code
def yX5_addPipe : MethodName := ⟨RX5, "addPipe", "(IIII)I"⟩
abbrev cX5_addValve : ByteArray := prog_1_method_4_code
def yX5_addValve : MethodName := ⟨RX5, "addValve", "(II)I"⟩
abbrev cX5_setSource : ByteArray := prog_1_method_5_code
def yX5_setSource : MethodName := ⟨RX5, "setSource", "(IZ)Z"⟩
abbrev cX5_setStuck : ByteArray := prog_1_method_6_code
def yX5_setStuck : MethodName := ⟨RX5, "setStuck", "(IZ)Z"⟩
abbrev cX5_turn : ByteArray := prog_1_method_7_code
def yX5_turn : MethodName := ⟨RX5, "turn", "(IZ)Z"⟩
abbrev cX5_nodes : ByteArray := prog_1_method_8_code
def yX5_nodes : MethodName := ⟨RX5, "nodes", "()I"⟩
abbrev cX5_pipes : ByteArray := prog_1_method_9_code
def yX5_pipes : MethodName := ⟨RX5, "pipes", "()I"⟩
abbrev cX5_valves : ByteArray := prog_1_method_10_code
def yX5_valves : MethodName := ⟨RX5, "valves", "()I"⟩
abbrev cX5_isNodeDry : ByteArray := prog_1_method_11_code
def yX5_isNodeDry : MethodName := ⟨RX5, "isNodeDry", "(I)Z"⟩
abbrev cX5_isPipeDry : ByteArray := prog_1_method_12_code
def yX5_isPipeDry : MethodName := ⟨RX5, "isPipeDry", "(I)Z"⟩
abbrev cX5_supplied : ByteArray := prog_1_method_13_code
def yX5_supplied : MethodName := ⟨RX5, "supplied", "()I"⟩
abbrev cX5_segments : ByteArray := prog_1_method_14_code
def yX5_segments : MethodName := ⟨RX5, "segments", "()I"⟩
abbrev cX5_segmentOfNode : ByteArray := prog_1_method_15_code
def yX5_segmentOfNode : MethodName := ⟨RX5, "segmentOfNode", "(I)I"⟩
abbrev cX5_segmentOfPipe : ByteArray := prog_1_method_16_code
def yX5_segmentOfPipe : MethodName := ⟨RX5, "segmentOfPipe", "(I)I"⟩
abbrev cX5_segmentByMerging : ByteArray := prog_1_method_17_code
def yX5_segmentByMerging : MethodName := ⟨RX5, "segmentByMerging", "(I)I"⟩
abbrev cX5_ring : ByteArray := prog_1_method_18_code
def yX5_ring : MethodName := ⟨RX5, "ring", "(I)I"⟩
abbrev cX5_cutOff : ByteArray := prog_1_method_19_code
def yX5_cutOff : MethodName := ⟨RX5, "cutOff", "(I)I"⟩
abbrev cX5_fewest : ByteArray := prog_1_method_20_code
def yX5_fewest : MethodName := ⟨RX5, "fewest", "(I)I"⟩
abbrev cX5_fewestByTrying : ByteArray := prog_1_method_21_code
def yX5_fewestByTrying : MethodName := ⟨RX5, "fewestByTrying", "(I)I"⟩
abbrev cX5_distance : ByteArray := prog_1_method_22_code
def yX5_distance : MethodName := ⟨RX5, "distance", "(I)I"⟩
abbrev cX5_flushAt : ByteArray := prog_1_method_23_code
def yX5_flushAt : MethodName := ⟨RX5, "flushAt", "(I)I"⟩
abbrev cX5_walk : ByteArray := prog_1_method_24_code
def yX5_walk : MethodName := ⟨RX5, "walk", "(II)I"⟩
abbrev cX5_requireNode : ByteArray := prog_1_method_25_code
def yX5_requireNode : MethodName := ⟨RX5, "requireNode", "(I)V"⟩
abbrev cX5_requirePipe : ByteArray := prog_1_method_26_code
def yX5_requirePipe : MethodName := ⟨RX5, "requirePipe", "(I)V"⟩
abbrev cX5_requireValve : ByteArray := prog_1_method_27_code
def yX5_requireValve : MethodName := ⟨RX5, "requireValve", "(I)V"⟩
abbrev cX5_isDry : ByteArray := prog_1_method_28_code
def yX5_isDry : MethodName := ⟨RX5, "isDry", "(I)Z"⟩
abbrev cX5_regionWithoutSource : ByteArray := prog_1_method_29_code
def yX5_regionWithoutSource : MethodName := ⟨RX5, "regionWithoutSource", "(I)I"⟩
abbrev cX5_partOfPipe : ByteArray := prog_1_method_30_code
def yX5_partOfPipe : MethodName := ⟨RX5, "partOfPipe", "(I)I"⟩
abbrev cX5_hasBit : ByteArray := prog_1_method_31_code
def yX5_hasBit : MethodName := ⟨RX5, "hasBit", "(II)Z"⟩
abbrev cX5_withBit : ByteArray := prog_1_method_32_code
def yX5_withBit : MethodName := ⟨RX5, "withBit", "(IIZ)I"⟩
def RX6 : String := "ValveWalkModel"
def TX6 : u_T := fun k => match k with
  | 0 => ("ValveWalkModel", "refusal", "I", false)
  | 1 => ("ValveWalkModel", "nodes", "I", false)
  | 2 => ("ValveWalkModel", "pipes", "I", false)
  | 3 => ("ValveWalkModel", "valves", "I", false)
  | 4 => ("ValveWalkModel", "sources", "I", false)
  | 5 => ("ValveWalkModel", "nodeAt", "[I", true)
  | 6 => ("ValveWalkModel", "valveAt", "[I", true)
  | 7 => ("ValveWalkModel", "lengths", "[I", true)
  | 8 => ("ValveWalkModel", "customers", "[I", true)
  | 9 => ("ValveWalkModel", "placeOf", "[I", true)
  | 10 => ("ValveWalkModel", "shut", "I", false)
  | 11 => ("ValveWalkModel", "stuck", "I", false)
  | 12 => ("ValveWalkModel", "distances", "[I", true)
  | 13 => ("ValveWalkModel", "ways", "[I", true)
  | 14 => ("ValveWalkModel", "stops", "[I", true)
  | 15 => ("ValveWalkModel", "order", "[I", true)
  | _ => ("ValveWalkModel", "ordered", "I", false)
def tyX6 : Nat → FieldType := fun k => match k with
  | 0 => .int
  | 1 => .int
  | 2 => .int
  | 3 => .int
  | 4 => .int
  | 5 => .array .int
  | 6 => .array .int
  | 7 => .array .int
  | 8 => .array .int
  | 9 => .array .int
  | 10 => .int
  | 11 => .int
  | 12 => .array .int
  | 13 => .array .int
  | 14 => .array .int
  | 15 => .array .int
  | _ => .int
abbrev wsX60 : List Cond := u_ws RX6 TX6 17
theorem nmX6 : ∀ a, a < 17 → ∀ b, b < 17 → a ≠ b → (TX6 a).2.1 ≠ (TX6 b).2.1 := by decide +kernel
theorem tyX6_ok : ∀ k, k < 17 → parseFieldDescriptor (TX6 k).2.2.1 = some (tyX6 k) := by decide +kernel
abbrev cX6_init : ByteArray := prog_8_method_1_code
def yX6_init : MethodName := ⟨RX6, "<init>", "()V"⟩
abbrev cX6_thrown : ByteArray := prog_8_method_2_code
def yX6_thrown : MethodName := ⟨RX6, "thrown", "()I"⟩
abbrev cX6_refused : ByteArray := prog_8_method_3_code
def yX6_refused : MethodName := ⟨RX6, "refused", "(I)Z"⟩
abbrev cX6_fine : ByteArray := prog_8_method_4_code
def yX6_fine : MethodName := ⟨RX6, "fine", "(I)I"⟩
abbrev cX6_in : ByteArray := prog_8_method_5_code
def yX6_in : MethodName := ⟨RX6, "in", "(III)Z"⟩
abbrev cX6_isNode : ByteArray := prog_8_method_6_code
def yX6_isNode : MethodName := ⟨RX6, "isNode", "(I)Z"⟩
abbrev cX6_isPipe : ByteArray := prog_8_method_7_code
def yX6_isPipe : MethodName := ⟨RX6, "isPipe", "(I)Z"⟩
abbrev cX6_isValve : ByteArray := prog_8_method_8_code
def yX6_isValve : MethodName := ⟨RX6, "isValve", "(I)Z"⟩
abbrev cX6_bits : ByteArray := prog_8_method_9_code
def yX6_bits : MethodName := ⟨RX6, "bits", "(I)I"⟩
abbrev cX6_addNode : ByteArray := prog_8_method_10_code
def yX6_addNode : MethodName := ⟨RX6, "addNode", "(Z)I"⟩
abbrev cX6_addPipe : ByteArray := prog_8_method_11_code
def yX6_addPipe : MethodName := ⟨RX6, "addPipe", "(IIII)I"⟩
abbrev cX6_addValve : ByteArray := prog_8_method_12_code
def yX6_addValve : MethodName := ⟨RX6, "addValve", "(II)I"⟩
abbrev cX6_setSource : ByteArray := prog_8_method_13_code
def yX6_setSource : MethodName := ⟨RX6, "setSource", "(IZ)Z"⟩
abbrev cX6_setStuck : ByteArray := prog_8_method_14_code
def yX6_setStuck : MethodName := ⟨RX6, "setStuck", "(IZ)Z"⟩
abbrev cX6_turn : ByteArray := prog_8_method_15_code
def yX6_turn : MethodName := ⟨RX6, "turn", "(IZ)Z"⟩
abbrev cX6_nodes : ByteArray := prog_8_method_16_code
def yX6_nodes : MethodName := ⟨RX6, "nodes", "()I"⟩
abbrev cX6_pipes : ByteArray := prog_8_method_17_code
def yX6_pipes : MethodName := ⟨RX6, "pipes", "()I"⟩
abbrev cX6_valves : ByteArray := prog_8_method_18_code
def yX6_valves : MethodName := ⟨RX6, "valves", "()I"⟩
abbrev cX6_isOpen : ByteArray := prog_8_method_19_code
def yX6_isOpen : MethodName := ⟨RX6, "isOpen", "(III)Z"⟩
abbrev cX6_partOf : ByteArray := prog_8_method_20_code
def yX6_partOf : MethodName := ⟨RX6, "partOf", "(I)I"⟩
abbrev cX6_spread : ByteArray := prog_8_method_21_code
def yX6_spread : MethodName := ⟨RX6, "spread", "(III)I"⟩
abbrev cX6_wet : ByteArray := prog_8_method_22_code
def yX6_wet : MethodName := ⟨RX6, "wet", "(I)I"⟩
abbrev cX6_supply : ByteArray := prog_8_method_23_code
def yX6_supply : MethodName := ⟨RX6, "supply", "(I)I"⟩
abbrev cX6_isNodeDry : ByteArray := prog_8_method_24_code
def yX6_isNodeDry : MethodName := ⟨RX6, "isNodeDry", "(I)Z"⟩
abbrev cX6_isPipeDry : ByteArray := prog_8_method_25_code
def yX6_isPipeDry : MethodName := ⟨RX6, "isPipeDry", "(I)Z"⟩
abbrev cX6_supplied : ByteArray := prog_8_method_26_code
def yX6_supplied : MethodName := ⟨RX6, "supplied", "()I"⟩
abbrev cX6_segmentOf : ByteArray := prog_8_method_27_code
def yX6_segmentOf : MethodName := ⟨RX6, "segmentOf", "(I)I"⟩
abbrev cX6_segments : ByteArray := prog_8_method_28_code
def yX6_segments : MethodName := ⟨RX6, "segments", "()I"⟩
abbrev cX6_segmentOfNode : ByteArray := prog_8_method_29_code
def yX6_segmentOfNode : MethodName := ⟨RX6, "segmentOfNode", "(I)I"⟩
abbrev cX6_segmentOfPipe : ByteArray := prog_8_method_30_code
def yX6_segmentOfPipe : MethodName := ⟨RX6, "segmentOfPipe", "(I)I"⟩
abbrev cX6_segmentByMerging : ByteArray := prog_8_method_31_code
def yX6_segmentByMerging : MethodName := ⟨RX6, "segmentByMerging", "(I)I"⟩
abbrev cX6_ringOf : ByteArray := prog_8_method_32_code
def yX6_ringOf : MethodName := ⟨RX6, "ringOf", "(I)I"⟩
abbrev cX6_noRing : ByteArray := prog_8_method_33_code
def yX6_noRing : MethodName := ⟨RX6, "noRing", "(I)Z"⟩
abbrev cX6_ring : ByteArray := prog_8_method_34_code
def yX6_ring : MethodName := ⟨RX6, "ring", "(I)I"⟩
abbrev cX6_cutOff : ByteArray := prog_8_method_35_code
def yX6_cutOff : MethodName := ⟨RX6, "cutOff", "(I)I"⟩
abbrev cX6_least : ByteArray := prog_8_method_36_code
def yX6_least : MethodName := ⟨RX6, "least", "(I)I"⟩
abbrev cX6_fewest : ByteArray := prog_8_method_37_code
def yX6_fewest : MethodName := ⟨RX6, "fewest", "(I)I"⟩
abbrev cX6_fewestByTrying : ByteArray := prog_8_method_38_code
def yX6_fewestByTrying : MethodName := ⟨RX6, "fewestByTrying", "(I)I"⟩
abbrev cX6_measure : ByteArray := prog_8_method_39_code
def yX6_measure : MethodName := ⟨RX6, "measure", "()V"⟩
abbrev cX6_distance : ByteArray := prog_8_method_40_code
def yX6_distance : MethodName := ⟨RX6, "distance", "(I)I"⟩
abbrev cX6_reach : ByteArray := prog_8_method_41_code
def yX6_reach : MethodName := ⟨RX6, "reach", "(I)I"⟩
abbrev cX6_sort : ByteArray := prog_8_method_42_code
def yX6_sort : MethodName := ⟨RX6, "sort", "()V"⟩
abbrev cX6_flushAt : ByteArray := prog_8_method_43_code
def yX6_flushAt : MethodName := ⟨RX6, "flushAt", "(I)I"⟩
abbrev cX6_connect : ByteArray := prog_8_method_44_code
def yX6_connect : MethodName := ⟨RX6, "connect", "()V"⟩
abbrev cX6_walked : ByteArray := prog_8_method_45_code
def yX6_walked : MethodName := ⟨RX6, "walked", "(III)I"⟩
abbrev cX6_walk : ByteArray := prog_8_method_46_code
def yX6_walk : MethodName := ⟨RX6, "walk", "(II)I"⟩
def RJ6 : String := "java/lang/Integer"
def TJ6 : u_T := fun k => match k with
  | _ => ("", "", "", false)
def tyJ6 : Nat → FieldType := fun k => match k with
  | _ => .int
abbrev wsJ60 : List Cond := u_ws RJ6 TJ6 0
theorem nmJ6 : ∀ a, a < 0 → ∀ b, b < 0 → a ≠ b → (TJ6 a).2.1 ≠ (TJ6 b).2.1 := by decide +kernel
theorem tyJ6_ok : ∀ k, k < 0 → parseFieldDescriptor (TJ6 k).2.2.1 = some (tyJ6 k) := by decide +kernel
abbrev cJ6_numberOfTrailingZeros_0f7a4 : ByteArray := prog_13_method_48_code
def yJ6_numberOfTrailingZeros_0f7a4 : MethodName := ⟨RJ6, "numberOfTrailingZeros", "(I)I"⟩
abbrev cJ6_bitCount_0f7a4 : ByteArray := prog_13_method_49_code
def yJ6_bitCount_0f7a4 : MethodName := ⟨RJ6, "bitCount", "(I)I"⟩
def RJ9 : String := "java/lang/Math"
def TJ9 : u_T := fun k => match k with
  | _ => ("", "", "", false)
def tyJ9 : Nat → FieldType := fun k => match k with
  | _ => .int
abbrev wsJ90 : List Cond := u_ws RJ9 TJ9 0
theorem nmJ9 : ∀ a, a < 0 → ∀ b, b < 0 → a ≠ b → (TJ9 a).2.1 ≠ (TJ9 b).2.1 := by decide +kernel
theorem tyJ9_ok : ∀ k, k < 0 → parseFieldDescriptor (TJ9 k).2.2.1 = some (tyJ9 k) := by decide +kernel
abbrev cJ9_max_7cf53 : ByteArray := prog_14_method_65_code
def yJ9_max_7cf53 : MethodName := ⟨RJ9, "max", "(II)I"⟩
abbrev cJ9_min_7cf53 : ByteArray := prog_14_method_69_code
def yJ9_min_7cf53 : MethodName := ⟨RJ9, "min", "(II)I"⟩
def RJ0 : String := "java/lang/String"
def TJ0 : u_T := fun k => match k with
  | _ => ("", "", "", false)
def tyJ0 : Nat → FieldType := fun k => match k with
  | _ => .int
abbrev wsJ00 : List Cond := u_ws RJ0 TJ0 0
theorem nmJ0 : ∀ a, a < 0 → ∀ b, b < 0 → a ≠ b → (TJ0 a).2.1 ≠ (TJ0 b).2.1 := by decide +kernel
theorem tyJ0_ok : ∀ k, k < 0 → parseFieldDescriptor (TJ0 k).2.2.1 = some (tyJ0 k) := by decide +kernel
def RL : String := "ValveWalkLaw"
abbrev cL_addNode : ByteArray := method_3_code
def yL_addNode : MethodName := ⟨RL, "addNode", "(LValveWalk;Z[J)I"⟩
abbrev cL_addPipe : ByteArray := method_4_code
def yL_addPipe : MethodName := ⟨RL, "addPipe", "(LValveWalk;IIII[J)I"⟩
abbrev cL_addValve : ByteArray := method_5_code
def yL_addValve : MethodName := ⟨RL, "addValve", "(LValveWalk;II[J)I"⟩
abbrev cL_setSource : ByteArray := method_6_code
def yL_setSource : MethodName := ⟨RL, "setSource", "(LValveWalk;IZ[J)I"⟩
abbrev cL_setStuck : ByteArray := method_7_code
def yL_setStuck : MethodName := ⟨RL, "setStuck", "(LValveWalk;IZ[J)I"⟩
abbrev cL_turn : ByteArray := method_8_code
def yL_turn : MethodName := ⟨RL, "turn", "(LValveWalk;IZ[J)I"⟩
abbrev cL_isNodeDry : ByteArray := method_9_code
def yL_isNodeDry : MethodName := ⟨RL, "isNodeDry", "(LValveWalk;I[J)I"⟩
abbrev cL_isPipeDry : ByteArray := method_10_code
def yL_isPipeDry : MethodName := ⟨RL, "isPipeDry", "(LValveWalk;I[J)I"⟩
abbrev cL_segmentOfNode : ByteArray := method_11_code
def yL_segmentOfNode : MethodName := ⟨RL, "segmentOfNode", "(LValveWalk;I[J)I"⟩
abbrev cL_segmentOfPipe : ByteArray := method_12_code
def yL_segmentOfPipe : MethodName := ⟨RL, "segmentOfPipe", "(LValveWalk;I[J)I"⟩
abbrev cL_segmentByMerging : ByteArray := method_13_code
def yL_segmentByMerging : MethodName := ⟨RL, "segmentByMerging", "(LValveWalk;I[J)I"⟩
abbrev cL_ring : ByteArray := method_14_code
def yL_ring : MethodName := ⟨RL, "ring", "(LValveWalk;I[J)I"⟩
abbrev cL_cutOff : ByteArray := method_15_code
def yL_cutOff : MethodName := ⟨RL, "cutOff", "(LValveWalk;I[J)I"⟩
abbrev cL_fewest : ByteArray := method_16_code
def yL_fewest : MethodName := ⟨RL, "fewest", "(LValveWalk;I[J)I"⟩
abbrev cL_fewestByTrying : ByteArray := method_17_code
def yL_fewestByTrying : MethodName := ⟨RL, "fewestByTrying", "(LValveWalk;I[J)I"⟩
abbrev cL_distance : ByteArray := method_18_code
def yL_distance : MethodName := ⟨RL, "distance", "(LValveWalk;I[J)I"⟩
abbrev cL_flushAt : ByteArray := method_19_code
def yL_flushAt : MethodName := ⟨RL, "flushAt", "(LValveWalk;I[J)I"⟩
abbrev cL_walk : ByteArray := method_20_code
def yL_walk : MethodName := ⟨RL, "walk", "(LValveWalk;II[J)I"⟩
abbrev cL_law : ByteArray := code
def yL_law : MethodName := ⟨RL, "law", "([I)Z"⟩
def wsX0_init : List Cond := .code yX0_init cX0_init 2 none :: ([.methodLink RX0 3 objectInit, .instanceMethod objectInit, .code objectInit ⟨#[0xb1]⟩ 1 none, .arrayClass .int, .fieldLink RX0 9 "ValveWalk$Breaks" "pipeRegions" "[I", .fieldLink RX0 15 "ValveWalk$Breaks" "nodeRegions" "[I", .fieldLink RX0 18 "ValveWalk$Breaks" "ways" "[I", .fieldLink RX0 21 "ValveWalk$Breaks" "crossed" "[I", .fieldLink RX0 24 "ValveWalk$Breaks" "directions" "[I", .fieldLink RX0 27 "ValveWalk$Breaks" "network" "LValveWalk$Network;"] ++ wsX00)
def wsX5_partOfPipe : List Cond := .code yX5_partOfPipe cX5_partOfPipe 1 (some .int) :: ([])
def wsX2_bounding : List Cond := .code yX2_bounding cX2_bounding 1 (some .int) :: ([.fieldLink RX2 63 "ValveWalk$Network" "stuck" "I", .fieldLink RX2 66 "ValveWalk$Network" "shut" "I"] ++ wsX20)
def wsX2_reach : List Cond := .code yX2_reach cX2_reach 8 (some .int) :: ([.fieldLink RX2 34 "ValveWalk$Network" "pipeCount" "I", .fieldLink RX2 21 "ValveWalk$Network" "valveBitAt" "[I", .fieldLink RX2 24 "ValveWalk$Network" "sidesAt" "[I"] ++ wsX20)
def wsX0_regionWith : List Cond := .code yX0_regionWith cX0_regionWith 2 (some .int) :: ([.fieldLink RX0 27 "ValveWalk$Breaks" "network" "LValveWalk$Network;", .methodLink RX0 38 yX2_bounding, .instanceMethod yX2_bounding, .selects RX2 yX2_bounding yX2_bounding, .initialized RX2, .code yX2_bounding cX2_bounding 1 (some .int), .fieldLink RX2 63 "ValveWalk$Network" "stuck" "I", .fieldLink RX2 66 "ValveWalk$Network" "shut" "I", .methodLink RX0 44 yX2_reach, .instanceMethod yX2_reach, .selects RX2 yX2_reach yX2_reach, .code yX2_reach cX2_reach 8 (some .int), .fieldLink RX2 34 "ValveWalk$Network" "pipeCount" "I", .fieldLink RX2 21 "ValveWalk$Network" "valveBitAt" "[I", .fieldLink RX2 24 "ValveWalk$Network" "sidesAt" "[I"] ++ wsX00 ++ wsX20)
def wsX0_regionOf : List Cond := .code yX0_regionOf cX0_regionOf 2 (some .int) :: ([.static yX5_partOfPipe, .initialized RX5, .code yX5_partOfPipe cX5_partOfPipe 1 (some .int), .methodLink RX0 35 yX0_regionWith, .instanceMethod yX0_regionWith, .selects RX0 yX0_regionWith yX0_regionWith, .initialized RX0, .code yX0_regionWith cX0_regionWith 2 (some .int), .fieldLink RX0 27 "ValveWalk$Breaks" "network" "LValveWalk$Network;", .methodLink RX0 38 yX2_bounding, .instanceMethod yX2_bounding, .selects RX2 yX2_bounding yX2_bounding, .initialized RX2, .code yX2_bounding cX2_bounding 1 (some .int), .fieldLink RX2 63 "ValveWalk$Network" "stuck" "I", .fieldLink RX2 66 "ValveWalk$Network" "shut" "I", .methodLink RX0 44 yX2_reach, .instanceMethod yX2_reach, .selects RX2 yX2_reach yX2_reach, .code yX2_reach cX2_reach 8 (some .int), .fieldLink RX2 34 "ValveWalk$Network" "pipeCount" "I", .fieldLink RX2 21 "ValveWalk$Network" "valveBitAt" "[I", .fieldLink RX2 24 "ValveWalk$Network" "sidesAt" "[I"] ++ wsX00 ++ wsX20)
def wsX2_sources : List Cond := .code yX2_sources cX2_sources 1 (some .int) :: ([.fieldLink RX2 40 "ValveWalk$Network" "sources" "I"] ++ wsX20)
def wsX0_regionsWithSources : List Cond := .code yX0_regionsWithSources cX0_regionsWithSources 1 (some .int) :: ([.fieldLink RX0 27 "ValveWalk$Breaks" "network" "LValveWalk$Network;", .methodLink RX0 48 yX2_sources, .instanceMethod yX2_sources, .selects RX2 yX2_sources yX2_sources, .initialized RX2, .code yX2_sources cX2_sources 1 (some .int), .fieldLink RX2 40 "ValveWalk$Network" "sources" "I", .methodLink RX0 38 yX2_bounding, .instanceMethod yX2_bounding, .selects RX2 yX2_bounding yX2_bounding, .code yX2_bounding cX2_bounding 1 (some .int), .fieldLink RX2 63 "ValveWalk$Network" "stuck" "I", .fieldLink RX2 66 "ValveWalk$Network" "shut" "I", .methodLink RX0 44 yX2_reach, .instanceMethod yX2_reach, .selects RX2 yX2_reach yX2_reach, .code yX2_reach cX2_reach 8 (some .int), .fieldLink RX2 34 "ValveWalk$Network" "pipeCount" "I", .fieldLink RX2 21 "ValveWalk$Network" "valveBitAt" "[I", .fieldLink RX2 24 "ValveWalk$Network" "sidesAt" "[I"] ++ wsX00 ++ wsX20)
def wsX2_valveCount : List Cond := .code yX2_valveCount cX2_valveCount 1 (some .int) :: ([.fieldLink RX2 37 "ValveWalk$Network" "valveCount" "I"] ++ wsX20)
def wsX2_pipeOfValve : List Cond := .code yX2_pipeOfValve cX2_pipeOfValve 2 (some .int) :: ([.fieldLink RX2 27 "ValveWalk$Network" "jointOf" "[I"] ++ wsX20)
def wsX5_hasBit : List Cond := .code yX5_hasBit cX5_hasBit 2 (some .boolean) :: ([])
def wsX2_nodeOfValve : List Cond := .code yX2_nodeOfValve cX2_nodeOfValve 2 (some .int) :: ([.fieldLink RX2 18 "ValveWalk$Network" "nodeAt" "[I", .fieldLink RX2 27 "ValveWalk$Network" "jointOf" "[I"] ++ wsX20)
def wsX2_closable : List Cond := .code yX2_closable cX2_closable 1 (some .int) :: ([.fieldLink RX2 37 "ValveWalk$Network" "valveCount" "I", .fieldLink RX2 66 "ValveWalk$Network" "shut" "I", .fieldLink RX2 63 "ValveWalk$Network" "stuck" "I"] ++ wsX20)
def wsX0_ringOf_r1 : List Cond := [Cond.fieldLink RX0 27 "ValveWalk$Breaks" "network" "LValveWalk$Network;", Cond.methodLink RX0 51 yX2_valveCount, Cond.instanceMethod yX2_valveCount, Cond.selects RX2 yX2_valveCount yX2_valveCount, Cond.initialized RX2, Cond.code yX2_valveCount cX2_valveCount 1 (some .int), Cond.fieldLink RX2 37 "ValveWalk$Network" "valveCount" "I", Cond.methodLink RX0 54 yX2_pipeOfValve, Cond.instanceMethod yX2_pipeOfValve, Cond.selects RX2 yX2_pipeOfValve yX2_pipeOfValve, Cond.code yX2_pipeOfValve cX2_pipeOfValve 2 (some .int), Cond.fieldLink RX2 27 "ValveWalk$Network" "jointOf" "[I", Cond.static yX5_partOfPipe, Cond.initialized RX5, Cond.code yX5_partOfPipe cX5_partOfPipe 1 (some .int), Cond.static yX5_hasBit, Cond.code yX5_hasBit cX5_hasBit 2 (some .boolean), Cond.methodLink RX0 61 yX2_nodeOfValve, Cond.instanceMethod yX2_nodeOfValve, Cond.selects RX2 yX2_nodeOfValve yX2_nodeOfValve, Cond.code yX2_nodeOfValve cX2_nodeOfValve 2 (some .int), Cond.fieldLink RX2 18 "ValveWalk$Network" "nodeAt" "[I", Cond.methodLink RX0 64 yX2_closable, Cond.instanceMethod yX2_closable]
def wsX0_ringOf_r2 : List Cond := [Cond.selects RX2 yX2_closable yX2_closable, Cond.code yX2_closable cX2_closable 1 (some .int), Cond.fieldLink RX2 66 "ValveWalk$Network" "shut" "I", Cond.fieldLink RX2 63 "ValveWalk$Network" "stuck" "I"]
def wsX0_ringOf : List Cond := .code yX0_ringOf cX0_ringOf 6 (some .int) :: ((wsX0_ringOf_r1 ++ wsX0_ringOf_r2) ++ wsX00 ++ wsX20)
def wsX2_wetBehind : List Cond := .code yX2_wetBehind cX2_wetBehind 2 (some .int) :: ([.fieldLink RX2 40 "ValveWalk$Network" "sources" "I", .fieldLink RX2 66 "ValveWalk$Network" "shut" "I", .methodLink RX2 72 yX2_reach, .instanceMethod yX2_reach, .selects RX2 yX2_reach yX2_reach, .initialized RX2, .code yX2_reach cX2_reach 8 (some .int), .fieldLink RX2 34 "ValveWalk$Network" "pipeCount" "I", .fieldLink RX2 21 "ValveWalk$Network" "valveBitAt" "[I", .fieldLink RX2 24 "ValveWalk$Network" "sidesAt" "[I"] ++ wsX20)
def wsX2_customersOf : List Cond := .code yX2_customersOf cX2_customersOf 4 (some .int) :: ([.fieldLink RX2 34 "ValveWalk$Network" "pipeCount" "I", .fieldLink RX2 15 "ValveWalk$Network" "customers" "[I", .static yX5_partOfPipe, .initialized RX5, .code yX5_partOfPipe cX5_partOfPipe 1 (some .int), .static yX5_hasBit, .code yX5_hasBit cX5_hasBit 2 (some .boolean)] ++ wsX20)
def wsX0_customersLost_r1 : List Cond := [Cond.fieldLink RX0 27 "ValveWalk$Breaks" "network" "LValveWalk$Network;", Cond.methodLink RX0 67 yX2_wetBehind, Cond.instanceMethod yX2_wetBehind, Cond.selects RX2 yX2_wetBehind yX2_wetBehind, Cond.initialized RX2, Cond.code yX2_wetBehind cX2_wetBehind 2 (some .int), Cond.fieldLink RX2 40 "ValveWalk$Network" "sources" "I", Cond.fieldLink RX2 66 "ValveWalk$Network" "shut" "I", Cond.methodLink RX2 72 yX2_reach, Cond.instanceMethod yX2_reach, Cond.selects RX2 yX2_reach yX2_reach, Cond.code yX2_reach cX2_reach 8 (some .int), Cond.fieldLink RX2 34 "ValveWalk$Network" "pipeCount" "I", Cond.fieldLink RX2 21 "ValveWalk$Network" "valveBitAt" "[I", Cond.fieldLink RX2 24 "ValveWalk$Network" "sidesAt" "[I", Cond.methodLink RX0 70 yX0_ringOf, Cond.instanceMethod yX0_ringOf, Cond.selects RX0 yX0_ringOf yX0_ringOf, Cond.initialized RX0, Cond.code yX0_ringOf cX0_ringOf 6 (some .int), Cond.methodLink RX0 51 yX2_valveCount, Cond.instanceMethod yX2_valveCount, Cond.selects RX2 yX2_valveCount yX2_valveCount, Cond.code yX2_valveCount cX2_valveCount 1 (some .int)]
def wsX0_customersLost_r2 : List Cond := [Cond.fieldLink RX2 37 "ValveWalk$Network" "valveCount" "I", Cond.methodLink RX0 54 yX2_pipeOfValve, Cond.instanceMethod yX2_pipeOfValve, Cond.selects RX2 yX2_pipeOfValve yX2_pipeOfValve, Cond.code yX2_pipeOfValve cX2_pipeOfValve 2 (some .int), Cond.fieldLink RX2 27 "ValveWalk$Network" "jointOf" "[I", Cond.static yX5_partOfPipe, Cond.initialized RX5, Cond.code yX5_partOfPipe cX5_partOfPipe 1 (some .int), Cond.static yX5_hasBit, Cond.code yX5_hasBit cX5_hasBit 2 (some .boolean), Cond.methodLink RX0 61 yX2_nodeOfValve, Cond.instanceMethod yX2_nodeOfValve, Cond.selects RX2 yX2_nodeOfValve yX2_nodeOfValve, Cond.code yX2_nodeOfValve cX2_nodeOfValve 2 (some .int), Cond.fieldLink RX2 18 "ValveWalk$Network" "nodeAt" "[I", Cond.methodLink RX0 64 yX2_closable, Cond.instanceMethod yX2_closable, Cond.selects RX2 yX2_closable yX2_closable, Cond.code yX2_closable cX2_closable 1 (some .int), Cond.fieldLink RX2 63 "ValveWalk$Network" "stuck" "I", Cond.methodLink RX0 73 yX2_customersOf, Cond.instanceMethod yX2_customersOf, Cond.selects RX2 yX2_customersOf yX2_customersOf]
def wsX0_customersLost_r3 : List Cond := [Cond.code yX2_customersOf cX2_customersOf 4 (some .int), Cond.fieldLink RX2 15 "ValveWalk$Network" "customers" "[I"]
def wsX0_customersLost : List Cond := .code yX0_customersLost cX0_customersLost 4 (some .int) :: ((wsX0_customersLost_r1 ++ (wsX0_customersLost_r2 ++ wsX0_customersLost_r3)) ++ wsX00 ++ wsX20)
def wsX0_findRegionsOfValves_r1 : List Cond := [Cond.fieldLink RX0 27 "ValveWalk$Breaks" "network" "LValveWalk$Network;", Cond.fieldLink RX0 9 "ValveWalk$Breaks" "pipeRegions" "[I", Cond.fieldLink RX0 15 "ValveWalk$Breaks" "nodeRegions" "[I", Cond.methodLink RX0 51 yX2_valveCount, Cond.instanceMethod yX2_valveCount, Cond.selects RX2 yX2_valveCount yX2_valveCount, Cond.initialized RX2, Cond.code yX2_valveCount cX2_valveCount 1 (some .int), Cond.fieldLink RX2 37 "ValveWalk$Network" "valveCount" "I", Cond.methodLink RX0 54 yX2_pipeOfValve, Cond.instanceMethod yX2_pipeOfValve, Cond.selects RX2 yX2_pipeOfValve yX2_pipeOfValve, Cond.code yX2_pipeOfValve cX2_pipeOfValve 2 (some .int), Cond.fieldLink RX2 27 "ValveWalk$Network" "jointOf" "[I", Cond.methodLink RX0 76 yX0_regionOf, Cond.instanceMethod yX0_regionOf, Cond.selects RX0 yX0_regionOf yX0_regionOf, Cond.initialized RX0, Cond.code yX0_regionOf cX0_regionOf 2 (some .int), Cond.static yX5_partOfPipe, Cond.initialized RX5, Cond.code yX5_partOfPipe cX5_partOfPipe 1 (some .int), Cond.methodLink RX0 35 yX0_regionWith, Cond.instanceMethod yX0_regionWith]
def wsX0_findRegionsOfValves_r2 : List Cond := [Cond.selects RX0 yX0_regionWith yX0_regionWith, Cond.code yX0_regionWith cX0_regionWith 2 (some .int), Cond.methodLink RX0 38 yX2_bounding, Cond.instanceMethod yX2_bounding, Cond.selects RX2 yX2_bounding yX2_bounding, Cond.code yX2_bounding cX2_bounding 1 (some .int), Cond.fieldLink RX2 63 "ValveWalk$Network" "stuck" "I", Cond.fieldLink RX2 66 "ValveWalk$Network" "shut" "I", Cond.methodLink RX0 44 yX2_reach, Cond.instanceMethod yX2_reach, Cond.selects RX2 yX2_reach yX2_reach, Cond.code yX2_reach cX2_reach 8 (some .int), Cond.fieldLink RX2 34 "ValveWalk$Network" "pipeCount" "I", Cond.fieldLink RX2 21 "ValveWalk$Network" "valveBitAt" "[I", Cond.fieldLink RX2 24 "ValveWalk$Network" "sidesAt" "[I", Cond.methodLink RX0 61 yX2_nodeOfValve, Cond.instanceMethod yX2_nodeOfValve, Cond.selects RX2 yX2_nodeOfValve yX2_nodeOfValve, Cond.code yX2_nodeOfValve cX2_nodeOfValve 2 (some .int), Cond.fieldLink RX2 18 "ValveWalk$Network" "nodeAt" "[I"]
def wsX0_findRegionsOfValves : List Cond := .code yX0_findRegionsOfValves cX0_findRegionsOfValves 2 none :: ((wsX0_findRegionsOfValves_r1 ++ wsX0_findRegionsOfValves_r2) ++ wsX00 ++ wsX20)
def wsX0_directionAcross : List Cond := .code yX0_directionAcross cX0_directionAcross 6 (some .int) :: ([.fieldLink RX0 9 "ValveWalk$Breaks" "pipeRegions" "[I", .fieldLink RX0 15 "ValveWalk$Breaks" "nodeRegions" "[I", .fieldLink RX0 27 "ValveWalk$Breaks" "network" "LValveWalk$Network;", .fieldLink RX0 18 "ValveWalk$Breaks" "ways" "[I", .methodLink RX0 64 yX2_closable, .instanceMethod yX2_closable, .selects RX2 yX2_closable yX2_closable, .initialized RX2, .code yX2_closable cX2_closable 1 (some .int), .fieldLink RX2 37 "ValveWalk$Network" "valveCount" "I", .fieldLink RX2 66 "ValveWalk$Network" "shut" "I", .fieldLink RX2 63 "ValveWalk$Network" "stuck" "I", .static yX5_hasBit, .initialized RX5, .code yX5_hasBit cX5_hasBit 2 (some .boolean)] ++ wsX00 ++ wsX20)
def wsX0_keepWayTo : List Cond := .code yX0_keepWayTo cX0_keepWayTo 8 none :: ([.fieldLink RX0 21 "ValveWalk$Breaks" "crossed" "[I", .fieldLink RX0 24 "ValveWalk$Breaks" "directions" "[I", .fieldLink RX0 15 "ValveWalk$Breaks" "nodeRegions" "[I", .fieldLink RX0 9 "ValveWalk$Breaks" "pipeRegions" "[I", .fieldLink RX0 18 "ValveWalk$Breaks" "ways" "[I"] ++ wsX00)
def wsX0_addWay_r1 : List Cond := [Cond.fieldLink RX0 27 "ValveWalk$Breaks" "network" "LValveWalk$Network;", Cond.fieldLink RX0 21 "ValveWalk$Breaks" "crossed" "[I", Cond.fieldLink RX0 24 "ValveWalk$Breaks" "directions" "[I", Cond.fieldLink RX0 9 "ValveWalk$Breaks" "pipeRegions" "[I", Cond.fieldLink RX0 15 "ValveWalk$Breaks" "nodeRegions" "[I", Cond.methodLink RX0 51 yX2_valveCount, Cond.instanceMethod yX2_valveCount, Cond.selects RX2 yX2_valveCount yX2_valveCount, Cond.initialized RX2, Cond.code yX2_valveCount cX2_valveCount 1 (some .int), Cond.fieldLink RX2 37 "ValveWalk$Network" "valveCount" "I", Cond.methodLink RX0 88 yX0_directionAcross, Cond.instanceMethod yX0_directionAcross, Cond.selects RX0 yX0_directionAcross yX0_directionAcross, Cond.initialized RX0, Cond.code yX0_directionAcross cX0_directionAcross 6 (some .int), Cond.fieldLink RX0 18 "ValveWalk$Breaks" "ways" "[I", Cond.methodLink RX0 64 yX2_closable, Cond.instanceMethod yX2_closable, Cond.selects RX2 yX2_closable yX2_closable, Cond.code yX2_closable cX2_closable 1 (some .int), Cond.fieldLink RX2 66 "ValveWalk$Network" "shut" "I", Cond.fieldLink RX2 63 "ValveWalk$Network" "stuck" "I", Cond.static yX5_hasBit]
def wsX0_addWay_r2 : List Cond := [Cond.initialized RX5, Cond.code yX5_hasBit cX5_hasBit 2 (some .boolean), Cond.methodLink RX0 91 yX0_keepWayTo, Cond.instanceMethod yX0_keepWayTo, Cond.selects RX0 yX0_keepWayTo yX0_keepWayTo, Cond.code yX0_keepWayTo cX0_keepWayTo 8 none]
def wsX0_addWay : List Cond := .code yX0_addWay cX0_addWay 9 (some .boolean) :: ((wsX0_addWay_r1 ++ wsX0_addWay_r2) ++ wsX00 ++ wsX20)
def wsX0_countWays_r1 : List Cond := [Cond.fieldLink RX0 18 "ValveWalk$Breaks" "ways" "[I", Cond.methodLink RX0 76 yX0_regionOf, Cond.instanceMethod yX0_regionOf, Cond.selects RX0 yX0_regionOf yX0_regionOf, Cond.initialized RX0, Cond.code yX0_regionOf cX0_regionOf 2 (some .int), Cond.static yX5_partOfPipe, Cond.initialized RX5, Cond.code yX5_partOfPipe cX5_partOfPipe 1 (some .int), Cond.methodLink RX0 35 yX0_regionWith, Cond.instanceMethod yX0_regionWith, Cond.selects RX0 yX0_regionWith yX0_regionWith, Cond.code yX0_regionWith cX0_regionWith 2 (some .int), Cond.fieldLink RX0 27 "ValveWalk$Breaks" "network" "LValveWalk$Network;", Cond.methodLink RX0 38 yX2_bounding, Cond.instanceMethod yX2_bounding, Cond.selects RX2 yX2_bounding yX2_bounding, Cond.initialized RX2, Cond.code yX2_bounding cX2_bounding 1 (some .int), Cond.fieldLink RX2 63 "ValveWalk$Network" "stuck" "I", Cond.fieldLink RX2 66 "ValveWalk$Network" "shut" "I", Cond.methodLink RX0 44 yX2_reach, Cond.instanceMethod yX2_reach, Cond.selects RX2 yX2_reach yX2_reach]
def wsX0_countWays_r2 : List Cond := [Cond.code yX2_reach cX2_reach 8 (some .int), Cond.fieldLink RX2 34 "ValveWalk$Network" "pipeCount" "I", Cond.fieldLink RX2 21 "ValveWalk$Network" "valveBitAt" "[I", Cond.fieldLink RX2 24 "ValveWalk$Network" "sidesAt" "[I", Cond.methodLink RX0 79 yX0_regionsWithSources, Cond.instanceMethod yX0_regionsWithSources, Cond.selects RX0 yX0_regionsWithSources yX0_regionsWithSources, Cond.code yX0_regionsWithSources cX0_regionsWithSources 1 (some .int), Cond.methodLink RX0 48 yX2_sources, Cond.instanceMethod yX2_sources, Cond.selects RX2 yX2_sources yX2_sources, Cond.code yX2_sources cX2_sources 1 (some .int), Cond.fieldLink RX2 40 "ValveWalk$Network" "sources" "I", Cond.methodLink RX0 82 yX0_findRegionsOfValves, Cond.instanceMethod yX0_findRegionsOfValves, Cond.selects RX0 yX0_findRegionsOfValves yX0_findRegionsOfValves, Cond.code yX0_findRegionsOfValves cX0_findRegionsOfValves 2 none, Cond.fieldLink RX0 9 "ValveWalk$Breaks" "pipeRegions" "[I", Cond.fieldLink RX0 15 "ValveWalk$Breaks" "nodeRegions" "[I", Cond.methodLink RX0 51 yX2_valveCount, Cond.instanceMethod yX2_valveCount, Cond.selects RX2 yX2_valveCount yX2_valveCount, Cond.code yX2_valveCount cX2_valveCount 1 (some .int), Cond.fieldLink RX2 37 "ValveWalk$Network" "valveCount" "I"]
def wsX0_countWays_r3 : List Cond := [Cond.methodLink RX0 54 yX2_pipeOfValve, Cond.instanceMethod yX2_pipeOfValve, Cond.selects RX2 yX2_pipeOfValve yX2_pipeOfValve, Cond.code yX2_pipeOfValve cX2_pipeOfValve 2 (some .int), Cond.fieldLink RX2 27 "ValveWalk$Network" "jointOf" "[I", Cond.methodLink RX0 61 yX2_nodeOfValve, Cond.instanceMethod yX2_nodeOfValve, Cond.selects RX2 yX2_nodeOfValve yX2_nodeOfValve, Cond.code yX2_nodeOfValve cX2_nodeOfValve 2 (some .int), Cond.fieldLink RX2 18 "ValveWalk$Network" "nodeAt" "[I", Cond.methodLink RX0 85 yX0_addWay, Cond.instanceMethod yX0_addWay, Cond.selects RX0 yX0_addWay yX0_addWay, Cond.code yX0_addWay cX0_addWay 9 (some .boolean), Cond.fieldLink RX0 21 "ValveWalk$Breaks" "crossed" "[I", Cond.fieldLink RX0 24 "ValveWalk$Breaks" "directions" "[I", Cond.methodLink RX0 88 yX0_directionAcross, Cond.instanceMethod yX0_directionAcross, Cond.selects RX0 yX0_directionAcross yX0_directionAcross, Cond.code yX0_directionAcross cX0_directionAcross 6 (some .int), Cond.methodLink RX0 64 yX2_closable, Cond.instanceMethod yX2_closable, Cond.selects RX2 yX2_closable yX2_closable, Cond.code yX2_closable cX2_closable 1 (some .int)]
def wsX0_countWays_r4 : List Cond := [Cond.static yX5_hasBit, Cond.code yX5_hasBit cX5_hasBit 2 (some .boolean), Cond.methodLink RX0 91 yX0_keepWayTo, Cond.instanceMethod yX0_keepWayTo, Cond.selects RX0 yX0_keepWayTo yX0_keepWayTo, Cond.code yX0_keepWayTo cX0_keepWayTo 8 none]
def wsX0_countWays : List Cond := .code yX0_countWays cX0_countWays 5 (some .int) :: ((wsX0_countWays_r1 ++ (wsX0_countWays_r2 ++ (wsX0_countWays_r3 ++ wsX0_countWays_r4))) ++ wsX00 ++ wsX20)
def wsX0_wetOver : List Cond := .code yX0_wetOver cX0_wetOver 8 (some .int) :: ([.fieldLink RX0 27 "ValveWalk$Breaks" "network" "LValveWalk$Network;", .fieldLink RX0 9 "ValveWalk$Breaks" "pipeRegions" "[I", .fieldLink RX0 15 "ValveWalk$Breaks" "nodeRegions" "[I", .methodLink RX0 51 yX2_valveCount, .instanceMethod yX2_valveCount, .selects RX2 yX2_valveCount yX2_valveCount, .initialized RX2, .code yX2_valveCount cX2_valveCount 1 (some .int), .fieldLink RX2 37 "ValveWalk$Network" "valveCount" "I", .static yX5_hasBit, .initialized RX5, .code yX5_hasBit cX5_hasBit 2 (some .boolean)] ++ wsX00 ++ wsX20)
def wsJ6_bitCount_0f7a4 : List Cond := .code yJ6_bitCount_0f7a4 cJ6_bitCount_0f7a4 1 (some .int) :: ([.constant RJ6 265 (1431655765), .constant RJ6 266 (858993459), .constant RJ6 267 (252645135)])
def wsX0_setBehind : List Cond := .code yX0_setBehind cX0_setBehind 5 (some .int) :: ([.methodLink RX0 101 yJ6_bitCount_0f7a4, .static yJ6_bitCount_0f7a4, .initialized RJ6, .code yJ6_bitCount_0f7a4 cJ6_bitCount_0f7a4 1 (some .int), .constant RJ6 265 (1431655765), .constant RJ6 266 (858993459), .constant RJ6 267 (252645135)])
def wsX0_trySets_r1 : List Cond := [Cond.fieldLink RX0 27 "ValveWalk$Breaks" "network" "LValveWalk$Network;", Cond.methodLink RX0 76 yX0_regionOf, Cond.instanceMethod yX0_regionOf, Cond.selects RX0 yX0_regionOf yX0_regionOf, Cond.initialized RX0, Cond.code yX0_regionOf cX0_regionOf 2 (some .int), Cond.static yX5_partOfPipe, Cond.initialized RX5, Cond.code yX5_partOfPipe cX5_partOfPipe 1 (some .int), Cond.methodLink RX0 35 yX0_regionWith, Cond.instanceMethod yX0_regionWith, Cond.selects RX0 yX0_regionWith yX0_regionWith, Cond.code yX0_regionWith cX0_regionWith 2 (some .int), Cond.methodLink RX0 38 yX2_bounding, Cond.instanceMethod yX2_bounding, Cond.selects RX2 yX2_bounding yX2_bounding, Cond.initialized RX2, Cond.code yX2_bounding cX2_bounding 1 (some .int), Cond.fieldLink RX2 63 "ValveWalk$Network" "stuck" "I", Cond.fieldLink RX2 66 "ValveWalk$Network" "shut" "I", Cond.methodLink RX0 44 yX2_reach, Cond.instanceMethod yX2_reach, Cond.selects RX2 yX2_reach yX2_reach, Cond.code yX2_reach cX2_reach 8 (some .int)]
def wsX0_trySets_r2 : List Cond := [Cond.fieldLink RX2 34 "ValveWalk$Network" "pipeCount" "I", Cond.fieldLink RX2 21 "ValveWalk$Network" "valveBitAt" "[I", Cond.fieldLink RX2 24 "ValveWalk$Network" "sidesAt" "[I", Cond.methodLink RX0 79 yX0_regionsWithSources, Cond.instanceMethod yX0_regionsWithSources, Cond.selects RX0 yX0_regionsWithSources yX0_regionsWithSources, Cond.code yX0_regionsWithSources cX0_regionsWithSources 1 (some .int), Cond.methodLink RX0 48 yX2_sources, Cond.instanceMethod yX2_sources, Cond.selects RX2 yX2_sources yX2_sources, Cond.code yX2_sources cX2_sources 1 (some .int), Cond.fieldLink RX2 40 "ValveWalk$Network" "sources" "I", Cond.methodLink RX0 82 yX0_findRegionsOfValves, Cond.instanceMethod yX0_findRegionsOfValves, Cond.selects RX0 yX0_findRegionsOfValves yX0_findRegionsOfValves, Cond.code yX0_findRegionsOfValves cX0_findRegionsOfValves 2 none, Cond.fieldLink RX0 9 "ValveWalk$Breaks" "pipeRegions" "[I", Cond.fieldLink RX0 15 "ValveWalk$Breaks" "nodeRegions" "[I", Cond.methodLink RX0 51 yX2_valveCount, Cond.instanceMethod yX2_valveCount, Cond.selects RX2 yX2_valveCount yX2_valveCount, Cond.code yX2_valveCount cX2_valveCount 1 (some .int), Cond.fieldLink RX2 37 "ValveWalk$Network" "valveCount" "I", Cond.methodLink RX0 54 yX2_pipeOfValve]
def wsX0_trySets_r3 : List Cond := [Cond.instanceMethod yX2_pipeOfValve, Cond.selects RX2 yX2_pipeOfValve yX2_pipeOfValve, Cond.code yX2_pipeOfValve cX2_pipeOfValve 2 (some .int), Cond.fieldLink RX2 27 "ValveWalk$Network" "jointOf" "[I", Cond.methodLink RX0 61 yX2_nodeOfValve, Cond.instanceMethod yX2_nodeOfValve, Cond.selects RX2 yX2_nodeOfValve yX2_nodeOfValve, Cond.code yX2_nodeOfValve cX2_nodeOfValve 2 (some .int), Cond.fieldLink RX2 18 "ValveWalk$Network" "nodeAt" "[I", Cond.methodLink RX0 64 yX2_closable, Cond.instanceMethod yX2_closable, Cond.selects RX2 yX2_closable yX2_closable, Cond.code yX2_closable cX2_closable 1 (some .int), Cond.methodLink RX0 95 yX0_wetOver, Cond.instanceMethod yX0_wetOver, Cond.selects RX0 yX0_wetOver yX0_wetOver, Cond.code yX0_wetOver cX0_wetOver 8 (some .int), Cond.static yX5_hasBit, Cond.code yX5_hasBit cX5_hasBit 2 (some .boolean), Cond.methodLink RX0 98 yX0_setBehind, Cond.static yX0_setBehind, Cond.code yX0_setBehind cX0_setBehind 5 (some .int), Cond.methodLink RX0 101 yJ6_bitCount_0f7a4, Cond.static yJ6_bitCount_0f7a4]
def wsX0_trySets_r4 : List Cond := [Cond.initialized RJ6, Cond.code yJ6_bitCount_0f7a4 cJ6_bitCount_0f7a4 1 (some .int), Cond.constant RJ6 265 (1431655765), Cond.constant RJ6 266 (858993459), Cond.constant RJ6 267 (252645135)]
def wsX0_trySets : List Cond := .code yX0_trySets cX0_trySets 9 (some .int) :: ((wsX0_trySets_r1 ++ (wsX0_trySets_r2 ++ (wsX0_trySets_r3 ++ wsX0_trySets_r4))) ++ wsX00 ++ wsX20)
def wsX1_init : List Cond := .code yX1_init cX1_init 2 none :: ([.methodLink RX1 3 objectInit, .instanceMethod objectInit, .code objectInit ⟨#[0xb1]⟩ 1 none, .arrayClass .int, .fieldLink RX1 9 "ValveWalk$Flushing" "distances" "[I", .fieldLink RX1 15 "ValveWalk$Flushing" "network" "LValveWalk$Network;"] ++ wsX10)
def wsX2_nodeCount : List Cond := .code yX2_nodeCount cX2_nodeCount 1 (some .int) :: ([.fieldLink RX2 30 "ValveWalk$Network" "nodeCount" "I"] ++ wsX20)
def wsX2_pipeCount : List Cond := .code yX2_pipeCount cX2_pipeCount 1 (some .int) :: ([.fieldLink RX2 34 "ValveWalk$Network" "pipeCount" "I"] ++ wsX20)
def wsX2_valveBitAt : List Cond := .code yX2_valveBitAt cX2_valveBitAt 3 (some .int) :: ([.fieldLink RX2 21 "ValveWalk$Network" "valveBitAt" "[I"] ++ wsX20)
def wsX2_isShutAt : List Cond := .code yX2_isShutAt cX2_isShutAt 3 (some .boolean) :: ([.fieldLink RX2 66 "ValveWalk$Network" "shut" "I", .methodLink RX2 69 yX2_valveBitAt, .instanceMethod yX2_valveBitAt, .selects RX2 yX2_valveBitAt yX2_valveBitAt, .initialized RX2, .code yX2_valveBitAt cX2_valveBitAt 3 (some .int), .fieldLink RX2 21 "ValveWalk$Network" "valveBitAt" "[I"] ++ wsX20)
def wsX2_nodeAt : List Cond := .code yX2_nodeAt cX2_nodeAt 3 (some .int) :: ([.fieldLink RX2 18 "ValveWalk$Network" "nodeAt" "[I"] ++ wsX20)
def wsX2_lengthOf : List Cond := .code yX2_lengthOf cX2_lengthOf 2 (some .int) :: ([.fieldLink RX2 9 "ValveWalk$Network" "lengths" "[I"] ++ wsX20)
def wsX1_shorten : List Cond := .code yX1_shorten cX1_shorten 5 none :: ([.fieldLink RX1 15 "ValveWalk$Flushing" "network" "LValveWalk$Network;", .fieldLink RX1 9 "ValveWalk$Flushing" "distances" "[I", .methodLink RX1 54 Lib.Math.min.name, .static Lib.Math.min.name, .initialized "java/lang/Math", .code Lib.Math.min.name Lib.Math.min.code 2 (some .int), .methodLink RX1 46 yX2_nodeAt, .instanceMethod yX2_nodeAt, .selects RX2 yX2_nodeAt yX2_nodeAt, .initialized RX2, .code yX2_nodeAt cX2_nodeAt 3 (some .int), .fieldLink RX2 18 "ValveWalk$Network" "nodeAt" "[I", .methodLink RX1 50 yX2_lengthOf, .instanceMethod yX2_lengthOf, .selects RX2 yX2_lengthOf yX2_lengthOf, .code yX2_lengthOf cX2_lengthOf 2 (some .int), .fieldLink RX2 9 "ValveWalk$Network" "lengths" "[I"] ++ wsX10 ++ wsX20)
def wsX1_measure_r1 : List Cond := [Cond.fieldLink RX1 9 "ValveWalk$Flushing" "distances" "[I", Cond.fieldLink RX1 15 "ValveWalk$Flushing" "network" "LValveWalk$Network;", Cond.constant RX1 22 (1000000), Cond.methodLink RX1 23 yX2_sources, Cond.instanceMethod yX2_sources, Cond.selects RX2 yX2_sources yX2_sources, Cond.initialized RX2, Cond.code yX2_sources cX2_sources 1 (some .int), Cond.fieldLink RX2 40 "ValveWalk$Network" "sources" "I", Cond.static yX5_hasBit, Cond.initialized RX5, Cond.code yX5_hasBit cX5_hasBit 2 (some .boolean), Cond.methodLink RX1 33 yX2_nodeCount, Cond.instanceMethod yX2_nodeCount, Cond.selects RX2 yX2_nodeCount yX2_nodeCount, Cond.code yX2_nodeCount cX2_nodeCount 1 (some .int), Cond.fieldLink RX2 30 "ValveWalk$Network" "nodeCount" "I", Cond.methodLink RX1 36 yX2_pipeCount, Cond.instanceMethod yX2_pipeCount, Cond.selects RX2 yX2_pipeCount yX2_pipeCount, Cond.code yX2_pipeCount cX2_pipeCount 1 (some .int), Cond.fieldLink RX2 34 "ValveWalk$Network" "pipeCount" "I", Cond.methodLink RX1 39 yX2_isShutAt, Cond.instanceMethod yX2_isShutAt]
def wsX1_measure_r2 : List Cond := [Cond.selects RX2 yX2_isShutAt yX2_isShutAt, Cond.code yX2_isShutAt cX2_isShutAt 3 (some .boolean), Cond.fieldLink RX2 66 "ValveWalk$Network" "shut" "I", Cond.methodLink RX2 69 yX2_valveBitAt, Cond.instanceMethod yX2_valveBitAt, Cond.selects RX2 yX2_valveBitAt yX2_valveBitAt, Cond.code yX2_valveBitAt cX2_valveBitAt 3 (some .int), Cond.fieldLink RX2 21 "ValveWalk$Network" "valveBitAt" "[I", Cond.methodLink RX1 42 yX1_shorten, Cond.instanceMethod yX1_shorten, Cond.selects RX1 yX1_shorten yX1_shorten, Cond.initialized RX1, Cond.code yX1_shorten cX1_shorten 5 none, Cond.methodLink RX1 54 Lib.Math.min.name, Cond.static Lib.Math.min.name, Cond.initialized "java/lang/Math", Cond.code Lib.Math.min.name Lib.Math.min.code 2 (some .int), Cond.methodLink RX1 46 yX2_nodeAt, Cond.instanceMethod yX2_nodeAt, Cond.selects RX2 yX2_nodeAt yX2_nodeAt, Cond.code yX2_nodeAt cX2_nodeAt 3 (some .int), Cond.fieldLink RX2 18 "ValveWalk$Network" "nodeAt" "[I", Cond.methodLink RX1 50 yX2_lengthOf, Cond.instanceMethod yX2_lengthOf]
def wsX1_measure_r3 : List Cond := [Cond.selects RX2 yX2_lengthOf yX2_lengthOf, Cond.code yX2_lengthOf cX2_lengthOf 2 (some .int), Cond.fieldLink RX2 9 "ValveWalk$Network" "lengths" "[I"]
def wsX1_measure : List Cond := .code yX1_measure cX1_measure 3 none :: ((wsX1_measure_r1 ++ (wsX1_measure_r2 ++ wsX1_measure_r3)) ++ wsX10 ++ wsX20)
def wsX1_distanceOf_r1 : List Cond := [Cond.fieldLink RX1 9 "ValveWalk$Flushing" "distances" "[I", Cond.constant RX1 22 (1000000), Cond.methodLink RX1 19 yX1_measure, Cond.instanceMethod yX1_measure, Cond.selects RX1 yX1_measure yX1_measure, Cond.initialized RX1, Cond.code yX1_measure cX1_measure 3 none, Cond.fieldLink RX1 15 "ValveWalk$Flushing" "network" "LValveWalk$Network;", Cond.methodLink RX1 23 yX2_sources, Cond.instanceMethod yX2_sources, Cond.selects RX2 yX2_sources yX2_sources, Cond.initialized RX2, Cond.code yX2_sources cX2_sources 1 (some .int), Cond.fieldLink RX2 40 "ValveWalk$Network" "sources" "I", Cond.static yX5_hasBit, Cond.initialized RX5, Cond.code yX5_hasBit cX5_hasBit 2 (some .boolean), Cond.methodLink RX1 33 yX2_nodeCount, Cond.instanceMethod yX2_nodeCount, Cond.selects RX2 yX2_nodeCount yX2_nodeCount, Cond.code yX2_nodeCount cX2_nodeCount 1 (some .int), Cond.fieldLink RX2 30 "ValveWalk$Network" "nodeCount" "I", Cond.methodLink RX1 36 yX2_pipeCount, Cond.instanceMethod yX2_pipeCount]
def wsX1_distanceOf_r2 : List Cond := [Cond.selects RX2 yX2_pipeCount yX2_pipeCount, Cond.code yX2_pipeCount cX2_pipeCount 1 (some .int), Cond.fieldLink RX2 34 "ValveWalk$Network" "pipeCount" "I", Cond.methodLink RX1 39 yX2_isShutAt, Cond.instanceMethod yX2_isShutAt, Cond.selects RX2 yX2_isShutAt yX2_isShutAt, Cond.code yX2_isShutAt cX2_isShutAt 3 (some .boolean), Cond.fieldLink RX2 66 "ValveWalk$Network" "shut" "I", Cond.methodLink RX2 69 yX2_valveBitAt, Cond.instanceMethod yX2_valveBitAt, Cond.selects RX2 yX2_valveBitAt yX2_valveBitAt, Cond.code yX2_valveBitAt cX2_valveBitAt 3 (some .int), Cond.fieldLink RX2 21 "ValveWalk$Network" "valveBitAt" "[I", Cond.methodLink RX1 42 yX1_shorten, Cond.instanceMethod yX1_shorten, Cond.selects RX1 yX1_shorten yX1_shorten, Cond.code yX1_shorten cX1_shorten 5 none, Cond.methodLink RX1 54 Lib.Math.min.name, Cond.static Lib.Math.min.name, Cond.initialized "java/lang/Math", Cond.code Lib.Math.min.name Lib.Math.min.code 2 (some .int), Cond.methodLink RX1 46 yX2_nodeAt, Cond.instanceMethod yX2_nodeAt, Cond.selects RX2 yX2_nodeAt yX2_nodeAt]
def wsX1_distanceOf_r3 : List Cond := [Cond.code yX2_nodeAt cX2_nodeAt 3 (some .int), Cond.fieldLink RX2 18 "ValveWalk$Network" "nodeAt" "[I", Cond.methodLink RX1 50 yX2_lengthOf, Cond.instanceMethod yX2_lengthOf, Cond.selects RX2 yX2_lengthOf yX2_lengthOf, Cond.code yX2_lengthOf cX2_lengthOf 2 (some .int), Cond.fieldLink RX2 9 "ValveWalk$Network" "lengths" "[I"]
def wsX1_distanceOf : List Cond := .code yX1_distanceOf cX1_distanceOf 2 (some .int) :: ((wsX1_distanceOf_r1 ++ (wsX1_distanceOf_r2 ++ wsX1_distanceOf_r3)) ++ wsX10 ++ wsX20)
def wsX1_distanceAt : List Cond := .code yX1_distanceAt cX1_distanceAt 3 (some .int) :: ([.fieldLink RX1 15 "ValveWalk$Flushing" "network" "LValveWalk$Network;", .constant RX1 22 (1000000), .fieldLink RX1 9 "ValveWalk$Flushing" "distances" "[I", .methodLink RX1 39 yX2_isShutAt, .instanceMethod yX2_isShutAt, .selects RX2 yX2_isShutAt yX2_isShutAt, .initialized RX2, .code yX2_isShutAt cX2_isShutAt 3 (some .boolean), .fieldLink RX2 66 "ValveWalk$Network" "shut" "I", .methodLink RX2 69 yX2_valveBitAt, .instanceMethod yX2_valveBitAt, .selects RX2 yX2_valveBitAt yX2_valveBitAt, .code yX2_valveBitAt cX2_valveBitAt 3 (some .int), .fieldLink RX2 21 "ValveWalk$Network" "valveBitAt" "[I", .methodLink RX1 46 yX2_nodeAt, .instanceMethod yX2_nodeAt, .selects RX2 yX2_nodeAt yX2_nodeAt, .code yX2_nodeAt cX2_nodeAt 3 (some .int), .fieldLink RX2 18 "ValveWalk$Network" "nodeAt" "[I"] ++ wsX10 ++ wsX20)
def wsX1_endOf : List Cond := .code yX1_endOf cX1_endOf 2 (some .int) :: ([.methodLink RX1 72 yX1_distanceAt, .instanceMethod yX1_distanceAt, .selects RX1 yX1_distanceAt yX1_distanceAt, .initialized RX1, .code yX1_distanceAt cX1_distanceAt 3 (some .int), .fieldLink RX1 15 "ValveWalk$Flushing" "network" "LValveWalk$Network;", .constant RX1 22 (1000000), .fieldLink RX1 9 "ValveWalk$Flushing" "distances" "[I", .methodLink RX1 39 yX2_isShutAt, .instanceMethod yX2_isShutAt, .selects RX2 yX2_isShutAt yX2_isShutAt, .initialized RX2, .code yX2_isShutAt cX2_isShutAt 3 (some .boolean), .fieldLink RX2 66 "ValveWalk$Network" "shut" "I", .methodLink RX2 69 yX2_valveBitAt, .instanceMethod yX2_valveBitAt, .selects RX2 yX2_valveBitAt yX2_valveBitAt, .code yX2_valveBitAt cX2_valveBitAt 3 (some .int), .fieldLink RX2 21 "ValveWalk$Network" "valveBitAt" "[I", .methodLink RX1 46 yX2_nodeAt, .instanceMethod yX2_nodeAt, .selects RX2 yX2_nodeAt yX2_nodeAt, .code yX2_nodeAt cX2_nodeAt 3 (some .int), .fieldLink RX2 18 "ValveWalk$Network" "nodeAt" "[I"] ++ wsX10 ++ wsX20)
def wsX1_isFlushed_r1 : List Cond := [Cond.constant RX1 22 (1000000), Cond.methodLink RX1 66 yX1_endOf, Cond.instanceMethod yX1_endOf, Cond.selects RX1 yX1_endOf yX1_endOf, Cond.initialized RX1, Cond.code yX1_endOf cX1_endOf 2 (some .int), Cond.methodLink RX1 72 yX1_distanceAt, Cond.instanceMethod yX1_distanceAt, Cond.selects RX1 yX1_distanceAt yX1_distanceAt, Cond.code yX1_distanceAt cX1_distanceAt 3 (some .int), Cond.fieldLink RX1 15 "ValveWalk$Flushing" "network" "LValveWalk$Network;", Cond.fieldLink RX1 9 "ValveWalk$Flushing" "distances" "[I", Cond.methodLink RX1 39 yX2_isShutAt, Cond.instanceMethod yX2_isShutAt, Cond.selects RX2 yX2_isShutAt yX2_isShutAt, Cond.initialized RX2, Cond.code yX2_isShutAt cX2_isShutAt 3 (some .boolean), Cond.fieldLink RX2 66 "ValveWalk$Network" "shut" "I", Cond.methodLink RX2 69 yX2_valveBitAt, Cond.instanceMethod yX2_valveBitAt, Cond.selects RX2 yX2_valveBitAt yX2_valveBitAt, Cond.code yX2_valveBitAt cX2_valveBitAt 3 (some .int), Cond.fieldLink RX2 21 "ValveWalk$Network" "valveBitAt" "[I", Cond.methodLink RX1 46 yX2_nodeAt]
def wsX1_isFlushed_r2 : List Cond := [Cond.instanceMethod yX2_nodeAt, Cond.selects RX2 yX2_nodeAt yX2_nodeAt, Cond.code yX2_nodeAt cX2_nodeAt 3 (some .int), Cond.fieldLink RX2 18 "ValveWalk$Network" "nodeAt" "[I"]
def wsX1_isFlushed : List Cond := .code yX1_isFlushed cX1_isFlushed 2 (some .boolean) :: ((wsX1_isFlushed_r1 ++ wsX1_isFlushed_r2) ++ wsX10 ++ wsX20)
def wsX1_isAhead_r1 : List Cond := [Cond.methodLink RX1 66 yX1_endOf, Cond.instanceMethod yX1_endOf, Cond.selects RX1 yX1_endOf yX1_endOf, Cond.initialized RX1, Cond.code yX1_endOf cX1_endOf 2 (some .int), Cond.methodLink RX1 72 yX1_distanceAt, Cond.instanceMethod yX1_distanceAt, Cond.selects RX1 yX1_distanceAt yX1_distanceAt, Cond.code yX1_distanceAt cX1_distanceAt 3 (some .int), Cond.fieldLink RX1 15 "ValveWalk$Flushing" "network" "LValveWalk$Network;", Cond.constant RX1 22 (1000000), Cond.fieldLink RX1 9 "ValveWalk$Flushing" "distances" "[I", Cond.methodLink RX1 39 yX2_isShutAt, Cond.instanceMethod yX2_isShutAt, Cond.selects RX2 yX2_isShutAt yX2_isShutAt, Cond.initialized RX2, Cond.code yX2_isShutAt cX2_isShutAt 3 (some .boolean), Cond.fieldLink RX2 66 "ValveWalk$Network" "shut" "I", Cond.methodLink RX2 69 yX2_valveBitAt, Cond.instanceMethod yX2_valveBitAt, Cond.selects RX2 yX2_valveBitAt yX2_valveBitAt, Cond.code yX2_valveBitAt cX2_valveBitAt 3 (some .int), Cond.fieldLink RX2 21 "ValveWalk$Network" "valveBitAt" "[I", Cond.methodLink RX1 46 yX2_nodeAt]
def wsX1_isAhead_r2 : List Cond := [Cond.instanceMethod yX2_nodeAt, Cond.selects RX2 yX2_nodeAt yX2_nodeAt, Cond.code yX2_nodeAt cX2_nodeAt 3 (some .int), Cond.fieldLink RX2 18 "ValveWalk$Network" "nodeAt" "[I"]
def wsX1_isAhead : List Cond := .code yX1_isAhead cX1_isAhead 4 (some .boolean) :: ((wsX1_isAhead_r1 ++ wsX1_isAhead_r2) ++ wsX10 ++ wsX20)
def wsX1_placeOf_r1 : List Cond := [Cond.fieldLink RX1 15 "ValveWalk$Flushing" "network" "LValveWalk$Network;", Cond.methodLink RX1 36 yX2_pipeCount, Cond.instanceMethod yX2_pipeCount, Cond.selects RX2 yX2_pipeCount yX2_pipeCount, Cond.initialized RX2, Cond.code yX2_pipeCount cX2_pipeCount 1 (some .int), Cond.fieldLink RX2 34 "ValveWalk$Network" "pipeCount" "I", Cond.methodLink RX1 69 yX1_isAhead, Cond.instanceMethod yX1_isAhead, Cond.selects RX1 yX1_isAhead yX1_isAhead, Cond.initialized RX1, Cond.code yX1_isAhead cX1_isAhead 4 (some .boolean), Cond.methodLink RX1 66 yX1_endOf, Cond.instanceMethod yX1_endOf, Cond.selects RX1 yX1_endOf yX1_endOf, Cond.code yX1_endOf cX1_endOf 2 (some .int), Cond.methodLink RX1 72 yX1_distanceAt, Cond.instanceMethod yX1_distanceAt, Cond.selects RX1 yX1_distanceAt yX1_distanceAt, Cond.code yX1_distanceAt cX1_distanceAt 3 (some .int), Cond.constant RX1 22 (1000000), Cond.fieldLink RX1 9 "ValveWalk$Flushing" "distances" "[I", Cond.methodLink RX1 39 yX2_isShutAt, Cond.instanceMethod yX2_isShutAt]
def wsX1_placeOf_r2 : List Cond := [Cond.selects RX2 yX2_isShutAt yX2_isShutAt, Cond.code yX2_isShutAt cX2_isShutAt 3 (some .boolean), Cond.fieldLink RX2 66 "ValveWalk$Network" "shut" "I", Cond.methodLink RX2 69 yX2_valveBitAt, Cond.instanceMethod yX2_valveBitAt, Cond.selects RX2 yX2_valveBitAt yX2_valveBitAt, Cond.code yX2_valveBitAt cX2_valveBitAt 3 (some .int), Cond.fieldLink RX2 21 "ValveWalk$Network" "valveBitAt" "[I", Cond.methodLink RX1 46 yX2_nodeAt, Cond.instanceMethod yX2_nodeAt, Cond.selects RX2 yX2_nodeAt yX2_nodeAt, Cond.code yX2_nodeAt cX2_nodeAt 3 (some .int), Cond.fieldLink RX2 18 "ValveWalk$Network" "nodeAt" "[I"]
def wsX1_placeOf : List Cond := .code yX1_placeOf cX1_placeOf 4 (some .int) :: ((wsX1_placeOf_r1 ++ wsX1_placeOf_r2) ++ wsX10 ++ wsX20)
def wsX1_pipeAndEndAt_r1 : List Cond := [Cond.fieldLink RX1 15 "ValveWalk$Flushing" "network" "LValveWalk$Network;", Cond.methodLink RX1 19 yX1_measure, Cond.instanceMethod yX1_measure, Cond.selects RX1 yX1_measure yX1_measure, Cond.initialized RX1, Cond.code yX1_measure cX1_measure 3 none, Cond.fieldLink RX1 9 "ValveWalk$Flushing" "distances" "[I", Cond.constant RX1 22 (1000000), Cond.methodLink RX1 23 yX2_sources, Cond.instanceMethod yX2_sources, Cond.selects RX2 yX2_sources yX2_sources, Cond.initialized RX2, Cond.code yX2_sources cX2_sources 1 (some .int), Cond.fieldLink RX2 40 "ValveWalk$Network" "sources" "I", Cond.static yX5_hasBit, Cond.initialized RX5, Cond.code yX5_hasBit cX5_hasBit 2 (some .boolean), Cond.methodLink RX1 33 yX2_nodeCount, Cond.instanceMethod yX2_nodeCount, Cond.selects RX2 yX2_nodeCount yX2_nodeCount, Cond.code yX2_nodeCount cX2_nodeCount 1 (some .int), Cond.fieldLink RX2 30 "ValveWalk$Network" "nodeCount" "I", Cond.methodLink RX1 36 yX2_pipeCount, Cond.instanceMethod yX2_pipeCount]
def wsX1_pipeAndEndAt_r2 : List Cond := [Cond.selects RX2 yX2_pipeCount yX2_pipeCount, Cond.code yX2_pipeCount cX2_pipeCount 1 (some .int), Cond.fieldLink RX2 34 "ValveWalk$Network" "pipeCount" "I", Cond.methodLink RX1 39 yX2_isShutAt, Cond.instanceMethod yX2_isShutAt, Cond.selects RX2 yX2_isShutAt yX2_isShutAt, Cond.code yX2_isShutAt cX2_isShutAt 3 (some .boolean), Cond.fieldLink RX2 66 "ValveWalk$Network" "shut" "I", Cond.methodLink RX2 69 yX2_valveBitAt, Cond.instanceMethod yX2_valveBitAt, Cond.selects RX2 yX2_valveBitAt yX2_valveBitAt, Cond.code yX2_valveBitAt cX2_valveBitAt 3 (some .int), Cond.fieldLink RX2 21 "ValveWalk$Network" "valveBitAt" "[I", Cond.methodLink RX1 42 yX1_shorten, Cond.instanceMethod yX1_shorten, Cond.selects RX1 yX1_shorten yX1_shorten, Cond.code yX1_shorten cX1_shorten 5 none, Cond.methodLink RX1 54 Lib.Math.min.name, Cond.static Lib.Math.min.name, Cond.initialized "java/lang/Math", Cond.code Lib.Math.min.name Lib.Math.min.code 2 (some .int), Cond.methodLink RX1 46 yX2_nodeAt, Cond.instanceMethod yX2_nodeAt, Cond.selects RX2 yX2_nodeAt yX2_nodeAt]
def wsX1_pipeAndEndAt_r3 : List Cond := [Cond.code yX2_nodeAt cX2_nodeAt 3 (some .int), Cond.fieldLink RX2 18 "ValveWalk$Network" "nodeAt" "[I", Cond.methodLink RX1 50 yX2_lengthOf, Cond.instanceMethod yX2_lengthOf, Cond.selects RX2 yX2_lengthOf yX2_lengthOf, Cond.code yX2_lengthOf cX2_lengthOf 2 (some .int), Cond.fieldLink RX2 9 "ValveWalk$Network" "lengths" "[I", Cond.methodLink RX1 59 yX1_isFlushed, Cond.instanceMethod yX1_isFlushed, Cond.selects RX1 yX1_isFlushed yX1_isFlushed, Cond.code yX1_isFlushed cX1_isFlushed 2 (some .boolean), Cond.methodLink RX1 66 yX1_endOf, Cond.instanceMethod yX1_endOf, Cond.selects RX1 yX1_endOf yX1_endOf, Cond.code yX1_endOf cX1_endOf 2 (some .int), Cond.methodLink RX1 72 yX1_distanceAt, Cond.instanceMethod yX1_distanceAt, Cond.selects RX1 yX1_distanceAt yX1_distanceAt, Cond.code yX1_distanceAt cX1_distanceAt 3 (some .int), Cond.methodLink RX1 63 yX1_placeOf, Cond.instanceMethod yX1_placeOf, Cond.selects RX1 yX1_placeOf yX1_placeOf, Cond.code yX1_placeOf cX1_placeOf 4 (some .int), Cond.methodLink RX1 69 yX1_isAhead]
def wsX1_pipeAndEndAt_r4 : List Cond := [Cond.instanceMethod yX1_isAhead, Cond.selects RX1 yX1_isAhead yX1_isAhead, Cond.code yX1_isAhead cX1_isAhead 4 (some .boolean)]
def wsX1_pipeAndEndAt : List Cond := .code yX1_pipeAndEndAt cX1_pipeAndEndAt 3 (some .int) :: ((wsX1_pipeAndEndAt_r1 ++ (wsX1_pipeAndEndAt_r2 ++ (wsX1_pipeAndEndAt_r3 ++ wsX1_pipeAndEndAt_r4))) ++ wsX10 ++ wsX20)
def wsX2_init : List Cond := .code yX2_init cX2_init 1 none :: ([.methodLink RX2 3 objectInit, .instanceMethod objectInit, .code objectInit ⟨#[0xb1]⟩ 1 none, .arrayClass .int, .fieldLink RX2 9 "ValveWalk$Network" "lengths" "[I", .fieldLink RX2 15 "ValveWalk$Network" "customers" "[I", .fieldLink RX2 18 "ValveWalk$Network" "nodeAt" "[I", .fieldLink RX2 21 "ValveWalk$Network" "valveBitAt" "[I", .fieldLink RX2 24 "ValveWalk$Network" "sidesAt" "[I", .fieldLink RX2 27 "ValveWalk$Network" "jointOf" "[I"] ++ wsX20)
def wsX5_withBit : List Cond := .code yX5_withBit cX5_withBit 3 (some .int) :: ([])
def wsX2_markSource : List Cond := .code yX2_markSource cX2_markSource 4 (some .boolean) :: ([.fieldLink RX2 40 "ValveWalk$Network" "sources" "I", .static yX5_hasBit, .initialized RX5, .code yX5_hasBit cX5_hasBit 2 (some .boolean), .static yX5_withBit, .code yX5_withBit cX5_withBit 3 (some .int)] ++ wsX20)
def wsX2_putNode : List Cond := .code yX2_putNode cX2_putNode 3 (some .int) :: ([.fieldLink RX2 30 "ValveWalk$Network" "nodeCount" "I", .methodLink RX2 43 yX2_markSource, .instanceMethod yX2_markSource, .selects RX2 yX2_markSource yX2_markSource, .initialized RX2, .code yX2_markSource cX2_markSource 4 (some .boolean), .fieldLink RX2 40 "ValveWalk$Network" "sources" "I", .static yX5_hasBit, .initialized RX5, .code yX5_hasBit cX5_hasBit 2 (some .boolean), .static yX5_withBit, .code yX5_withBit cX5_withBit 3 (some .int)] ++ wsX20)
def wsX2_join : List Cond := .code yX2_join cX2_join 5 none :: ([.fieldLink RX2 18 "ValveWalk$Network" "nodeAt" "[I", .fieldLink RX2 24 "ValveWalk$Network" "sidesAt" "[I", .static yX5_partOfPipe, .initialized RX5, .code yX5_partOfPipe cX5_partOfPipe 1 (some .int)] ++ wsX20)
def wsX2_putPipe : List Cond := .code yX2_putPipe cX2_putPipe 6 (some .int) :: ([.fieldLink RX2 34 "ValveWalk$Network" "pipeCount" "I", .fieldLink RX2 9 "ValveWalk$Network" "lengths" "[I", .fieldLink RX2 15 "ValveWalk$Network" "customers" "[I", .methodLink RX2 47 yX2_join, .instanceMethod yX2_join, .selects RX2 yX2_join yX2_join, .initialized RX2, .code yX2_join cX2_join 5 none, .fieldLink RX2 18 "ValveWalk$Network" "nodeAt" "[I", .fieldLink RX2 24 "ValveWalk$Network" "sidesAt" "[I", .static yX5_partOfPipe, .initialized RX5, .code yX5_partOfPipe cX5_partOfPipe 1 (some .int)] ++ wsX20)
def wsX2_putValve : List Cond := .code yX2_putValve cX2_putValve 5 (some .int) :: ([.fieldLink RX2 37 "ValveWalk$Network" "valveCount" "I", .fieldLink RX2 21 "ValveWalk$Network" "valveBitAt" "[I", .fieldLink RX2 27 "ValveWalk$Network" "jointOf" "[I"] ++ wsX20)
def wsX2_markStuck : List Cond := .code yX2_markStuck cX2_markStuck 4 (some .boolean) :: ([.fieldLink RX2 63 "ValveWalk$Network" "stuck" "I", .static yX5_hasBit, .initialized RX5, .code yX5_hasBit cX5_hasBit 2 (some .boolean), .static yX5_withBit, .code yX5_withBit cX5_withBit 3 (some .int)] ++ wsX20)
def wsX2_markShut : List Cond := .code yX2_markShut cX2_markShut 4 (some .boolean) :: ([.fieldLink RX2 66 "ValveWalk$Network" "shut" "I", .static yX5_hasBit, .initialized RX5, .code yX5_hasBit cX5_hasBit 2 (some .boolean), .static yX5_withBit, .code yX5_withBit cX5_withBit 3 (some .int)] ++ wsX20)
def wsX2_isStuck : List Cond := .code yX2_isStuck cX2_isStuck 2 (some .boolean) :: ([.fieldLink RX2 63 "ValveWalk$Network" "stuck" "I", .static yX5_hasBit, .initialized RX5, .code yX5_hasBit cX5_hasBit 2 (some .boolean)] ++ wsX20)
def wsX2_hasPart : List Cond := .code yX2_hasPart cX2_hasPart 2 (some .boolean) :: ([.fieldLink RX2 30 "ValveWalk$Network" "nodeCount" "I", .fieldLink RX2 34 "ValveWalk$Network" "pipeCount" "I", .static yX5_partOfPipe, .initialized RX5, .code yX5_partOfPipe cX5_partOfPipe 1 (some .int)] ++ wsX20)
def wsX3_init : List Cond := .code yX3_init cX3_init 2 none :: ([.methodLink RX3 3 objectInit, .instanceMethod objectInit, .code objectInit ⟨#[0xb1]⟩ 1 none, .arrayClass .int, .fieldLink RX3 9 "ValveWalk$Segments" "earlier" "[I", .fieldLink RX3 15 "ValveWalk$Segments" "network" "LValveWalk$Network;"] ++ wsX30)
def wsX3_segmentWith : List Cond := .code yX3_segmentWith cX3_segmentWith 2 (some .int) :: ([.fieldLink RX3 15 "ValveWalk$Segments" "network" "LValveWalk$Network;", .methodLink RX3 31 yX2_reach, .instanceMethod yX2_reach, .selects RX2 yX2_reach yX2_reach, .initialized RX2, .code yX2_reach cX2_reach 8 (some .int), .fieldLink RX2 34 "ValveWalk$Network" "pipeCount" "I", .fieldLink RX2 21 "ValveWalk$Network" "valveBitAt" "[I", .fieldLink RX2 24 "ValveWalk$Network" "sidesAt" "[I"] ++ wsX30 ++ wsX20)
def wsX3_countBegunBelow : List Cond := .code yX3_countBegunBelow cX3_countBegunBelow 5 (some .int) :: ([.fieldLink RX3 15 "ValveWalk$Segments" "network" "LValveWalk$Network;", .methodLink RX3 37 yX2_hasPart, .instanceMethod yX2_hasPart, .selects RX2 yX2_hasPart yX2_hasPart, .initialized RX2, .code yX2_hasPart cX2_hasPart 2 (some .boolean), .fieldLink RX2 30 "ValveWalk$Network" "nodeCount" "I", .fieldLink RX2 34 "ValveWalk$Network" "pipeCount" "I", .static yX5_partOfPipe, .initialized RX5, .code yX5_partOfPipe cX5_partOfPipe 1 (some .int), .static yX5_hasBit, .code yX5_hasBit cX5_hasBit 2 (some .boolean), .methodLink RX3 23 yX3_segmentWith, .instanceMethod yX3_segmentWith, .selects RX3 yX3_segmentWith yX3_segmentWith, .initialized RX3, .code yX3_segmentWith cX3_segmentWith 2 (some .int), .methodLink RX3 31 yX2_reach, .instanceMethod yX2_reach, .selects RX2 yX2_reach yX2_reach, .code yX2_reach cX2_reach 8 (some .int), .fieldLink RX2 21 "ValveWalk$Network" "valveBitAt" "[I", .fieldLink RX2 24 "ValveWalk$Network" "sidesAt" "[I"] ++ wsX30 ++ wsX20)
def wsX3_count_r1 : List Cond := [Cond.methodLink RX3 19 yX3_countBegunBelow, Cond.instanceMethod yX3_countBegunBelow, Cond.selects RX3 yX3_countBegunBelow yX3_countBegunBelow, Cond.initialized RX3, Cond.code yX3_countBegunBelow cX3_countBegunBelow 5 (some .int), Cond.fieldLink RX3 15 "ValveWalk$Segments" "network" "LValveWalk$Network;", Cond.methodLink RX3 37 yX2_hasPart, Cond.instanceMethod yX2_hasPart, Cond.selects RX2 yX2_hasPart yX2_hasPart, Cond.initialized RX2, Cond.code yX2_hasPart cX2_hasPart 2 (some .boolean), Cond.fieldLink RX2 30 "ValveWalk$Network" "nodeCount" "I", Cond.fieldLink RX2 34 "ValveWalk$Network" "pipeCount" "I", Cond.static yX5_partOfPipe, Cond.initialized RX5, Cond.code yX5_partOfPipe cX5_partOfPipe 1 (some .int), Cond.static yX5_hasBit, Cond.code yX5_hasBit cX5_hasBit 2 (some .boolean), Cond.methodLink RX3 23 yX3_segmentWith, Cond.instanceMethod yX3_segmentWith, Cond.selects RX3 yX3_segmentWith yX3_segmentWith, Cond.code yX3_segmentWith cX3_segmentWith 2 (some .int), Cond.methodLink RX3 31 yX2_reach, Cond.instanceMethod yX2_reach]
def wsX3_count_r2 : List Cond := [Cond.selects RX2 yX2_reach yX2_reach, Cond.code yX2_reach cX2_reach 8 (some .int), Cond.fieldLink RX2 21 "ValveWalk$Network" "valveBitAt" "[I", Cond.fieldLink RX2 24 "ValveWalk$Network" "sidesAt" "[I"]
def wsX3_count : List Cond := .code yX3_count cX3_count 1 (some .int) :: ((wsX3_count_r1 ++ wsX3_count_r2) ++ wsX30 ++ wsX20)
def wsJ6_numberOfTrailingZeros_0f7a4 : List Cond := .code yJ6_numberOfTrailingZeros_0f7a4 cJ6_numberOfTrailingZeros_0f7a4 2 (some .int) :: ([.constant RJ6 264 (65536)])
def wsX3_numberByWalking_r1 : List Cond := [Cond.methodLink RX3 23 yX3_segmentWith, Cond.instanceMethod yX3_segmentWith, Cond.selects RX3 yX3_segmentWith yX3_segmentWith, Cond.initialized RX3, Cond.code yX3_segmentWith cX3_segmentWith 2 (some .int), Cond.fieldLink RX3 15 "ValveWalk$Segments" "network" "LValveWalk$Network;", Cond.methodLink RX3 31 yX2_reach, Cond.instanceMethod yX2_reach, Cond.selects RX2 yX2_reach yX2_reach, Cond.initialized RX2, Cond.code yX2_reach cX2_reach 8 (some .int), Cond.fieldLink RX2 34 "ValveWalk$Network" "pipeCount" "I", Cond.fieldLink RX2 21 "ValveWalk$Network" "valveBitAt" "[I", Cond.fieldLink RX2 24 "ValveWalk$Network" "sidesAt" "[I", Cond.methodLink RX3 26 yJ6_numberOfTrailingZeros_0f7a4, Cond.static yJ6_numberOfTrailingZeros_0f7a4, Cond.initialized RJ6, Cond.code yJ6_numberOfTrailingZeros_0f7a4 cJ6_numberOfTrailingZeros_0f7a4 2 (some .int), Cond.constant RJ6 264 (65536), Cond.methodLink RX3 19 yX3_countBegunBelow, Cond.instanceMethod yX3_countBegunBelow, Cond.selects RX3 yX3_countBegunBelow yX3_countBegunBelow, Cond.code yX3_countBegunBelow cX3_countBegunBelow 5 (some .int), Cond.methodLink RX3 37 yX2_hasPart]
def wsX3_numberByWalking_r2 : List Cond := [Cond.instanceMethod yX2_hasPart, Cond.selects RX2 yX2_hasPart yX2_hasPart, Cond.code yX2_hasPart cX2_hasPart 2 (some .boolean), Cond.fieldLink RX2 30 "ValveWalk$Network" "nodeCount" "I", Cond.static yX5_partOfPipe, Cond.initialized RX5, Cond.code yX5_partOfPipe cX5_partOfPipe 1 (some .int), Cond.static yX5_hasBit, Cond.code yX5_hasBit cX5_hasBit 2 (some .boolean)]
def wsX3_numberByWalking : List Cond := .code yX3_numberByWalking cX3_numberByWalking 3 (some .int) :: ((wsX3_numberByWalking_r1 ++ wsX3_numberByWalking_r2) ++ wsX30 ++ wsX20)
def wsX3_firstOfSet : List Cond := .code yX3_firstOfSet cX3_firstOfSet 4 (some .int) :: ([.fieldLink RX3 9 "ValveWalk$Segments" "earlier" "[I"] ++ wsX30)
def wsX3_merge : List Cond := .code yX3_merge cX3_merge 5 none :: ([.fieldLink RX3 9 "ValveWalk$Segments" "earlier" "[I", .methodLink RX3 68 Lib.Math.max.name, .static Lib.Math.max.name, .initialized "java/lang/Math", .code Lib.Math.max.name Lib.Math.max.code 2 (some .int), .methodLink RX3 73 Lib.Math.min.name, .static Lib.Math.min.name, .code Lib.Math.min.name Lib.Math.min.code 2 (some .int), .methodLink RX3 48 yX3_firstOfSet, .instanceMethod yX3_firstOfSet, .selects RX3 yX3_firstOfSet yX3_firstOfSet, .initialized RX3, .code yX3_firstOfSet cX3_firstOfSet 4 (some .int)] ++ wsX30)
def wsX3_mergePipes_r1 : List Cond := [Cond.fieldLink RX3 9 "ValveWalk$Segments" "earlier" "[I", Cond.fieldLink RX3 15 "ValveWalk$Segments" "network" "LValveWalk$Network;", Cond.methodLink RX3 51 yX2_pipeCount, Cond.instanceMethod yX2_pipeCount, Cond.selects RX2 yX2_pipeCount yX2_pipeCount, Cond.initialized RX2, Cond.code yX2_pipeCount cX2_pipeCount 1 (some .int), Cond.fieldLink RX2 34 "ValveWalk$Network" "pipeCount" "I", Cond.methodLink RX3 55 yX2_valveBitAt, Cond.instanceMethod yX2_valveBitAt, Cond.selects RX2 yX2_valveBitAt yX2_valveBitAt, Cond.code yX2_valveBitAt cX2_valveBitAt 3 (some .int), Cond.fieldLink RX2 21 "ValveWalk$Network" "valveBitAt" "[I", Cond.static yX5_partOfPipe, Cond.initialized RX5, Cond.code yX5_partOfPipe cX5_partOfPipe 1 (some .int), Cond.methodLink RX3 61 yX2_nodeAt, Cond.instanceMethod yX2_nodeAt, Cond.selects RX2 yX2_nodeAt yX2_nodeAt, Cond.code yX2_nodeAt cX2_nodeAt 3 (some .int), Cond.fieldLink RX2 18 "ValveWalk$Network" "nodeAt" "[I", Cond.methodLink RX3 64 yX3_merge, Cond.instanceMethod yX3_merge, Cond.selects RX3 yX3_merge yX3_merge]
def wsX3_mergePipes_r2 : List Cond := [Cond.initialized RX3, Cond.code yX3_merge cX3_merge 5 none, Cond.methodLink RX3 68 Lib.Math.max.name, Cond.static Lib.Math.max.name, Cond.initialized "java/lang/Math", Cond.code Lib.Math.max.name Lib.Math.max.code 2 (some .int), Cond.methodLink RX3 73 Lib.Math.min.name, Cond.static Lib.Math.min.name, Cond.code Lib.Math.min.name Lib.Math.min.code 2 (some .int), Cond.methodLink RX3 48 yX3_firstOfSet, Cond.instanceMethod yX3_firstOfSet, Cond.selects RX3 yX3_firstOfSet yX3_firstOfSet, Cond.code yX3_firstOfSet cX3_firstOfSet 4 (some .int)]
def wsX3_mergePipes : List Cond := .code yX3_mergePipes cX3_mergePipes 3 none :: ((wsX3_mergePipes_r1 ++ wsX3_mergePipes_r2) ++ wsX30 ++ wsX20)
def wsX3_numberByMerging_r1 : List Cond := [Cond.fieldLink RX3 15 "ValveWalk$Segments" "network" "LValveWalk$Network;", Cond.methodLink RX3 45 yX3_mergePipes, Cond.instanceMethod yX3_mergePipes, Cond.selects RX3 yX3_mergePipes yX3_mergePipes, Cond.initialized RX3, Cond.code yX3_mergePipes cX3_mergePipes 3 none, Cond.fieldLink RX3 9 "ValveWalk$Segments" "earlier" "[I", Cond.methodLink RX3 51 yX2_pipeCount, Cond.instanceMethod yX2_pipeCount, Cond.selects RX2 yX2_pipeCount yX2_pipeCount, Cond.initialized RX2, Cond.code yX2_pipeCount cX2_pipeCount 1 (some .int), Cond.fieldLink RX2 34 "ValveWalk$Network" "pipeCount" "I", Cond.methodLink RX3 55 yX2_valveBitAt, Cond.instanceMethod yX2_valveBitAt, Cond.selects RX2 yX2_valveBitAt yX2_valveBitAt, Cond.code yX2_valveBitAt cX2_valveBitAt 3 (some .int), Cond.fieldLink RX2 21 "ValveWalk$Network" "valveBitAt" "[I", Cond.static yX5_partOfPipe, Cond.initialized RX5, Cond.code yX5_partOfPipe cX5_partOfPipe 1 (some .int), Cond.methodLink RX3 61 yX2_nodeAt, Cond.instanceMethod yX2_nodeAt, Cond.selects RX2 yX2_nodeAt yX2_nodeAt]
def wsX3_numberByMerging_r2 : List Cond := [Cond.code yX2_nodeAt cX2_nodeAt 3 (some .int), Cond.fieldLink RX2 18 "ValveWalk$Network" "nodeAt" "[I", Cond.methodLink RX3 64 yX3_merge, Cond.instanceMethod yX3_merge, Cond.selects RX3 yX3_merge yX3_merge, Cond.code yX3_merge cX3_merge 5 none, Cond.methodLink RX3 68 Lib.Math.max.name, Cond.static Lib.Math.max.name, Cond.initialized "java/lang/Math", Cond.code Lib.Math.max.name Lib.Math.max.code 2 (some .int), Cond.methodLink RX3 73 Lib.Math.min.name, Cond.static Lib.Math.min.name, Cond.code Lib.Math.min.name Lib.Math.min.code 2 (some .int), Cond.methodLink RX3 48 yX3_firstOfSet, Cond.instanceMethod yX3_firstOfSet, Cond.selects RX3 yX3_firstOfSet yX3_firstOfSet, Cond.code yX3_firstOfSet cX3_firstOfSet 4 (some .int), Cond.methodLink RX3 37 yX2_hasPart, Cond.instanceMethod yX2_hasPart, Cond.selects RX2 yX2_hasPart yX2_hasPart, Cond.code yX2_hasPart cX2_hasPart 2 (some .boolean), Cond.fieldLink RX2 30 "ValveWalk$Network" "nodeCount" "I"]
def wsX3_numberByMerging : List Cond := .code yX3_numberByMerging cX3_numberByMerging 5 (some .int) :: ((wsX3_numberByMerging_r1 ++ wsX3_numberByMerging_r2) ++ wsX30 ++ wsX20)
def wsX4_init : List Cond := .code yX4_init cX4_init 2 none :: ([.methodLink RX4 3 objectInit, .instanceMethod objectInit, .code objectInit ⟨#[0xb1]⟩ 1 none, .arrayClass .int, .fieldLink RX4 9 "ValveWalk$Walks" "between" "[I", .fieldLink RX4 15 "ValveWalk$Walks" "stops" "[I", .fieldLink RX4 18 "ValveWalk$Walks" "least" "[I", .fieldLink RX4 21 "ValveWalk$Walks" "network" "LValveWalk$Network;"] ++ wsX40)
def wsX4_listStops : List Cond := .code yX4_listStops cX4_listStops 4 (some .int) :: ([.fieldLink RX4 21 "ValveWalk$Walks" "network" "LValveWalk$Network;", .fieldLink RX4 15 "ValveWalk$Walks" "stops" "[I", .methodLink RX4 47 yX2_valveCount, .instanceMethod yX2_valveCount, .selects RX2 yX2_valveCount yX2_valveCount, .initialized RX2, .code yX2_valveCount cX2_valveCount 1 (some .int), .fieldLink RX2 37 "ValveWalk$Network" "valveCount" "I", .static yX5_hasBit, .initialized RX5, .code yX5_hasBit cX5_hasBit 2 (some .boolean), .methodLink RX4 53 yX2_nodeOfValve, .instanceMethod yX2_nodeOfValve, .selects RX2 yX2_nodeOfValve yX2_nodeOfValve, .code yX2_nodeOfValve cX2_nodeOfValve 2 (some .int), .fieldLink RX2 18 "ValveWalk$Network" "nodeAt" "[I", .fieldLink RX2 27 "ValveWalk$Network" "jointOf" "[I"] ++ wsX40 ++ wsX20)
def wsX4_shorten : List Cond := .code yX4_shorten cX4_shorten 5 none :: ([.fieldLink RX4 9 "ValveWalk$Walks" "between" "[I", .methodLink RX4 41 Lib.Math.min.name, .static Lib.Math.min.name, .initialized "java/lang/Math", .code Lib.Math.min.name Lib.Math.min.code 2 (some .int)] ++ wsX40)
def wsX4_lengthBetween : List Cond := .code yX4_lengthBetween cX4_lengthBetween 3 (some .int) :: ([.fieldLink RX4 9 "ValveWalk$Walks" "between" "[I"] ++ wsX40)
def wsX4_shortenBy : List Cond := .code yX4_shortenBy cX4_shortenBy 5 none :: ([.fieldLink RX4 21 "ValveWalk$Walks" "network" "LValveWalk$Network;", .methodLink RX4 72 yX2_nodeCount, .instanceMethod yX2_nodeCount, .selects RX2 yX2_nodeCount yX2_nodeCount, .initialized RX2, .code yX2_nodeCount cX2_nodeCount 1 (some .int), .fieldLink RX2 30 "ValveWalk$Network" "nodeCount" "I", .methodLink RX4 56 yX4_lengthBetween, .instanceMethod yX4_lengthBetween, .selects RX4 yX4_lengthBetween yX4_lengthBetween, .initialized RX4, .code yX4_lengthBetween cX4_lengthBetween 3 (some .int), .fieldLink RX4 9 "ValveWalk$Walks" "between" "[I", .methodLink RX4 68 yX4_shorten, .instanceMethod yX4_shorten, .selects RX4 yX4_shorten yX4_shorten, .code yX4_shorten cX4_shorten 5 none, .methodLink RX4 41 Lib.Math.min.name, .static Lib.Math.min.name, .initialized "java/lang/Math", .code Lib.Math.min.name Lib.Math.min.code 2 (some .int)] ++ wsX40 ++ wsX20)
def wsX4_measure_r1 : List Cond := [Cond.fieldLink RX4 9 "ValveWalk$Walks" "between" "[I", Cond.constant RX4 40 (1000000), Cond.fieldLink RX4 21 "ValveWalk$Walks" "network" "LValveWalk$Network;", Cond.methodLink RX4 59 yX2_pipeCount, Cond.instanceMethod yX2_pipeCount, Cond.selects RX2 yX2_pipeCount yX2_pipeCount, Cond.initialized RX2, Cond.code yX2_pipeCount cX2_pipeCount 1 (some .int), Cond.fieldLink RX2 34 "ValveWalk$Network" "pipeCount" "I", Cond.methodLink RX4 62 yX2_nodeAt, Cond.instanceMethod yX2_nodeAt, Cond.selects RX2 yX2_nodeAt yX2_nodeAt, Cond.code yX2_nodeAt cX2_nodeAt 3 (some .int), Cond.fieldLink RX2 18 "ValveWalk$Network" "nodeAt" "[I", Cond.methodLink RX4 65 yX2_lengthOf, Cond.instanceMethod yX2_lengthOf, Cond.selects RX2 yX2_lengthOf yX2_lengthOf, Cond.code yX2_lengthOf cX2_lengthOf 2 (some .int), Cond.fieldLink RX2 9 "ValveWalk$Network" "lengths" "[I", Cond.methodLink RX4 68 yX4_shorten, Cond.instanceMethod yX4_shorten, Cond.selects RX4 yX4_shorten yX4_shorten, Cond.initialized RX4, Cond.code yX4_shorten cX4_shorten 5 none]
def wsX4_measure_r2 : List Cond := [Cond.methodLink RX4 41 Lib.Math.min.name, Cond.static Lib.Math.min.name, Cond.initialized "java/lang/Math", Cond.code Lib.Math.min.name Lib.Math.min.code 2 (some .int), Cond.methodLink RX4 72 yX2_nodeCount, Cond.instanceMethod yX2_nodeCount, Cond.selects RX2 yX2_nodeCount yX2_nodeCount, Cond.code yX2_nodeCount cX2_nodeCount 1 (some .int), Cond.fieldLink RX2 30 "ValveWalk$Network" "nodeCount" "I", Cond.methodLink RX4 75 yX4_shortenBy, Cond.instanceMethod yX4_shortenBy, Cond.selects RX4 yX4_shortenBy yX4_shortenBy, Cond.code yX4_shortenBy cX4_shortenBy 5 none, Cond.methodLink RX4 56 yX4_lengthBetween, Cond.instanceMethod yX4_lengthBetween, Cond.selects RX4 yX4_lengthBetween yX4_lengthBetween, Cond.code yX4_lengthBetween cX4_lengthBetween 3 (some .int)]
def wsX4_measure : List Cond := .code yX4_measure cX4_measure 4 none :: ((wsX4_measure_r1 ++ wsX4_measure_r2) ++ wsX40 ++ wsX20)
def wsX4_leastEnding : List Cond := .code yX4_leastEnding cX4_leastEnding 9 (some .int) :: ([.fieldLink RX4 15 "ValveWalk$Walks" "stops" "[I", .constant RX4 40 (1000000), .fieldLink RX4 18 "ValveWalk$Walks" "least" "[I", .methodLink RX4 41 Lib.Math.min.name, .static Lib.Math.min.name, .initialized "java/lang/Math", .code Lib.Math.min.name Lib.Math.min.code 2 (some .int), .methodLink RX4 56 yX4_lengthBetween, .instanceMethod yX4_lengthBetween, .selects RX4 yX4_lengthBetween yX4_lengthBetween, .initialized RX4, .code yX4_lengthBetween cX4_lengthBetween 3 (some .int), .fieldLink RX4 9 "ValveWalk$Walks" "between" "[I", .static yX5_hasBit, .initialized RX5, .code yX5_hasBit cX5_hasBit 2 (some .boolean)] ++ wsX40)
def wsX4_leastLength_r1 : List Cond := [Cond.fieldLink RX4 18 "ValveWalk$Walks" "least" "[I", Cond.constant RX4 40 (1000000), Cond.methodLink RX4 41 Lib.Math.min.name, Cond.static Lib.Math.min.name, Cond.initialized "java/lang/Math", Cond.code Lib.Math.min.name Lib.Math.min.code 2 (some .int), Cond.methodLink RX4 25 yX4_listStops, Cond.instanceMethod yX4_listStops, Cond.selects RX4 yX4_listStops yX4_listStops, Cond.initialized RX4, Cond.code yX4_listStops cX4_listStops 4 (some .int), Cond.fieldLink RX4 21 "ValveWalk$Walks" "network" "LValveWalk$Network;", Cond.fieldLink RX4 15 "ValveWalk$Walks" "stops" "[I", Cond.methodLink RX4 47 yX2_valveCount, Cond.instanceMethod yX2_valveCount, Cond.selects RX2 yX2_valveCount yX2_valveCount, Cond.initialized RX2, Cond.code yX2_valveCount cX2_valveCount 1 (some .int), Cond.fieldLink RX2 37 "ValveWalk$Network" "valveCount" "I", Cond.static yX5_hasBit, Cond.initialized RX5, Cond.code yX5_hasBit cX5_hasBit 2 (some .boolean), Cond.methodLink RX4 53 yX2_nodeOfValve, Cond.instanceMethod yX2_nodeOfValve]
def wsX4_leastLength_r2 : List Cond := [Cond.selects RX2 yX2_nodeOfValve yX2_nodeOfValve, Cond.code yX2_nodeOfValve cX2_nodeOfValve 2 (some .int), Cond.fieldLink RX2 18 "ValveWalk$Network" "nodeAt" "[I", Cond.fieldLink RX2 27 "ValveWalk$Network" "jointOf" "[I", Cond.methodLink RX4 29 yX4_measure, Cond.instanceMethod yX4_measure, Cond.selects RX4 yX4_measure yX4_measure, Cond.code yX4_measure cX4_measure 4 none, Cond.fieldLink RX4 9 "ValveWalk$Walks" "between" "[I", Cond.methodLink RX4 59 yX2_pipeCount, Cond.instanceMethod yX2_pipeCount, Cond.selects RX2 yX2_pipeCount yX2_pipeCount, Cond.code yX2_pipeCount cX2_pipeCount 1 (some .int), Cond.fieldLink RX2 34 "ValveWalk$Network" "pipeCount" "I", Cond.methodLink RX4 62 yX2_nodeAt, Cond.instanceMethod yX2_nodeAt, Cond.selects RX2 yX2_nodeAt yX2_nodeAt, Cond.code yX2_nodeAt cX2_nodeAt 3 (some .int), Cond.methodLink RX4 65 yX2_lengthOf, Cond.instanceMethod yX2_lengthOf, Cond.selects RX2 yX2_lengthOf yX2_lengthOf, Cond.code yX2_lengthOf cX2_lengthOf 2 (some .int), Cond.fieldLink RX2 9 "ValveWalk$Network" "lengths" "[I", Cond.methodLink RX4 68 yX4_shorten]
def wsX4_leastLength_r3 : List Cond := [Cond.instanceMethod yX4_shorten, Cond.selects RX4 yX4_shorten yX4_shorten, Cond.code yX4_shorten cX4_shorten 5 none, Cond.methodLink RX4 72 yX2_nodeCount, Cond.instanceMethod yX2_nodeCount, Cond.selects RX2 yX2_nodeCount yX2_nodeCount, Cond.code yX2_nodeCount cX2_nodeCount 1 (some .int), Cond.fieldLink RX2 30 "ValveWalk$Network" "nodeCount" "I", Cond.methodLink RX4 75 yX4_shortenBy, Cond.instanceMethod yX4_shortenBy, Cond.selects RX4 yX4_shortenBy yX4_shortenBy, Cond.code yX4_shortenBy cX4_shortenBy 5 none, Cond.methodLink RX4 56 yX4_lengthBetween, Cond.instanceMethod yX4_lengthBetween, Cond.selects RX4 yX4_lengthBetween yX4_lengthBetween, Cond.code yX4_lengthBetween cX4_lengthBetween 3 (some .int), Cond.methodLink RX4 36 yX4_leastEnding, Cond.instanceMethod yX4_leastEnding, Cond.selects RX4 yX4_leastEnding yX4_leastEnding, Cond.code yX4_leastEnding cX4_leastEnding 9 (some .int)]
def wsX4_leastLength : List Cond := .code yX4_leastLength cX4_leastLength 7 (some .int) :: ((wsX4_leastLength_r1 ++ (wsX4_leastLength_r2 ++ wsX4_leastLength_r3)) ++ wsX40 ++ wsX20)
def wsX5_init_r1 : List Cond := [Cond.methodLink RX5 3 objectInit, Cond.instanceMethod objectInit, Cond.code objectInit ⟨#[0xb1]⟩ 1 none, Cond.classLink RX5 9 RX2, Cond.instantiable RX2 12, Cond.initialized RX2, Cond.fieldLink RX5 12 "ValveWalk" "network" "LValveWalk$Network;", Cond.classLink RX5 16 RX3, Cond.instantiable RX3 2, Cond.initialized RX3, Cond.fieldLink RX5 21 "ValveWalk" "parting" "LValveWalk$Segments;", Cond.classLink RX5 25 RX0, Cond.instantiable RX0 6, Cond.initialized RX0, Cond.fieldLink RX5 28 "ValveWalk" "breaks" "LValveWalk$Breaks;", Cond.classLink RX5 32 RX1, Cond.instantiable RX1 2, Cond.initialized RX1, Cond.fieldLink RX5 35 "ValveWalk" "flushing" "LValveWalk$Flushing;", Cond.classLink RX5 39 RX4, Cond.instantiable RX4 4, Cond.initialized RX4, Cond.fieldLink RX5 42 "ValveWalk" "walks" "LValveWalk$Walks;", Cond.instanceMethod yX2_init]
def wsX5_init_r2 : List Cond := [Cond.code yX2_init cX2_init 1 none, Cond.methodLink RX2 3 objectInit, Cond.arrayClass .int, Cond.fieldLink RX2 9 "ValveWalk$Network" "lengths" "[I", Cond.fieldLink RX2 15 "ValveWalk$Network" "customers" "[I", Cond.fieldLink RX2 18 "ValveWalk$Network" "nodeAt" "[I", Cond.fieldLink RX2 21 "ValveWalk$Network" "valveBitAt" "[I", Cond.fieldLink RX2 24 "ValveWalk$Network" "sidesAt" "[I", Cond.fieldLink RX2 27 "ValveWalk$Network" "jointOf" "[I", Cond.methodLink RX5 18 yX3_init, Cond.instanceMethod yX3_init, Cond.code yX3_init cX3_init 2 none, Cond.methodLink RX3 3 objectInit, Cond.fieldLink RX3 9 "ValveWalk$Segments" "earlier" "[I", Cond.fieldLink RX3 15 "ValveWalk$Segments" "network" "LValveWalk$Network;", Cond.methodLink RX5 27 yX0_init, Cond.instanceMethod yX0_init, Cond.code yX0_init cX0_init 2 none, Cond.methodLink RX0 3 objectInit, Cond.fieldLink RX0 9 "ValveWalk$Breaks" "pipeRegions" "[I", Cond.fieldLink RX0 15 "ValveWalk$Breaks" "nodeRegions" "[I", Cond.fieldLink RX0 18 "ValveWalk$Breaks" "ways" "[I", Cond.fieldLink RX0 21 "ValveWalk$Breaks" "crossed" "[I", Cond.fieldLink RX0 24 "ValveWalk$Breaks" "directions" "[I"]
def wsX5_init_r3 : List Cond := [Cond.fieldLink RX0 27 "ValveWalk$Breaks" "network" "LValveWalk$Network;", Cond.methodLink RX5 34 yX1_init, Cond.instanceMethod yX1_init, Cond.code yX1_init cX1_init 2 none, Cond.methodLink RX1 3 objectInit, Cond.fieldLink RX1 9 "ValveWalk$Flushing" "distances" "[I", Cond.fieldLink RX1 15 "ValveWalk$Flushing" "network" "LValveWalk$Network;", Cond.methodLink RX5 41 yX4_init, Cond.instanceMethod yX4_init, Cond.code yX4_init cX4_init 2 none, Cond.methodLink RX4 3 objectInit, Cond.fieldLink RX4 9 "ValveWalk$Walks" "between" "[I", Cond.fieldLink RX4 15 "ValveWalk$Walks" "stops" "[I", Cond.fieldLink RX4 18 "ValveWalk$Walks" "least" "[I", Cond.fieldLink RX4 21 "ValveWalk$Walks" "network" "LValveWalk$Network;"]
def wsX5_init : List Cond := .code yX5_init cX5_init 1 none :: ((wsX5_init_r1 ++ (wsX5_init_r2 ++ wsX5_init_r3)) ++ wsX20 ++ wsX50 ++ wsX30 ++ wsX00 ++ wsX10 ++ wsX40)
def wsX5_addNode : List Cond := .code yX5_addNode cX5_addNode 2 (some .int) :: ([.classLink RX5 50 "java/lang/IllegalStateException", .initialized "java/lang/IllegalStateException", .fieldLink RX5 12 "ValveWalk" "network" "LValveWalk$Network;", .methodLink RX5 46 yX2_nodeCount, .instanceMethod yX2_nodeCount, .selects RX2 yX2_nodeCount yX2_nodeCount, .initialized RX2, .code yX2_nodeCount cX2_nodeCount 1 (some .int), .fieldLink RX2 30 "ValveWalk$Network" "nodeCount" "I", .methodLink RX5 57 yX2_putNode, .instanceMethod yX2_putNode, .selects RX2 yX2_putNode yX2_putNode, .code yX2_putNode cX2_putNode 3 (some .int), .methodLink RX2 43 yX2_markSource, .instanceMethod yX2_markSource, .selects RX2 yX2_markSource yX2_markSource, .code yX2_markSource cX2_markSource 4 (some .boolean), .fieldLink RX2 40 "ValveWalk$Network" "sources" "I", .static yX5_hasBit, .initialized RX5, .code yX5_hasBit cX5_hasBit 2 (some .boolean), .static yX5_withBit, .code yX5_withBit cX5_withBit 3 (some .int)] ++ wsX50 ++ wsX20 ++ (vx_atS RX5 54 "java/lang/IllegalStateException" ["java/lang/RuntimeException", "java/lang/Exception"]).filter goodWord)
def wsX5_requireNode : List Cond := .code yX5_requireNode cX5_requireNode 2 none :: ([.classLink RX5 164 "java/lang/IndexOutOfBoundsException", .initialized "java/lang/IndexOutOfBoundsException", .fieldLink RX5 12 "ValveWalk" "network" "LValveWalk$Network;", .methodLink RX5 46 yX2_nodeCount, .instanceMethod yX2_nodeCount, .selects RX2 yX2_nodeCount yX2_nodeCount, .initialized RX2, .code yX2_nodeCount cX2_nodeCount 1 (some .int), .fieldLink RX2 30 "ValveWalk$Network" "nodeCount" "I"] ++ wsX50 ++ wsX20 ++ (vx_atS RX5 168 "java/lang/IndexOutOfBoundsException" ["java/lang/RuntimeException", "java/lang/Exception"]).filter goodWord)
def wsX5_addPipe_r1 : List Cond := [Cond.classLink RX5 65 "java/lang/IllegalArgumentException", Cond.initialized "java/lang/IllegalArgumentException", Cond.classLink RX5 50 "java/lang/IllegalStateException", Cond.initialized "java/lang/IllegalStateException", Cond.fieldLink RX5 12 "ValveWalk" "network" "LValveWalk$Network;", Cond.methodLink RX5 61 yX5_requireNode, Cond.instanceMethod yX5_requireNode, Cond.selects RX5 yX5_requireNode yX5_requireNode, Cond.initialized RX5, Cond.code yX5_requireNode cX5_requireNode 2 none, Cond.classLink RX5 164 "java/lang/IndexOutOfBoundsException", Cond.initialized "java/lang/IndexOutOfBoundsException", Cond.methodLink RX5 46 yX2_nodeCount, Cond.instanceMethod yX2_nodeCount, Cond.selects RX2 yX2_nodeCount yX2_nodeCount, Cond.initialized RX2, Cond.code yX2_nodeCount cX2_nodeCount 1 (some .int), Cond.fieldLink RX2 30 "ValveWalk$Network" "nodeCount" "I", Cond.methodLink RX5 74 yX2_pipeCount, Cond.instanceMethod yX2_pipeCount, Cond.selects RX2 yX2_pipeCount yX2_pipeCount, Cond.code yX2_pipeCount cX2_pipeCount 1 (some .int), Cond.fieldLink RX2 34 "ValveWalk$Network" "pipeCount" "I", Cond.methodLink RX5 79 yX2_putPipe]
def wsX5_addPipe_r2 : List Cond := [Cond.instanceMethod yX2_putPipe, Cond.selects RX2 yX2_putPipe yX2_putPipe, Cond.code yX2_putPipe cX2_putPipe 6 (some .int), Cond.fieldLink RX2 9 "ValveWalk$Network" "lengths" "[I", Cond.fieldLink RX2 15 "ValveWalk$Network" "customers" "[I", Cond.methodLink RX2 47 yX2_join, Cond.instanceMethod yX2_join, Cond.selects RX2 yX2_join yX2_join, Cond.code yX2_join cX2_join 5 none, Cond.fieldLink RX2 18 "ValveWalk$Network" "nodeAt" "[I", Cond.fieldLink RX2 24 "ValveWalk$Network" "sidesAt" "[I", Cond.static yX5_partOfPipe, Cond.code yX5_partOfPipe cX5_partOfPipe 1 (some .int)]
def wsX5_addPipe : List Cond := .code yX5_addPipe cX5_addPipe 5 (some .int) :: ((wsX5_addPipe_r1 ++ wsX5_addPipe_r2) ++ wsX50 ++ wsX20 ++ (vx_atS RX5 69 "java/lang/IllegalArgumentException" ["java/lang/RuntimeException", "java/lang/Exception"]).filter goodWord ++ (vx_atS RX5 54 "java/lang/IllegalStateException" ["java/lang/RuntimeException", "java/lang/Exception"]).filter goodWord ++ (vx_atS RX5 168 "java/lang/IndexOutOfBoundsException" ["java/lang/RuntimeException", "java/lang/Exception"]).filter goodWord)
def wsX5_requirePipe : List Cond := .code yX5_requirePipe cX5_requirePipe 2 none :: ([.classLink RX5 164 "java/lang/IndexOutOfBoundsException", .initialized "java/lang/IndexOutOfBoundsException", .fieldLink RX5 12 "ValveWalk" "network" "LValveWalk$Network;", .methodLink RX5 74 yX2_pipeCount, .instanceMethod yX2_pipeCount, .selects RX2 yX2_pipeCount yX2_pipeCount, .initialized RX2, .code yX2_pipeCount cX2_pipeCount 1 (some .int), .fieldLink RX2 34 "ValveWalk$Network" "pipeCount" "I"] ++ wsX50 ++ wsX20 ++ (vx_atS RX5 168 "java/lang/IndexOutOfBoundsException" ["java/lang/RuntimeException", "java/lang/Exception"]).filter goodWord)
def wsX5_addValve_r1 : List Cond := [Cond.classLink RX5 65 "java/lang/IllegalArgumentException", Cond.initialized "java/lang/IllegalArgumentException", Cond.classLink RX5 50 "java/lang/IllegalStateException", Cond.initialized "java/lang/IllegalStateException", Cond.fieldLink RX5 12 "ValveWalk" "network" "LValveWalk$Network;", Cond.methodLink RX5 83 yX5_requirePipe, Cond.instanceMethod yX5_requirePipe, Cond.selects RX5 yX5_requirePipe yX5_requirePipe, Cond.initialized RX5, Cond.code yX5_requirePipe cX5_requirePipe 2 none, Cond.classLink RX5 164 "java/lang/IndexOutOfBoundsException", Cond.initialized "java/lang/IndexOutOfBoundsException", Cond.methodLink RX5 74 yX2_pipeCount, Cond.instanceMethod yX2_pipeCount, Cond.selects RX2 yX2_pipeCount yX2_pipeCount, Cond.initialized RX2, Cond.code yX2_pipeCount cX2_pipeCount 1 (some .int), Cond.fieldLink RX2 34 "ValveWalk$Network" "pipeCount" "I", Cond.methodLink RX5 88 yX2_valveBitAt, Cond.instanceMethod yX2_valveBitAt, Cond.selects RX2 yX2_valveBitAt yX2_valveBitAt, Cond.code yX2_valveBitAt cX2_valveBitAt 3 (some .int), Cond.fieldLink RX2 21 "ValveWalk$Network" "valveBitAt" "[I", Cond.methodLink RX5 94 yX2_valveCount]
def wsX5_addValve_r2 : List Cond := [Cond.instanceMethod yX2_valveCount, Cond.selects RX2 yX2_valveCount yX2_valveCount, Cond.code yX2_valveCount cX2_valveCount 1 (some .int), Cond.fieldLink RX2 37 "ValveWalk$Network" "valveCount" "I", Cond.methodLink RX5 99 yX2_putValve, Cond.instanceMethod yX2_putValve, Cond.selects RX2 yX2_putValve yX2_putValve, Cond.code yX2_putValve cX2_putValve 5 (some .int), Cond.fieldLink RX2 27 "ValveWalk$Network" "jointOf" "[I"]
def wsX5_addValve : List Cond := .code yX5_addValve cX5_addValve 3 (some .int) :: ((wsX5_addValve_r1 ++ wsX5_addValve_r2) ++ wsX50 ++ wsX20 ++ (vx_atS RX5 69 "java/lang/IllegalArgumentException" ["java/lang/RuntimeException", "java/lang/Exception"]).filter goodWord ++ (vx_atS RX5 54 "java/lang/IllegalStateException" ["java/lang/RuntimeException", "java/lang/Exception"]).filter goodWord ++ (vx_atS RX5 168 "java/lang/IndexOutOfBoundsException" ["java/lang/RuntimeException", "java/lang/Exception"]).filter goodWord)
def wsX5_setSource : List Cond := .code yX5_setSource cX5_setSource 3 (some .boolean) :: ([.fieldLink RX5 12 "ValveWalk" "network" "LValveWalk$Network;", .methodLink RX5 61 yX5_requireNode, .instanceMethod yX5_requireNode, .selects RX5 yX5_requireNode yX5_requireNode, .initialized RX5, .code yX5_requireNode cX5_requireNode 2 none, .classLink RX5 164 "java/lang/IndexOutOfBoundsException", .initialized "java/lang/IndexOutOfBoundsException", .methodLink RX5 46 yX2_nodeCount, .instanceMethod yX2_nodeCount, .selects RX2 yX2_nodeCount yX2_nodeCount, .initialized RX2, .code yX2_nodeCount cX2_nodeCount 1 (some .int), .fieldLink RX2 30 "ValveWalk$Network" "nodeCount" "I", .methodLink RX5 102 yX2_markSource, .instanceMethod yX2_markSource, .selects RX2 yX2_markSource yX2_markSource, .code yX2_markSource cX2_markSource 4 (some .boolean), .fieldLink RX2 40 "ValveWalk$Network" "sources" "I", .static yX5_hasBit, .code yX5_hasBit cX5_hasBit 2 (some .boolean), .static yX5_withBit, .code yX5_withBit cX5_withBit 3 (some .int)] ++ wsX50 ++ wsX20 ++ (vx_atS RX5 168 "java/lang/IndexOutOfBoundsException" ["java/lang/RuntimeException", "java/lang/Exception"]).filter goodWord)
def wsX5_requireValve : List Cond := .code yX5_requireValve cX5_requireValve 2 none :: ([.classLink RX5 164 "java/lang/IndexOutOfBoundsException", .initialized "java/lang/IndexOutOfBoundsException", .fieldLink RX5 12 "ValveWalk" "network" "LValveWalk$Network;", .methodLink RX5 94 yX2_valveCount, .instanceMethod yX2_valveCount, .selects RX2 yX2_valveCount yX2_valveCount, .initialized RX2, .code yX2_valveCount cX2_valveCount 1 (some .int), .fieldLink RX2 37 "ValveWalk$Network" "valveCount" "I"] ++ wsX50 ++ wsX20 ++ (vx_atS RX5 168 "java/lang/IndexOutOfBoundsException" ["java/lang/RuntimeException", "java/lang/Exception"]).filter goodWord)
def wsX5_setStuck : List Cond := .code yX5_setStuck cX5_setStuck 3 (some .boolean) :: ([.fieldLink RX5 12 "ValveWalk" "network" "LValveWalk$Network;", .methodLink RX5 106 yX5_requireValve, .instanceMethod yX5_requireValve, .selects RX5 yX5_requireValve yX5_requireValve, .initialized RX5, .code yX5_requireValve cX5_requireValve 2 none, .classLink RX5 164 "java/lang/IndexOutOfBoundsException", .initialized "java/lang/IndexOutOfBoundsException", .methodLink RX5 94 yX2_valveCount, .instanceMethod yX2_valveCount, .selects RX2 yX2_valveCount yX2_valveCount, .initialized RX2, .code yX2_valveCount cX2_valveCount 1 (some .int), .fieldLink RX2 37 "ValveWalk$Network" "valveCount" "I", .methodLink RX5 109 yX2_markStuck, .instanceMethod yX2_markStuck, .selects RX2 yX2_markStuck yX2_markStuck, .code yX2_markStuck cX2_markStuck 4 (some .boolean), .fieldLink RX2 63 "ValveWalk$Network" "stuck" "I", .static yX5_hasBit, .code yX5_hasBit cX5_hasBit 2 (some .boolean), .static yX5_withBit, .code yX5_withBit cX5_withBit 3 (some .int)] ++ wsX50 ++ wsX20 ++ (vx_atS RX5 168 "java/lang/IndexOutOfBoundsException" ["java/lang/RuntimeException", "java/lang/Exception"]).filter goodWord)
def wsX5_turn_r1 : List Cond := [Cond.classLink RX5 50 "java/lang/IllegalStateException", Cond.initialized "java/lang/IllegalStateException", Cond.fieldLink RX5 12 "ValveWalk" "network" "LValveWalk$Network;", Cond.methodLink RX5 106 yX5_requireValve, Cond.instanceMethod yX5_requireValve, Cond.selects RX5 yX5_requireValve yX5_requireValve, Cond.initialized RX5, Cond.code yX5_requireValve cX5_requireValve 2 none, Cond.classLink RX5 164 "java/lang/IndexOutOfBoundsException", Cond.initialized "java/lang/IndexOutOfBoundsException", Cond.methodLink RX5 94 yX2_valveCount, Cond.instanceMethod yX2_valveCount, Cond.selects RX2 yX2_valveCount yX2_valveCount, Cond.initialized RX2, Cond.code yX2_valveCount cX2_valveCount 1 (some .int), Cond.fieldLink RX2 37 "ValveWalk$Network" "valveCount" "I", Cond.methodLink RX5 112 yX2_isStuck, Cond.instanceMethod yX2_isStuck, Cond.selects RX2 yX2_isStuck yX2_isStuck, Cond.code yX2_isStuck cX2_isStuck 2 (some .boolean), Cond.fieldLink RX2 63 "ValveWalk$Network" "stuck" "I", Cond.static yX5_hasBit, Cond.code yX5_hasBit cX5_hasBit 2 (some .boolean), Cond.methodLink RX5 118 yX2_markShut]
def wsX5_turn_r2 : List Cond := [Cond.instanceMethod yX2_markShut, Cond.selects RX2 yX2_markShut yX2_markShut, Cond.code yX2_markShut cX2_markShut 4 (some .boolean), Cond.fieldLink RX2 66 "ValveWalk$Network" "shut" "I", Cond.static yX5_withBit, Cond.code yX5_withBit cX5_withBit 3 (some .int)]
def wsX5_turn : List Cond := .code yX5_turn cX5_turn 3 (some .boolean) :: ((wsX5_turn_r1 ++ wsX5_turn_r2) ++ wsX50 ++ wsX20 ++ (vx_atS RX5 54 "java/lang/IllegalStateException" ["java/lang/RuntimeException", "java/lang/Exception"]).filter goodWord ++ (vx_atS RX5 168 "java/lang/IndexOutOfBoundsException" ["java/lang/RuntimeException", "java/lang/Exception"]).filter goodWord)
def wsX5_nodes : List Cond := .code yX5_nodes cX5_nodes 1 (some .int) :: ([.fieldLink RX5 12 "ValveWalk" "network" "LValveWalk$Network;", .methodLink RX5 46 yX2_nodeCount, .instanceMethod yX2_nodeCount, .selects RX2 yX2_nodeCount yX2_nodeCount, .initialized RX2, .code yX2_nodeCount cX2_nodeCount 1 (some .int), .fieldLink RX2 30 "ValveWalk$Network" "nodeCount" "I"] ++ wsX50 ++ wsX20)
def wsX5_pipes : List Cond := .code yX5_pipes cX5_pipes 1 (some .int) :: ([.fieldLink RX5 12 "ValveWalk" "network" "LValveWalk$Network;", .methodLink RX5 74 yX2_pipeCount, .instanceMethod yX2_pipeCount, .selects RX2 yX2_pipeCount yX2_pipeCount, .initialized RX2, .code yX2_pipeCount cX2_pipeCount 1 (some .int), .fieldLink RX2 34 "ValveWalk$Network" "pipeCount" "I"] ++ wsX50 ++ wsX20)
def wsX5_valves : List Cond := .code yX5_valves cX5_valves 1 (some .int) :: ([.fieldLink RX5 12 "ValveWalk" "network" "LValveWalk$Network;", .methodLink RX5 94 yX2_valveCount, .instanceMethod yX2_valveCount, .selects RX2 yX2_valveCount yX2_valveCount, .initialized RX2, .code yX2_valveCount cX2_valveCount 1 (some .int), .fieldLink RX2 37 "ValveWalk$Network" "valveCount" "I"] ++ wsX50 ++ wsX20)
def wsX5_isDry : List Cond := .code yX5_isDry cX5_isDry 2 (some .boolean) :: ([.fieldLink RX5 12 "ValveWalk" "network" "LValveWalk$Network;", .methodLink RX5 128 yX2_wetBehind, .instanceMethod yX2_wetBehind, .selects RX2 yX2_wetBehind yX2_wetBehind, .initialized RX2, .code yX2_wetBehind cX2_wetBehind 2 (some .int), .fieldLink RX2 40 "ValveWalk$Network" "sources" "I", .fieldLink RX2 66 "ValveWalk$Network" "shut" "I", .methodLink RX2 72 yX2_reach, .instanceMethod yX2_reach, .selects RX2 yX2_reach yX2_reach, .code yX2_reach cX2_reach 8 (some .int), .fieldLink RX2 34 "ValveWalk$Network" "pipeCount" "I", .fieldLink RX2 21 "ValveWalk$Network" "valveBitAt" "[I", .fieldLink RX2 24 "ValveWalk$Network" "sidesAt" "[I", .methodLink RX5 187 yX5_hasBit, .static yX5_hasBit, .initialized RX5, .code yX5_hasBit cX5_hasBit 2 (some .boolean)] ++ wsX50 ++ wsX20)
def wsX5_isNodeDry_r1 : List Cond := [Cond.methodLink RX5 61 yX5_requireNode, Cond.instanceMethod yX5_requireNode, Cond.selects RX5 yX5_requireNode yX5_requireNode, Cond.initialized RX5, Cond.code yX5_requireNode cX5_requireNode 2 none, Cond.classLink RX5 164 "java/lang/IndexOutOfBoundsException", Cond.initialized "java/lang/IndexOutOfBoundsException", Cond.fieldLink RX5 12 "ValveWalk" "network" "LValveWalk$Network;", Cond.methodLink RX5 46 yX2_nodeCount, Cond.instanceMethod yX2_nodeCount, Cond.selects RX2 yX2_nodeCount yX2_nodeCount, Cond.initialized RX2, Cond.code yX2_nodeCount cX2_nodeCount 1 (some .int), Cond.fieldLink RX2 30 "ValveWalk$Network" "nodeCount" "I", Cond.methodLink RX5 121 yX5_isDry, Cond.instanceMethod yX5_isDry, Cond.selects RX5 yX5_isDry yX5_isDry, Cond.code yX5_isDry cX5_isDry 2 (some .boolean), Cond.methodLink RX5 128 yX2_wetBehind, Cond.instanceMethod yX2_wetBehind, Cond.selects RX2 yX2_wetBehind yX2_wetBehind, Cond.code yX2_wetBehind cX2_wetBehind 2 (some .int), Cond.fieldLink RX2 40 "ValveWalk$Network" "sources" "I", Cond.fieldLink RX2 66 "ValveWalk$Network" "shut" "I"]
def wsX5_isNodeDry_r2 : List Cond := [Cond.methodLink RX2 72 yX2_reach, Cond.instanceMethod yX2_reach, Cond.selects RX2 yX2_reach yX2_reach, Cond.code yX2_reach cX2_reach 8 (some .int), Cond.fieldLink RX2 34 "ValveWalk$Network" "pipeCount" "I", Cond.fieldLink RX2 21 "ValveWalk$Network" "valveBitAt" "[I", Cond.fieldLink RX2 24 "ValveWalk$Network" "sidesAt" "[I", Cond.methodLink RX5 187 yX5_hasBit, Cond.static yX5_hasBit, Cond.code yX5_hasBit cX5_hasBit 2 (some .boolean)]
def wsX5_isNodeDry : List Cond := .code yX5_isNodeDry cX5_isNodeDry 2 (some .boolean) :: ((wsX5_isNodeDry_r1 ++ wsX5_isNodeDry_r2) ++ wsX50 ++ wsX20 ++ (vx_atS RX5 168 "java/lang/IndexOutOfBoundsException" ["java/lang/RuntimeException", "java/lang/Exception"]).filter goodWord)
def wsX5_isPipeDry_r1 : List Cond := [Cond.methodLink RX5 83 yX5_requirePipe, Cond.instanceMethod yX5_requirePipe, Cond.selects RX5 yX5_requirePipe yX5_requirePipe, Cond.initialized RX5, Cond.code yX5_requirePipe cX5_requirePipe 2 none, Cond.classLink RX5 164 "java/lang/IndexOutOfBoundsException", Cond.initialized "java/lang/IndexOutOfBoundsException", Cond.fieldLink RX5 12 "ValveWalk" "network" "LValveWalk$Network;", Cond.methodLink RX5 74 yX2_pipeCount, Cond.instanceMethod yX2_pipeCount, Cond.selects RX2 yX2_pipeCount yX2_pipeCount, Cond.initialized RX2, Cond.code yX2_pipeCount cX2_pipeCount 1 (some .int), Cond.fieldLink RX2 34 "ValveWalk$Network" "pipeCount" "I", Cond.methodLink RX5 124 yX5_partOfPipe, Cond.static yX5_partOfPipe, Cond.code yX5_partOfPipe cX5_partOfPipe 1 (some .int), Cond.methodLink RX5 121 yX5_isDry, Cond.instanceMethod yX5_isDry, Cond.selects RX5 yX5_isDry yX5_isDry, Cond.code yX5_isDry cX5_isDry 2 (some .boolean), Cond.methodLink RX5 128 yX2_wetBehind, Cond.instanceMethod yX2_wetBehind, Cond.selects RX2 yX2_wetBehind yX2_wetBehind]
def wsX5_isPipeDry_r2 : List Cond := [Cond.code yX2_wetBehind cX2_wetBehind 2 (some .int), Cond.fieldLink RX2 40 "ValveWalk$Network" "sources" "I", Cond.fieldLink RX2 66 "ValveWalk$Network" "shut" "I", Cond.methodLink RX2 72 yX2_reach, Cond.instanceMethod yX2_reach, Cond.selects RX2 yX2_reach yX2_reach, Cond.code yX2_reach cX2_reach 8 (some .int), Cond.fieldLink RX2 21 "ValveWalk$Network" "valveBitAt" "[I", Cond.fieldLink RX2 24 "ValveWalk$Network" "sidesAt" "[I", Cond.methodLink RX5 187 yX5_hasBit, Cond.static yX5_hasBit, Cond.code yX5_hasBit cX5_hasBit 2 (some .boolean)]
def wsX5_isPipeDry : List Cond := .code yX5_isPipeDry cX5_isPipeDry 2 (some .boolean) :: ((wsX5_isPipeDry_r1 ++ wsX5_isPipeDry_r2) ++ wsX50 ++ wsX20 ++ (vx_atS RX5 168 "java/lang/IndexOutOfBoundsException" ["java/lang/RuntimeException", "java/lang/Exception"]).filter goodWord)
def wsX5_supplied_r1 : List Cond := [Cond.fieldLink RX5 12 "ValveWalk" "network" "LValveWalk$Network;", Cond.methodLink RX5 128 yX2_wetBehind, Cond.instanceMethod yX2_wetBehind, Cond.selects RX2 yX2_wetBehind yX2_wetBehind, Cond.initialized RX2, Cond.code yX2_wetBehind cX2_wetBehind 2 (some .int), Cond.fieldLink RX2 40 "ValveWalk$Network" "sources" "I", Cond.fieldLink RX2 66 "ValveWalk$Network" "shut" "I", Cond.methodLink RX2 72 yX2_reach, Cond.instanceMethod yX2_reach, Cond.selects RX2 yX2_reach yX2_reach, Cond.code yX2_reach cX2_reach 8 (some .int), Cond.fieldLink RX2 34 "ValveWalk$Network" "pipeCount" "I", Cond.fieldLink RX2 21 "ValveWalk$Network" "valveBitAt" "[I", Cond.fieldLink RX2 24 "ValveWalk$Network" "sidesAt" "[I", Cond.methodLink RX5 131 yX2_customersOf, Cond.instanceMethod yX2_customersOf, Cond.selects RX2 yX2_customersOf yX2_customersOf, Cond.code yX2_customersOf cX2_customersOf 4 (some .int), Cond.fieldLink RX2 15 "ValveWalk$Network" "customers" "[I", Cond.static yX5_partOfPipe, Cond.initialized RX5, Cond.code yX5_partOfPipe cX5_partOfPipe 1 (some .int), Cond.static yX5_hasBit]
def wsX5_supplied_r2 : List Cond := [Cond.code yX5_hasBit cX5_hasBit 2 (some .boolean)]
def wsX5_supplied : List Cond := .code yX5_supplied cX5_supplied 1 (some .int) :: ((wsX5_supplied_r1 ++ wsX5_supplied_r2) ++ wsX50 ++ wsX20)
def wsX5_segments_r1 : List Cond := [Cond.fieldLink RX5 21 "ValveWalk" "parting" "LValveWalk$Segments;", Cond.methodLink RX5 134 yX3_count, Cond.instanceMethod yX3_count, Cond.selects RX3 yX3_count yX3_count, Cond.initialized RX3, Cond.code yX3_count cX3_count 1 (some .int), Cond.methodLink RX3 19 yX3_countBegunBelow, Cond.instanceMethod yX3_countBegunBelow, Cond.selects RX3 yX3_countBegunBelow yX3_countBegunBelow, Cond.code yX3_countBegunBelow cX3_countBegunBelow 5 (some .int), Cond.fieldLink RX3 15 "ValveWalk$Segments" "network" "LValveWalk$Network;", Cond.methodLink RX3 37 yX2_hasPart, Cond.instanceMethod yX2_hasPart, Cond.selects RX2 yX2_hasPart yX2_hasPart, Cond.initialized RX2, Cond.code yX2_hasPart cX2_hasPart 2 (some .boolean), Cond.fieldLink RX2 30 "ValveWalk$Network" "nodeCount" "I", Cond.fieldLink RX2 34 "ValveWalk$Network" "pipeCount" "I", Cond.static yX5_partOfPipe, Cond.initialized RX5, Cond.code yX5_partOfPipe cX5_partOfPipe 1 (some .int), Cond.static yX5_hasBit, Cond.code yX5_hasBit cX5_hasBit 2 (some .boolean), Cond.methodLink RX3 23 yX3_segmentWith]
def wsX5_segments_r2 : List Cond := [Cond.instanceMethod yX3_segmentWith, Cond.selects RX3 yX3_segmentWith yX3_segmentWith, Cond.code yX3_segmentWith cX3_segmentWith 2 (some .int), Cond.methodLink RX3 31 yX2_reach, Cond.instanceMethod yX2_reach, Cond.selects RX2 yX2_reach yX2_reach, Cond.code yX2_reach cX2_reach 8 (some .int), Cond.fieldLink RX2 21 "ValveWalk$Network" "valveBitAt" "[I", Cond.fieldLink RX2 24 "ValveWalk$Network" "sidesAt" "[I"]
def wsX5_segments : List Cond := .code yX5_segments cX5_segments 1 (some .int) :: ((wsX5_segments_r1 ++ wsX5_segments_r2) ++ wsX50 ++ wsX30 ++ wsX20)
def wsX5_segmentOfNode_r1 : List Cond := [Cond.fieldLink RX5 21 "ValveWalk" "parting" "LValveWalk$Segments;", Cond.methodLink RX5 61 yX5_requireNode, Cond.instanceMethod yX5_requireNode, Cond.selects RX5 yX5_requireNode yX5_requireNode, Cond.initialized RX5, Cond.code yX5_requireNode cX5_requireNode 2 none, Cond.classLink RX5 164 "java/lang/IndexOutOfBoundsException", Cond.initialized "java/lang/IndexOutOfBoundsException", Cond.fieldLink RX5 12 "ValveWalk" "network" "LValveWalk$Network;", Cond.methodLink RX5 46 yX2_nodeCount, Cond.instanceMethod yX2_nodeCount, Cond.selects RX2 yX2_nodeCount yX2_nodeCount, Cond.initialized RX2, Cond.code yX2_nodeCount cX2_nodeCount 1 (some .int), Cond.fieldLink RX2 30 "ValveWalk$Network" "nodeCount" "I", Cond.methodLink RX5 137 yX3_numberByWalking, Cond.instanceMethod yX3_numberByWalking, Cond.selects RX3 yX3_numberByWalking yX3_numberByWalking, Cond.initialized RX3, Cond.code yX3_numberByWalking cX3_numberByWalking 3 (some .int), Cond.methodLink RX3 23 yX3_segmentWith, Cond.instanceMethod yX3_segmentWith, Cond.selects RX3 yX3_segmentWith yX3_segmentWith, Cond.code yX3_segmentWith cX3_segmentWith 2 (some .int)]
def wsX5_segmentOfNode_r2 : List Cond := [Cond.fieldLink RX3 15 "ValveWalk$Segments" "network" "LValveWalk$Network;", Cond.methodLink RX3 31 yX2_reach, Cond.instanceMethod yX2_reach, Cond.selects RX2 yX2_reach yX2_reach, Cond.code yX2_reach cX2_reach 8 (some .int), Cond.fieldLink RX2 34 "ValveWalk$Network" "pipeCount" "I", Cond.fieldLink RX2 21 "ValveWalk$Network" "valveBitAt" "[I", Cond.fieldLink RX2 24 "ValveWalk$Network" "sidesAt" "[I", Cond.methodLink RX3 26 yJ6_numberOfTrailingZeros_0f7a4, Cond.static yJ6_numberOfTrailingZeros_0f7a4, Cond.initialized RJ6, Cond.code yJ6_numberOfTrailingZeros_0f7a4 cJ6_numberOfTrailingZeros_0f7a4 2 (some .int), Cond.constant RJ6 264 (65536), Cond.methodLink RX3 19 yX3_countBegunBelow, Cond.instanceMethod yX3_countBegunBelow, Cond.selects RX3 yX3_countBegunBelow yX3_countBegunBelow, Cond.code yX3_countBegunBelow cX3_countBegunBelow 5 (some .int), Cond.methodLink RX3 37 yX2_hasPart, Cond.instanceMethod yX2_hasPart, Cond.selects RX2 yX2_hasPart yX2_hasPart, Cond.code yX2_hasPart cX2_hasPart 2 (some .boolean), Cond.static yX5_partOfPipe, Cond.code yX5_partOfPipe cX5_partOfPipe 1 (some .int), Cond.static yX5_hasBit]
def wsX5_segmentOfNode_r3 : List Cond := [Cond.code yX5_hasBit cX5_hasBit 2 (some .boolean)]
def wsX5_segmentOfNode : List Cond := .code yX5_segmentOfNode cX5_segmentOfNode 2 (some .int) :: ((wsX5_segmentOfNode_r1 ++ (wsX5_segmentOfNode_r2 ++ wsX5_segmentOfNode_r3)) ++ wsX50 ++ wsX20 ++ wsX30 ++ (vx_atS RX5 168 "java/lang/IndexOutOfBoundsException" ["java/lang/RuntimeException", "java/lang/Exception"]).filter goodWord)
def wsX5_segmentOfPipe_r1 : List Cond := [Cond.fieldLink RX5 21 "ValveWalk" "parting" "LValveWalk$Segments;", Cond.methodLink RX5 83 yX5_requirePipe, Cond.instanceMethod yX5_requirePipe, Cond.selects RX5 yX5_requirePipe yX5_requirePipe, Cond.initialized RX5, Cond.code yX5_requirePipe cX5_requirePipe 2 none, Cond.classLink RX5 164 "java/lang/IndexOutOfBoundsException", Cond.initialized "java/lang/IndexOutOfBoundsException", Cond.fieldLink RX5 12 "ValveWalk" "network" "LValveWalk$Network;", Cond.methodLink RX5 74 yX2_pipeCount, Cond.instanceMethod yX2_pipeCount, Cond.selects RX2 yX2_pipeCount yX2_pipeCount, Cond.initialized RX2, Cond.code yX2_pipeCount cX2_pipeCount 1 (some .int), Cond.fieldLink RX2 34 "ValveWalk$Network" "pipeCount" "I", Cond.methodLink RX5 124 yX5_partOfPipe, Cond.static yX5_partOfPipe, Cond.code yX5_partOfPipe cX5_partOfPipe 1 (some .int), Cond.methodLink RX5 137 yX3_numberByWalking, Cond.instanceMethod yX3_numberByWalking, Cond.selects RX3 yX3_numberByWalking yX3_numberByWalking, Cond.initialized RX3, Cond.code yX3_numberByWalking cX3_numberByWalking 3 (some .int), Cond.methodLink RX3 23 yX3_segmentWith]
def wsX5_segmentOfPipe_r2 : List Cond := [Cond.instanceMethod yX3_segmentWith, Cond.selects RX3 yX3_segmentWith yX3_segmentWith, Cond.code yX3_segmentWith cX3_segmentWith 2 (some .int), Cond.fieldLink RX3 15 "ValveWalk$Segments" "network" "LValveWalk$Network;", Cond.methodLink RX3 31 yX2_reach, Cond.instanceMethod yX2_reach, Cond.selects RX2 yX2_reach yX2_reach, Cond.code yX2_reach cX2_reach 8 (some .int), Cond.fieldLink RX2 21 "ValveWalk$Network" "valveBitAt" "[I", Cond.fieldLink RX2 24 "ValveWalk$Network" "sidesAt" "[I", Cond.methodLink RX3 26 yJ6_numberOfTrailingZeros_0f7a4, Cond.static yJ6_numberOfTrailingZeros_0f7a4, Cond.initialized RJ6, Cond.code yJ6_numberOfTrailingZeros_0f7a4 cJ6_numberOfTrailingZeros_0f7a4 2 (some .int), Cond.constant RJ6 264 (65536), Cond.methodLink RX3 19 yX3_countBegunBelow, Cond.instanceMethod yX3_countBegunBelow, Cond.selects RX3 yX3_countBegunBelow yX3_countBegunBelow, Cond.code yX3_countBegunBelow cX3_countBegunBelow 5 (some .int), Cond.methodLink RX3 37 yX2_hasPart, Cond.instanceMethod yX2_hasPart, Cond.selects RX2 yX2_hasPart yX2_hasPart, Cond.code yX2_hasPart cX2_hasPart 2 (some .boolean), Cond.fieldLink RX2 30 "ValveWalk$Network" "nodeCount" "I"]
def wsX5_segmentOfPipe_r3 : List Cond := [Cond.static yX5_hasBit, Cond.code yX5_hasBit cX5_hasBit 2 (some .boolean)]
def wsX5_segmentOfPipe : List Cond := .code yX5_segmentOfPipe cX5_segmentOfPipe 2 (some .int) :: ((wsX5_segmentOfPipe_r1 ++ (wsX5_segmentOfPipe_r2 ++ wsX5_segmentOfPipe_r3)) ++ wsX50 ++ wsX20 ++ wsX30 ++ (vx_atS RX5 168 "java/lang/IndexOutOfBoundsException" ["java/lang/RuntimeException", "java/lang/Exception"]).filter goodWord)
def wsX5_segmentByMerging_r1 : List Cond := [Cond.fieldLink RX5 21 "ValveWalk" "parting" "LValveWalk$Segments;", Cond.methodLink RX5 83 yX5_requirePipe, Cond.instanceMethod yX5_requirePipe, Cond.selects RX5 yX5_requirePipe yX5_requirePipe, Cond.initialized RX5, Cond.code yX5_requirePipe cX5_requirePipe 2 none, Cond.classLink RX5 164 "java/lang/IndexOutOfBoundsException", Cond.initialized "java/lang/IndexOutOfBoundsException", Cond.fieldLink RX5 12 "ValveWalk" "network" "LValveWalk$Network;", Cond.methodLink RX5 74 yX2_pipeCount, Cond.instanceMethod yX2_pipeCount, Cond.selects RX2 yX2_pipeCount yX2_pipeCount, Cond.initialized RX2, Cond.code yX2_pipeCount cX2_pipeCount 1 (some .int), Cond.fieldLink RX2 34 "ValveWalk$Network" "pipeCount" "I", Cond.methodLink RX5 124 yX5_partOfPipe, Cond.static yX5_partOfPipe, Cond.code yX5_partOfPipe cX5_partOfPipe 1 (some .int), Cond.methodLink RX5 140 yX3_numberByMerging, Cond.instanceMethod yX3_numberByMerging, Cond.selects RX3 yX3_numberByMerging yX3_numberByMerging, Cond.initialized RX3, Cond.code yX3_numberByMerging cX3_numberByMerging 5 (some .int), Cond.fieldLink RX3 15 "ValveWalk$Segments" "network" "LValveWalk$Network;"]
def wsX5_segmentByMerging_r2 : List Cond := [Cond.methodLink RX3 45 yX3_mergePipes, Cond.instanceMethod yX3_mergePipes, Cond.selects RX3 yX3_mergePipes yX3_mergePipes, Cond.code yX3_mergePipes cX3_mergePipes 3 none, Cond.fieldLink RX3 9 "ValveWalk$Segments" "earlier" "[I", Cond.methodLink RX3 51 yX2_pipeCount, Cond.methodLink RX3 55 yX2_valveBitAt, Cond.instanceMethod yX2_valveBitAt, Cond.selects RX2 yX2_valveBitAt yX2_valveBitAt, Cond.code yX2_valveBitAt cX2_valveBitAt 3 (some .int), Cond.fieldLink RX2 21 "ValveWalk$Network" "valveBitAt" "[I", Cond.methodLink RX3 61 yX2_nodeAt, Cond.instanceMethod yX2_nodeAt, Cond.selects RX2 yX2_nodeAt yX2_nodeAt, Cond.code yX2_nodeAt cX2_nodeAt 3 (some .int), Cond.fieldLink RX2 18 "ValveWalk$Network" "nodeAt" "[I", Cond.methodLink RX3 64 yX3_merge, Cond.instanceMethod yX3_merge, Cond.selects RX3 yX3_merge yX3_merge, Cond.code yX3_merge cX3_merge 5 none, Cond.methodLink RX3 68 Lib.Math.max.name, Cond.static Lib.Math.max.name, Cond.initialized "java/lang/Math", Cond.code Lib.Math.max.name Lib.Math.max.code 2 (some .int)]
def wsX5_segmentByMerging_r3 : List Cond := [Cond.methodLink RX3 73 Lib.Math.min.name, Cond.static Lib.Math.min.name, Cond.code Lib.Math.min.name Lib.Math.min.code 2 (some .int), Cond.methodLink RX3 48 yX3_firstOfSet, Cond.instanceMethod yX3_firstOfSet, Cond.selects RX3 yX3_firstOfSet yX3_firstOfSet, Cond.code yX3_firstOfSet cX3_firstOfSet 4 (some .int), Cond.methodLink RX3 37 yX2_hasPart, Cond.instanceMethod yX2_hasPart, Cond.selects RX2 yX2_hasPart yX2_hasPart, Cond.code yX2_hasPart cX2_hasPart 2 (some .boolean), Cond.fieldLink RX2 30 "ValveWalk$Network" "nodeCount" "I"]
def wsX5_segmentByMerging : List Cond := .code yX5_segmentByMerging cX5_segmentByMerging 2 (some .int) :: ((wsX5_segmentByMerging_r1 ++ (wsX5_segmentByMerging_r2 ++ wsX5_segmentByMerging_r3)) ++ wsX50 ++ wsX20 ++ wsX30 ++ (vx_atS RX5 168 "java/lang/IndexOutOfBoundsException" ["java/lang/RuntimeException", "java/lang/Exception"]).filter goodWord)
def wsX5_regionWithoutSource_r1 : List Cond := [Cond.classLink RX5 50 "java/lang/IllegalStateException", Cond.initialized "java/lang/IllegalStateException", Cond.fieldLink RX5 28 "ValveWalk" "breaks" "LValveWalk$Breaks;", Cond.fieldLink RX5 12 "ValveWalk" "network" "LValveWalk$Network;", Cond.methodLink RX5 191 yX0_regionOf, Cond.instanceMethod yX0_regionOf, Cond.selects RX0 yX0_regionOf yX0_regionOf, Cond.initialized RX0, Cond.code yX0_regionOf cX0_regionOf 2 (some .int), Cond.static yX5_partOfPipe, Cond.initialized RX5, Cond.code yX5_partOfPipe cX5_partOfPipe 1 (some .int), Cond.methodLink RX0 35 yX0_regionWith, Cond.instanceMethod yX0_regionWith, Cond.selects RX0 yX0_regionWith yX0_regionWith, Cond.code yX0_regionWith cX0_regionWith 2 (some .int), Cond.fieldLink RX0 27 "ValveWalk$Breaks" "network" "LValveWalk$Network;", Cond.methodLink RX0 38 yX2_bounding, Cond.instanceMethod yX2_bounding, Cond.selects RX2 yX2_bounding yX2_bounding, Cond.initialized RX2, Cond.code yX2_bounding cX2_bounding 1 (some .int), Cond.fieldLink RX2 63 "ValveWalk$Network" "stuck" "I", Cond.fieldLink RX2 66 "ValveWalk$Network" "shut" "I"]
def wsX5_regionWithoutSource_r2 : List Cond := [Cond.methodLink RX0 44 yX2_reach, Cond.instanceMethod yX2_reach, Cond.selects RX2 yX2_reach yX2_reach, Cond.code yX2_reach cX2_reach 8 (some .int), Cond.fieldLink RX2 34 "ValveWalk$Network" "pipeCount" "I", Cond.fieldLink RX2 21 "ValveWalk$Network" "valveBitAt" "[I", Cond.fieldLink RX2 24 "ValveWalk$Network" "sidesAt" "[I", Cond.methodLink RX5 194 yX2_sources, Cond.instanceMethod yX2_sources, Cond.selects RX2 yX2_sources yX2_sources, Cond.code yX2_sources cX2_sources 1 (some .int), Cond.fieldLink RX2 40 "ValveWalk$Network" "sources" "I"]
def wsX5_regionWithoutSource : List Cond := .code yX5_regionWithoutSource cX5_regionWithoutSource 3 (some .int) :: ((wsX5_regionWithoutSource_r1 ++ wsX5_regionWithoutSource_r2) ++ wsX50 ++ wsX00 ++ wsX20 ++ (vx_atS RX5 54 "java/lang/IllegalStateException" ["java/lang/RuntimeException", "java/lang/Exception"]).filter goodWord)
def wsX5_ring_r1 : List Cond := [Cond.fieldLink RX5 28 "ValveWalk" "breaks" "LValveWalk$Breaks;", Cond.methodLink RX5 83 yX5_requirePipe, Cond.instanceMethod yX5_requirePipe, Cond.selects RX5 yX5_requirePipe yX5_requirePipe, Cond.initialized RX5, Cond.code yX5_requirePipe cX5_requirePipe 2 none, Cond.classLink RX5 164 "java/lang/IndexOutOfBoundsException", Cond.initialized "java/lang/IndexOutOfBoundsException", Cond.fieldLink RX5 12 "ValveWalk" "network" "LValveWalk$Network;", Cond.methodLink RX5 74 yX2_pipeCount, Cond.instanceMethod yX2_pipeCount, Cond.selects RX2 yX2_pipeCount yX2_pipeCount, Cond.initialized RX2, Cond.code yX2_pipeCount cX2_pipeCount 1 (some .int), Cond.fieldLink RX2 34 "ValveWalk$Network" "pipeCount" "I", Cond.methodLink RX5 143 yX5_regionWithoutSource, Cond.instanceMethod yX5_regionWithoutSource, Cond.selects RX5 yX5_regionWithoutSource yX5_regionWithoutSource, Cond.code yX5_regionWithoutSource cX5_regionWithoutSource 3 (some .int), Cond.classLink RX5 50 "java/lang/IllegalStateException", Cond.initialized "java/lang/IllegalStateException", Cond.methodLink RX5 191 yX0_regionOf, Cond.instanceMethod yX0_regionOf, Cond.selects RX0 yX0_regionOf yX0_regionOf]
def wsX5_ring_r2 : List Cond := [Cond.initialized RX0, Cond.code yX0_regionOf cX0_regionOf 2 (some .int), Cond.static yX5_partOfPipe, Cond.code yX5_partOfPipe cX5_partOfPipe 1 (some .int), Cond.methodLink RX0 35 yX0_regionWith, Cond.instanceMethod yX0_regionWith, Cond.selects RX0 yX0_regionWith yX0_regionWith, Cond.code yX0_regionWith cX0_regionWith 2 (some .int), Cond.fieldLink RX0 27 "ValveWalk$Breaks" "network" "LValveWalk$Network;", Cond.methodLink RX0 38 yX2_bounding, Cond.instanceMethod yX2_bounding, Cond.selects RX2 yX2_bounding yX2_bounding, Cond.code yX2_bounding cX2_bounding 1 (some .int), Cond.fieldLink RX2 63 "ValveWalk$Network" "stuck" "I", Cond.fieldLink RX2 66 "ValveWalk$Network" "shut" "I", Cond.methodLink RX0 44 yX2_reach, Cond.instanceMethod yX2_reach, Cond.selects RX2 yX2_reach yX2_reach, Cond.code yX2_reach cX2_reach 8 (some .int), Cond.fieldLink RX2 21 "ValveWalk$Network" "valveBitAt" "[I", Cond.fieldLink RX2 24 "ValveWalk$Network" "sidesAt" "[I", Cond.methodLink RX5 194 yX2_sources, Cond.instanceMethod yX2_sources, Cond.selects RX2 yX2_sources yX2_sources]
def wsX5_ring_r3 : List Cond := [Cond.code yX2_sources cX2_sources 1 (some .int), Cond.fieldLink RX2 40 "ValveWalk$Network" "sources" "I", Cond.methodLink RX5 146 yX0_ringOf, Cond.instanceMethod yX0_ringOf, Cond.selects RX0 yX0_ringOf yX0_ringOf, Cond.code yX0_ringOf cX0_ringOf 6 (some .int), Cond.methodLink RX0 51 yX2_valveCount, Cond.instanceMethod yX2_valveCount, Cond.selects RX2 yX2_valveCount yX2_valveCount, Cond.code yX2_valveCount cX2_valveCount 1 (some .int), Cond.fieldLink RX2 37 "ValveWalk$Network" "valveCount" "I", Cond.methodLink RX0 54 yX2_pipeOfValve, Cond.instanceMethod yX2_pipeOfValve, Cond.selects RX2 yX2_pipeOfValve yX2_pipeOfValve, Cond.code yX2_pipeOfValve cX2_pipeOfValve 2 (some .int), Cond.fieldLink RX2 27 "ValveWalk$Network" "jointOf" "[I", Cond.static yX5_hasBit, Cond.code yX5_hasBit cX5_hasBit 2 (some .boolean), Cond.methodLink RX0 61 yX2_nodeOfValve, Cond.instanceMethod yX2_nodeOfValve, Cond.selects RX2 yX2_nodeOfValve yX2_nodeOfValve, Cond.code yX2_nodeOfValve cX2_nodeOfValve 2 (some .int), Cond.fieldLink RX2 18 "ValveWalk$Network" "nodeAt" "[I", Cond.methodLink RX0 64 yX2_closable]
def wsX5_ring_r4 : List Cond := [Cond.instanceMethod yX2_closable, Cond.selects RX2 yX2_closable yX2_closable, Cond.code yX2_closable cX2_closable 1 (some .int)]
def wsX5_ring : List Cond := .code yX5_ring cX5_ring 2 (some .int) :: ((wsX5_ring_r1 ++ (wsX5_ring_r2 ++ (wsX5_ring_r3 ++ wsX5_ring_r4))) ++ wsX50 ++ wsX20 ++ wsX00 ++ (vx_atS RX5 168 "java/lang/IndexOutOfBoundsException" ["java/lang/RuntimeException", "java/lang/Exception"]).filter goodWord ++ (vx_atS RX5 54 "java/lang/IllegalStateException" ["java/lang/RuntimeException", "java/lang/Exception"]).filter goodWord)
def wsX5_cutOff_r1 : List Cond := [Cond.fieldLink RX5 28 "ValveWalk" "breaks" "LValveWalk$Breaks;", Cond.methodLink RX5 83 yX5_requirePipe, Cond.instanceMethod yX5_requirePipe, Cond.selects RX5 yX5_requirePipe yX5_requirePipe, Cond.initialized RX5, Cond.code yX5_requirePipe cX5_requirePipe 2 none, Cond.classLink RX5 164 "java/lang/IndexOutOfBoundsException", Cond.initialized "java/lang/IndexOutOfBoundsException", Cond.fieldLink RX5 12 "ValveWalk" "network" "LValveWalk$Network;", Cond.methodLink RX5 74 yX2_pipeCount, Cond.instanceMethod yX2_pipeCount, Cond.selects RX2 yX2_pipeCount yX2_pipeCount, Cond.initialized RX2, Cond.code yX2_pipeCount cX2_pipeCount 1 (some .int), Cond.fieldLink RX2 34 "ValveWalk$Network" "pipeCount" "I", Cond.methodLink RX5 143 yX5_regionWithoutSource, Cond.instanceMethod yX5_regionWithoutSource, Cond.selects RX5 yX5_regionWithoutSource yX5_regionWithoutSource, Cond.code yX5_regionWithoutSource cX5_regionWithoutSource 3 (some .int), Cond.classLink RX5 50 "java/lang/IllegalStateException", Cond.initialized "java/lang/IllegalStateException", Cond.methodLink RX5 191 yX0_regionOf, Cond.instanceMethod yX0_regionOf, Cond.selects RX0 yX0_regionOf yX0_regionOf]
def wsX5_cutOff_r2 : List Cond := [Cond.initialized RX0, Cond.code yX0_regionOf cX0_regionOf 2 (some .int), Cond.static yX5_partOfPipe, Cond.code yX5_partOfPipe cX5_partOfPipe 1 (some .int), Cond.methodLink RX0 35 yX0_regionWith, Cond.instanceMethod yX0_regionWith, Cond.selects RX0 yX0_regionWith yX0_regionWith, Cond.code yX0_regionWith cX0_regionWith 2 (some .int), Cond.fieldLink RX0 27 "ValveWalk$Breaks" "network" "LValveWalk$Network;", Cond.methodLink RX0 38 yX2_bounding, Cond.instanceMethod yX2_bounding, Cond.selects RX2 yX2_bounding yX2_bounding, Cond.code yX2_bounding cX2_bounding 1 (some .int), Cond.fieldLink RX2 63 "ValveWalk$Network" "stuck" "I", Cond.fieldLink RX2 66 "ValveWalk$Network" "shut" "I", Cond.methodLink RX0 44 yX2_reach, Cond.instanceMethod yX2_reach, Cond.selects RX2 yX2_reach yX2_reach, Cond.code yX2_reach cX2_reach 8 (some .int), Cond.fieldLink RX2 21 "ValveWalk$Network" "valveBitAt" "[I", Cond.fieldLink RX2 24 "ValveWalk$Network" "sidesAt" "[I", Cond.methodLink RX5 194 yX2_sources, Cond.instanceMethod yX2_sources, Cond.selects RX2 yX2_sources yX2_sources]
def wsX5_cutOff_r3 : List Cond := [Cond.code yX2_sources cX2_sources 1 (some .int), Cond.fieldLink RX2 40 "ValveWalk$Network" "sources" "I", Cond.methodLink RX5 149 yX0_customersLost, Cond.instanceMethod yX0_customersLost, Cond.selects RX0 yX0_customersLost yX0_customersLost, Cond.code yX0_customersLost cX0_customersLost 4 (some .int), Cond.methodLink RX0 67 yX2_wetBehind, Cond.instanceMethod yX2_wetBehind, Cond.selects RX2 yX2_wetBehind yX2_wetBehind, Cond.code yX2_wetBehind cX2_wetBehind 2 (some .int), Cond.methodLink RX2 72 yX2_reach, Cond.methodLink RX0 70 yX0_ringOf, Cond.instanceMethod yX0_ringOf, Cond.selects RX0 yX0_ringOf yX0_ringOf, Cond.code yX0_ringOf cX0_ringOf 6 (some .int), Cond.methodLink RX0 51 yX2_valveCount, Cond.instanceMethod yX2_valveCount, Cond.selects RX2 yX2_valveCount yX2_valveCount, Cond.code yX2_valveCount cX2_valveCount 1 (some .int), Cond.fieldLink RX2 37 "ValveWalk$Network" "valveCount" "I", Cond.methodLink RX0 54 yX2_pipeOfValve, Cond.instanceMethod yX2_pipeOfValve, Cond.selects RX2 yX2_pipeOfValve yX2_pipeOfValve, Cond.code yX2_pipeOfValve cX2_pipeOfValve 2 (some .int)]
def wsX5_cutOff_r4 : List Cond := [Cond.fieldLink RX2 27 "ValveWalk$Network" "jointOf" "[I", Cond.static yX5_hasBit, Cond.code yX5_hasBit cX5_hasBit 2 (some .boolean), Cond.methodLink RX0 61 yX2_nodeOfValve, Cond.instanceMethod yX2_nodeOfValve, Cond.selects RX2 yX2_nodeOfValve yX2_nodeOfValve, Cond.code yX2_nodeOfValve cX2_nodeOfValve 2 (some .int), Cond.fieldLink RX2 18 "ValveWalk$Network" "nodeAt" "[I", Cond.methodLink RX0 64 yX2_closable, Cond.instanceMethod yX2_closable, Cond.selects RX2 yX2_closable yX2_closable, Cond.code yX2_closable cX2_closable 1 (some .int), Cond.methodLink RX0 73 yX2_customersOf, Cond.instanceMethod yX2_customersOf, Cond.selects RX2 yX2_customersOf yX2_customersOf, Cond.code yX2_customersOf cX2_customersOf 4 (some .int), Cond.fieldLink RX2 15 "ValveWalk$Network" "customers" "[I"]
def wsX5_cutOff : List Cond := .code yX5_cutOff cX5_cutOff 2 (some .int) :: ((wsX5_cutOff_r1 ++ (wsX5_cutOff_r2 ++ (wsX5_cutOff_r3 ++ wsX5_cutOff_r4))) ++ wsX50 ++ wsX20 ++ wsX00 ++ (vx_atS RX5 168 "java/lang/IndexOutOfBoundsException" ["java/lang/RuntimeException", "java/lang/Exception"]).filter goodWord ++ (vx_atS RX5 54 "java/lang/IllegalStateException" ["java/lang/RuntimeException", "java/lang/Exception"]).filter goodWord)
def wsX5_fewest_r1 : List Cond := [Cond.fieldLink RX5 28 "ValveWalk" "breaks" "LValveWalk$Breaks;", Cond.methodLink RX5 83 yX5_requirePipe, Cond.instanceMethod yX5_requirePipe, Cond.selects RX5 yX5_requirePipe yX5_requirePipe, Cond.initialized RX5, Cond.code yX5_requirePipe cX5_requirePipe 2 none, Cond.classLink RX5 164 "java/lang/IndexOutOfBoundsException", Cond.initialized "java/lang/IndexOutOfBoundsException", Cond.fieldLink RX5 12 "ValveWalk" "network" "LValveWalk$Network;", Cond.methodLink RX5 74 yX2_pipeCount, Cond.instanceMethod yX2_pipeCount, Cond.selects RX2 yX2_pipeCount yX2_pipeCount, Cond.initialized RX2, Cond.code yX2_pipeCount cX2_pipeCount 1 (some .int), Cond.fieldLink RX2 34 "ValveWalk$Network" "pipeCount" "I", Cond.methodLink RX5 152 yX0_countWays, Cond.instanceMethod yX0_countWays, Cond.selects RX0 yX0_countWays yX0_countWays, Cond.initialized RX0, Cond.code yX0_countWays cX0_countWays 5 (some .int), Cond.fieldLink RX0 18 "ValveWalk$Breaks" "ways" "[I", Cond.methodLink RX0 76 yX0_regionOf, Cond.instanceMethod yX0_regionOf, Cond.selects RX0 yX0_regionOf yX0_regionOf]
def wsX5_fewest_r2 : List Cond := [Cond.code yX0_regionOf cX0_regionOf 2 (some .int), Cond.static yX5_partOfPipe, Cond.code yX5_partOfPipe cX5_partOfPipe 1 (some .int), Cond.methodLink RX0 35 yX0_regionWith, Cond.instanceMethod yX0_regionWith, Cond.selects RX0 yX0_regionWith yX0_regionWith, Cond.code yX0_regionWith cX0_regionWith 2 (some .int), Cond.fieldLink RX0 27 "ValveWalk$Breaks" "network" "LValveWalk$Network;", Cond.methodLink RX0 38 yX2_bounding, Cond.instanceMethod yX2_bounding, Cond.selects RX2 yX2_bounding yX2_bounding, Cond.code yX2_bounding cX2_bounding 1 (some .int), Cond.fieldLink RX2 63 "ValveWalk$Network" "stuck" "I", Cond.fieldLink RX2 66 "ValveWalk$Network" "shut" "I", Cond.methodLink RX0 44 yX2_reach, Cond.instanceMethod yX2_reach, Cond.selects RX2 yX2_reach yX2_reach, Cond.code yX2_reach cX2_reach 8 (some .int), Cond.fieldLink RX2 21 "ValveWalk$Network" "valveBitAt" "[I", Cond.fieldLink RX2 24 "ValveWalk$Network" "sidesAt" "[I", Cond.methodLink RX0 79 yX0_regionsWithSources, Cond.instanceMethod yX0_regionsWithSources, Cond.selects RX0 yX0_regionsWithSources yX0_regionsWithSources, Cond.code yX0_regionsWithSources cX0_regionsWithSources 1 (some .int)]
def wsX5_fewest_r3 : List Cond := [Cond.methodLink RX0 48 yX2_sources, Cond.instanceMethod yX2_sources, Cond.selects RX2 yX2_sources yX2_sources, Cond.code yX2_sources cX2_sources 1 (some .int), Cond.fieldLink RX2 40 "ValveWalk$Network" "sources" "I", Cond.methodLink RX0 82 yX0_findRegionsOfValves, Cond.instanceMethod yX0_findRegionsOfValves, Cond.selects RX0 yX0_findRegionsOfValves yX0_findRegionsOfValves, Cond.code yX0_findRegionsOfValves cX0_findRegionsOfValves 2 none, Cond.fieldLink RX0 9 "ValveWalk$Breaks" "pipeRegions" "[I", Cond.fieldLink RX0 15 "ValveWalk$Breaks" "nodeRegions" "[I", Cond.methodLink RX0 51 yX2_valveCount, Cond.instanceMethod yX2_valveCount, Cond.selects RX2 yX2_valveCount yX2_valveCount, Cond.code yX2_valveCount cX2_valveCount 1 (some .int), Cond.fieldLink RX2 37 "ValveWalk$Network" "valveCount" "I", Cond.methodLink RX0 54 yX2_pipeOfValve, Cond.instanceMethod yX2_pipeOfValve, Cond.selects RX2 yX2_pipeOfValve yX2_pipeOfValve, Cond.code yX2_pipeOfValve cX2_pipeOfValve 2 (some .int), Cond.fieldLink RX2 27 "ValveWalk$Network" "jointOf" "[I", Cond.methodLink RX0 61 yX2_nodeOfValve, Cond.instanceMethod yX2_nodeOfValve, Cond.selects RX2 yX2_nodeOfValve yX2_nodeOfValve]
def wsX5_fewest_r4 : List Cond := [Cond.code yX2_nodeOfValve cX2_nodeOfValve 2 (some .int), Cond.fieldLink RX2 18 "ValveWalk$Network" "nodeAt" "[I", Cond.methodLink RX0 85 yX0_addWay, Cond.instanceMethod yX0_addWay, Cond.selects RX0 yX0_addWay yX0_addWay, Cond.code yX0_addWay cX0_addWay 9 (some .boolean), Cond.fieldLink RX0 21 "ValveWalk$Breaks" "crossed" "[I", Cond.fieldLink RX0 24 "ValveWalk$Breaks" "directions" "[I", Cond.methodLink RX0 88 yX0_directionAcross, Cond.instanceMethod yX0_directionAcross, Cond.selects RX0 yX0_directionAcross yX0_directionAcross, Cond.code yX0_directionAcross cX0_directionAcross 6 (some .int), Cond.methodLink RX0 64 yX2_closable, Cond.instanceMethod yX2_closable, Cond.selects RX2 yX2_closable yX2_closable, Cond.code yX2_closable cX2_closable 1 (some .int), Cond.static yX5_hasBit, Cond.code yX5_hasBit cX5_hasBit 2 (some .boolean), Cond.methodLink RX0 91 yX0_keepWayTo, Cond.instanceMethod yX0_keepWayTo, Cond.selects RX0 yX0_keepWayTo yX0_keepWayTo, Cond.code yX0_keepWayTo cX0_keepWayTo 8 none]
def wsX5_fewest : List Cond := .code yX5_fewest cX5_fewest 2 (some .int) :: ((wsX5_fewest_r1 ++ (wsX5_fewest_r2 ++ (wsX5_fewest_r3 ++ wsX5_fewest_r4))) ++ wsX50 ++ wsX20 ++ wsX00 ++ (vx_atS RX5 168 "java/lang/IndexOutOfBoundsException" ["java/lang/RuntimeException", "java/lang/Exception"]).filter goodWord)
def wsX5_fewestByTrying_r1 : List Cond := [Cond.fieldLink RX5 28 "ValveWalk" "breaks" "LValveWalk$Breaks;", Cond.methodLink RX5 83 yX5_requirePipe, Cond.instanceMethod yX5_requirePipe, Cond.selects RX5 yX5_requirePipe yX5_requirePipe, Cond.initialized RX5, Cond.code yX5_requirePipe cX5_requirePipe 2 none, Cond.classLink RX5 164 "java/lang/IndexOutOfBoundsException", Cond.initialized "java/lang/IndexOutOfBoundsException", Cond.fieldLink RX5 12 "ValveWalk" "network" "LValveWalk$Network;", Cond.methodLink RX5 74 yX2_pipeCount, Cond.instanceMethod yX2_pipeCount, Cond.selects RX2 yX2_pipeCount yX2_pipeCount, Cond.initialized RX2, Cond.code yX2_pipeCount cX2_pipeCount 1 (some .int), Cond.fieldLink RX2 34 "ValveWalk$Network" "pipeCount" "I", Cond.methodLink RX5 155 yX0_trySets, Cond.instanceMethod yX0_trySets, Cond.selects RX0 yX0_trySets yX0_trySets, Cond.initialized RX0, Cond.code yX0_trySets cX0_trySets 9 (some .int), Cond.fieldLink RX0 27 "ValveWalk$Breaks" "network" "LValveWalk$Network;", Cond.methodLink RX0 76 yX0_regionOf, Cond.instanceMethod yX0_regionOf, Cond.selects RX0 yX0_regionOf yX0_regionOf]
def wsX5_fewestByTrying_r2 : List Cond := [Cond.code yX0_regionOf cX0_regionOf 2 (some .int), Cond.static yX5_partOfPipe, Cond.code yX5_partOfPipe cX5_partOfPipe 1 (some .int), Cond.methodLink RX0 35 yX0_regionWith, Cond.instanceMethod yX0_regionWith, Cond.selects RX0 yX0_regionWith yX0_regionWith, Cond.code yX0_regionWith cX0_regionWith 2 (some .int), Cond.methodLink RX0 38 yX2_bounding, Cond.instanceMethod yX2_bounding, Cond.selects RX2 yX2_bounding yX2_bounding, Cond.code yX2_bounding cX2_bounding 1 (some .int), Cond.fieldLink RX2 63 "ValveWalk$Network" "stuck" "I", Cond.fieldLink RX2 66 "ValveWalk$Network" "shut" "I", Cond.methodLink RX0 44 yX2_reach, Cond.instanceMethod yX2_reach, Cond.selects RX2 yX2_reach yX2_reach, Cond.code yX2_reach cX2_reach 8 (some .int), Cond.fieldLink RX2 21 "ValveWalk$Network" "valveBitAt" "[I", Cond.fieldLink RX2 24 "ValveWalk$Network" "sidesAt" "[I", Cond.methodLink RX0 79 yX0_regionsWithSources, Cond.instanceMethod yX0_regionsWithSources, Cond.selects RX0 yX0_regionsWithSources yX0_regionsWithSources, Cond.code yX0_regionsWithSources cX0_regionsWithSources 1 (some .int), Cond.methodLink RX0 48 yX2_sources]
def wsX5_fewestByTrying_r3 : List Cond := [Cond.instanceMethod yX2_sources, Cond.selects RX2 yX2_sources yX2_sources, Cond.code yX2_sources cX2_sources 1 (some .int), Cond.fieldLink RX2 40 "ValveWalk$Network" "sources" "I", Cond.methodLink RX0 82 yX0_findRegionsOfValves, Cond.instanceMethod yX0_findRegionsOfValves, Cond.selects RX0 yX0_findRegionsOfValves yX0_findRegionsOfValves, Cond.code yX0_findRegionsOfValves cX0_findRegionsOfValves 2 none, Cond.fieldLink RX0 9 "ValveWalk$Breaks" "pipeRegions" "[I", Cond.fieldLink RX0 15 "ValveWalk$Breaks" "nodeRegions" "[I", Cond.methodLink RX0 51 yX2_valveCount, Cond.instanceMethod yX2_valveCount, Cond.selects RX2 yX2_valveCount yX2_valveCount, Cond.code yX2_valveCount cX2_valveCount 1 (some .int), Cond.fieldLink RX2 37 "ValveWalk$Network" "valveCount" "I", Cond.methodLink RX0 54 yX2_pipeOfValve, Cond.instanceMethod yX2_pipeOfValve, Cond.selects RX2 yX2_pipeOfValve yX2_pipeOfValve, Cond.code yX2_pipeOfValve cX2_pipeOfValve 2 (some .int), Cond.fieldLink RX2 27 "ValveWalk$Network" "jointOf" "[I", Cond.methodLink RX0 61 yX2_nodeOfValve, Cond.instanceMethod yX2_nodeOfValve, Cond.selects RX2 yX2_nodeOfValve yX2_nodeOfValve, Cond.code yX2_nodeOfValve cX2_nodeOfValve 2 (some .int)]
def wsX5_fewestByTrying_r4 : List Cond := [Cond.fieldLink RX2 18 "ValveWalk$Network" "nodeAt" "[I", Cond.methodLink RX0 64 yX2_closable, Cond.instanceMethod yX2_closable, Cond.selects RX2 yX2_closable yX2_closable, Cond.code yX2_closable cX2_closable 1 (some .int), Cond.methodLink RX0 95 yX0_wetOver, Cond.instanceMethod yX0_wetOver, Cond.selects RX0 yX0_wetOver yX0_wetOver, Cond.code yX0_wetOver cX0_wetOver 8 (some .int), Cond.static yX5_hasBit, Cond.code yX5_hasBit cX5_hasBit 2 (some .boolean), Cond.methodLink RX0 98 yX0_setBehind, Cond.static yX0_setBehind, Cond.code yX0_setBehind cX0_setBehind 5 (some .int), Cond.methodLink RX0 101 yJ6_bitCount_0f7a4, Cond.static yJ6_bitCount_0f7a4, Cond.initialized RJ6, Cond.code yJ6_bitCount_0f7a4 cJ6_bitCount_0f7a4 1 (some .int), Cond.constant RJ6 265 (1431655765), Cond.constant RJ6 266 (858993459), Cond.constant RJ6 267 (252645135)]
def wsX5_fewestByTrying : List Cond := .code yX5_fewestByTrying cX5_fewestByTrying 2 (some .int) :: ((wsX5_fewestByTrying_r1 ++ (wsX5_fewestByTrying_r2 ++ (wsX5_fewestByTrying_r3 ++ wsX5_fewestByTrying_r4))) ++ wsX50 ++ wsX20 ++ wsX00 ++ (vx_atS RX5 168 "java/lang/IndexOutOfBoundsException" ["java/lang/RuntimeException", "java/lang/Exception"]).filter goodWord)
def wsX5_distance_r1 : List Cond := [Cond.fieldLink RX5 35 "ValveWalk" "flushing" "LValveWalk$Flushing;", Cond.methodLink RX5 61 yX5_requireNode, Cond.instanceMethod yX5_requireNode, Cond.selects RX5 yX5_requireNode yX5_requireNode, Cond.initialized RX5, Cond.code yX5_requireNode cX5_requireNode 2 none, Cond.classLink RX5 164 "java/lang/IndexOutOfBoundsException", Cond.initialized "java/lang/IndexOutOfBoundsException", Cond.fieldLink RX5 12 "ValveWalk" "network" "LValveWalk$Network;", Cond.methodLink RX5 46 yX2_nodeCount, Cond.instanceMethod yX2_nodeCount, Cond.selects RX2 yX2_nodeCount yX2_nodeCount, Cond.initialized RX2, Cond.code yX2_nodeCount cX2_nodeCount 1 (some .int), Cond.fieldLink RX2 30 "ValveWalk$Network" "nodeCount" "I", Cond.methodLink RX5 158 yX1_distanceOf, Cond.instanceMethod yX1_distanceOf, Cond.selects RX1 yX1_distanceOf yX1_distanceOf, Cond.initialized RX1, Cond.code yX1_distanceOf cX1_distanceOf 2 (some .int), Cond.fieldLink RX1 9 "ValveWalk$Flushing" "distances" "[I", Cond.constant RX1 22 (1000000), Cond.methodLink RX1 19 yX1_measure, Cond.instanceMethod yX1_measure]
def wsX5_distance_r2 : List Cond := [Cond.selects RX1 yX1_measure yX1_measure, Cond.code yX1_measure cX1_measure 3 none, Cond.fieldLink RX1 15 "ValveWalk$Flushing" "network" "LValveWalk$Network;", Cond.methodLink RX1 23 yX2_sources, Cond.instanceMethod yX2_sources, Cond.selects RX2 yX2_sources yX2_sources, Cond.code yX2_sources cX2_sources 1 (some .int), Cond.fieldLink RX2 40 "ValveWalk$Network" "sources" "I", Cond.static yX5_hasBit, Cond.code yX5_hasBit cX5_hasBit 2 (some .boolean), Cond.methodLink RX1 33 yX2_nodeCount, Cond.methodLink RX1 36 yX2_pipeCount, Cond.instanceMethod yX2_pipeCount, Cond.selects RX2 yX2_pipeCount yX2_pipeCount, Cond.code yX2_pipeCount cX2_pipeCount 1 (some .int), Cond.fieldLink RX2 34 "ValveWalk$Network" "pipeCount" "I", Cond.methodLink RX1 39 yX2_isShutAt, Cond.instanceMethod yX2_isShutAt, Cond.selects RX2 yX2_isShutAt yX2_isShutAt, Cond.code yX2_isShutAt cX2_isShutAt 3 (some .boolean), Cond.fieldLink RX2 66 "ValveWalk$Network" "shut" "I", Cond.methodLink RX2 69 yX2_valveBitAt, Cond.instanceMethod yX2_valveBitAt, Cond.selects RX2 yX2_valveBitAt yX2_valveBitAt]
def wsX5_distance_r3 : List Cond := [Cond.code yX2_valveBitAt cX2_valveBitAt 3 (some .int), Cond.fieldLink RX2 21 "ValveWalk$Network" "valveBitAt" "[I", Cond.methodLink RX1 42 yX1_shorten, Cond.instanceMethod yX1_shorten, Cond.selects RX1 yX1_shorten yX1_shorten, Cond.code yX1_shorten cX1_shorten 5 none, Cond.methodLink RX1 54 Lib.Math.min.name, Cond.static Lib.Math.min.name, Cond.initialized "java/lang/Math", Cond.code Lib.Math.min.name Lib.Math.min.code 2 (some .int), Cond.methodLink RX1 46 yX2_nodeAt, Cond.instanceMethod yX2_nodeAt, Cond.selects RX2 yX2_nodeAt yX2_nodeAt, Cond.code yX2_nodeAt cX2_nodeAt 3 (some .int), Cond.fieldLink RX2 18 "ValveWalk$Network" "nodeAt" "[I", Cond.methodLink RX1 50 yX2_lengthOf, Cond.instanceMethod yX2_lengthOf, Cond.selects RX2 yX2_lengthOf yX2_lengthOf, Cond.code yX2_lengthOf cX2_lengthOf 2 (some .int), Cond.fieldLink RX2 9 "ValveWalk$Network" "lengths" "[I"]
def wsX5_distance : List Cond := .code yX5_distance cX5_distance 2 (some .int) :: ((wsX5_distance_r1 ++ (wsX5_distance_r2 ++ wsX5_distance_r3)) ++ wsX50 ++ wsX20 ++ wsX10 ++ (vx_atS RX5 168 "java/lang/IndexOutOfBoundsException" ["java/lang/RuntimeException", "java/lang/Exception"]).filter goodWord)
def wsX5_flushAt_r1 : List Cond := [Cond.classLink RX5 164 "java/lang/IndexOutOfBoundsException", Cond.initialized "java/lang/IndexOutOfBoundsException", Cond.fieldLink RX5 35 "ValveWalk" "flushing" "LValveWalk$Flushing;", Cond.methodLink RX5 161 yX1_pipeAndEndAt, Cond.instanceMethod yX1_pipeAndEndAt, Cond.selects RX1 yX1_pipeAndEndAt yX1_pipeAndEndAt, Cond.initialized RX1, Cond.code yX1_pipeAndEndAt cX1_pipeAndEndAt 3 (some .int), Cond.fieldLink RX1 15 "ValveWalk$Flushing" "network" "LValveWalk$Network;", Cond.methodLink RX1 19 yX1_measure, Cond.instanceMethod yX1_measure, Cond.selects RX1 yX1_measure yX1_measure, Cond.code yX1_measure cX1_measure 3 none, Cond.fieldLink RX1 9 "ValveWalk$Flushing" "distances" "[I", Cond.constant RX1 22 (1000000), Cond.methodLink RX1 23 yX2_sources, Cond.instanceMethod yX2_sources, Cond.selects RX2 yX2_sources yX2_sources, Cond.initialized RX2, Cond.code yX2_sources cX2_sources 1 (some .int), Cond.fieldLink RX2 40 "ValveWalk$Network" "sources" "I", Cond.static yX5_hasBit, Cond.initialized RX5, Cond.code yX5_hasBit cX5_hasBit 2 (some .boolean)]
def wsX5_flushAt_r2 : List Cond := [Cond.methodLink RX1 33 yX2_nodeCount, Cond.instanceMethod yX2_nodeCount, Cond.selects RX2 yX2_nodeCount yX2_nodeCount, Cond.code yX2_nodeCount cX2_nodeCount 1 (some .int), Cond.fieldLink RX2 30 "ValveWalk$Network" "nodeCount" "I", Cond.methodLink RX1 36 yX2_pipeCount, Cond.instanceMethod yX2_pipeCount, Cond.selects RX2 yX2_pipeCount yX2_pipeCount, Cond.code yX2_pipeCount cX2_pipeCount 1 (some .int), Cond.fieldLink RX2 34 "ValveWalk$Network" "pipeCount" "I", Cond.methodLink RX1 39 yX2_isShutAt, Cond.instanceMethod yX2_isShutAt, Cond.selects RX2 yX2_isShutAt yX2_isShutAt, Cond.code yX2_isShutAt cX2_isShutAt 3 (some .boolean), Cond.fieldLink RX2 66 "ValveWalk$Network" "shut" "I", Cond.methodLink RX2 69 yX2_valveBitAt, Cond.instanceMethod yX2_valveBitAt, Cond.selects RX2 yX2_valveBitAt yX2_valveBitAt, Cond.code yX2_valveBitAt cX2_valveBitAt 3 (some .int), Cond.fieldLink RX2 21 "ValveWalk$Network" "valveBitAt" "[I", Cond.methodLink RX1 42 yX1_shorten, Cond.instanceMethod yX1_shorten, Cond.selects RX1 yX1_shorten yX1_shorten, Cond.code yX1_shorten cX1_shorten 5 none]
def wsX5_flushAt_r3 : List Cond := [Cond.methodLink RX1 54 Lib.Math.min.name, Cond.static Lib.Math.min.name, Cond.initialized "java/lang/Math", Cond.code Lib.Math.min.name Lib.Math.min.code 2 (some .int), Cond.methodLink RX1 46 yX2_nodeAt, Cond.instanceMethod yX2_nodeAt, Cond.selects RX2 yX2_nodeAt yX2_nodeAt, Cond.code yX2_nodeAt cX2_nodeAt 3 (some .int), Cond.fieldLink RX2 18 "ValveWalk$Network" "nodeAt" "[I", Cond.methodLink RX1 50 yX2_lengthOf, Cond.instanceMethod yX2_lengthOf, Cond.selects RX2 yX2_lengthOf yX2_lengthOf, Cond.code yX2_lengthOf cX2_lengthOf 2 (some .int), Cond.fieldLink RX2 9 "ValveWalk$Network" "lengths" "[I", Cond.methodLink RX1 59 yX1_isFlushed, Cond.instanceMethod yX1_isFlushed, Cond.selects RX1 yX1_isFlushed yX1_isFlushed, Cond.code yX1_isFlushed cX1_isFlushed 2 (some .boolean), Cond.methodLink RX1 66 yX1_endOf, Cond.instanceMethod yX1_endOf, Cond.selects RX1 yX1_endOf yX1_endOf, Cond.code yX1_endOf cX1_endOf 2 (some .int), Cond.methodLink RX1 72 yX1_distanceAt, Cond.instanceMethod yX1_distanceAt]
def wsX5_flushAt_r4 : List Cond := [Cond.selects RX1 yX1_distanceAt yX1_distanceAt, Cond.code yX1_distanceAt cX1_distanceAt 3 (some .int), Cond.methodLink RX1 63 yX1_placeOf, Cond.instanceMethod yX1_placeOf, Cond.selects RX1 yX1_placeOf yX1_placeOf, Cond.code yX1_placeOf cX1_placeOf 4 (some .int), Cond.methodLink RX1 69 yX1_isAhead, Cond.instanceMethod yX1_isAhead, Cond.selects RX1 yX1_isAhead yX1_isAhead, Cond.code yX1_isAhead cX1_isAhead 4 (some .boolean)]
def wsX5_flushAt : List Cond := .code yX5_flushAt cX5_flushAt 3 (some .int) :: ((wsX5_flushAt_r1 ++ (wsX5_flushAt_r2 ++ (wsX5_flushAt_r3 ++ wsX5_flushAt_r4))) ++ wsX50 ++ wsX10 ++ wsX20 ++ (vx_atS RX5 168 "java/lang/IndexOutOfBoundsException" ["java/lang/RuntimeException", "java/lang/Exception"]).filter goodWord)
def wsX5_walk_r1 : List Cond := [Cond.classLink RX5 65 "java/lang/IllegalArgumentException", Cond.initialized "java/lang/IllegalArgumentException", Cond.fieldLink RX5 12 "ValveWalk" "network" "LValveWalk$Network;", Cond.fieldLink RX5 42 "ValveWalk" "walks" "LValveWalk$Walks;", Cond.methodLink RX5 61 yX5_requireNode, Cond.instanceMethod yX5_requireNode, Cond.selects RX5 yX5_requireNode yX5_requireNode, Cond.initialized RX5, Cond.code yX5_requireNode cX5_requireNode 2 none, Cond.classLink RX5 164 "java/lang/IndexOutOfBoundsException", Cond.initialized "java/lang/IndexOutOfBoundsException", Cond.methodLink RX5 46 yX2_nodeCount, Cond.instanceMethod yX2_nodeCount, Cond.selects RX2 yX2_nodeCount yX2_nodeCount, Cond.initialized RX2, Cond.code yX2_nodeCount cX2_nodeCount 1 (some .int), Cond.fieldLink RX2 30 "ValveWalk$Network" "nodeCount" "I", Cond.methodLink RX5 94 yX2_valveCount, Cond.instanceMethod yX2_valveCount, Cond.selects RX2 yX2_valveCount yX2_valveCount, Cond.code yX2_valveCount cX2_valveCount 1 (some .int), Cond.fieldLink RX2 37 "ValveWalk$Network" "valveCount" "I", Cond.methodLink RX5 171 yJ6_bitCount_0f7a4, Cond.static yJ6_bitCount_0f7a4]
def wsX5_walk_r2 : List Cond := [Cond.initialized RJ6, Cond.code yJ6_bitCount_0f7a4 cJ6_bitCount_0f7a4 1 (some .int), Cond.constant RJ6 265 (1431655765), Cond.constant RJ6 266 (858993459), Cond.constant RJ6 267 (252645135), Cond.methodLink RX5 178 yX4_leastLength, Cond.instanceMethod yX4_leastLength, Cond.selects RX4 yX4_leastLength yX4_leastLength, Cond.initialized RX4, Cond.code yX4_leastLength cX4_leastLength 7 (some .int), Cond.fieldLink RX4 18 "ValveWalk$Walks" "least" "[I", Cond.constant RX4 40 (1000000), Cond.methodLink RX4 41 Lib.Math.min.name, Cond.static Lib.Math.min.name, Cond.initialized "java/lang/Math", Cond.code Lib.Math.min.name Lib.Math.min.code 2 (some .int), Cond.methodLink RX4 25 yX4_listStops, Cond.instanceMethod yX4_listStops, Cond.selects RX4 yX4_listStops yX4_listStops, Cond.code yX4_listStops cX4_listStops 4 (some .int), Cond.fieldLink RX4 21 "ValveWalk$Walks" "network" "LValveWalk$Network;", Cond.fieldLink RX4 15 "ValveWalk$Walks" "stops" "[I", Cond.methodLink RX4 47 yX2_valveCount, Cond.static yX5_hasBit]
def wsX5_walk_r3 : List Cond := [Cond.code yX5_hasBit cX5_hasBit 2 (some .boolean), Cond.methodLink RX4 53 yX2_nodeOfValve, Cond.instanceMethod yX2_nodeOfValve, Cond.selects RX2 yX2_nodeOfValve yX2_nodeOfValve, Cond.code yX2_nodeOfValve cX2_nodeOfValve 2 (some .int), Cond.fieldLink RX2 18 "ValveWalk$Network" "nodeAt" "[I", Cond.fieldLink RX2 27 "ValveWalk$Network" "jointOf" "[I", Cond.methodLink RX4 29 yX4_measure, Cond.instanceMethod yX4_measure, Cond.selects RX4 yX4_measure yX4_measure, Cond.code yX4_measure cX4_measure 4 none, Cond.fieldLink RX4 9 "ValveWalk$Walks" "between" "[I", Cond.methodLink RX4 59 yX2_pipeCount, Cond.instanceMethod yX2_pipeCount, Cond.selects RX2 yX2_pipeCount yX2_pipeCount, Cond.code yX2_pipeCount cX2_pipeCount 1 (some .int), Cond.fieldLink RX2 34 "ValveWalk$Network" "pipeCount" "I", Cond.methodLink RX4 62 yX2_nodeAt, Cond.instanceMethod yX2_nodeAt, Cond.selects RX2 yX2_nodeAt yX2_nodeAt, Cond.code yX2_nodeAt cX2_nodeAt 3 (some .int), Cond.methodLink RX4 65 yX2_lengthOf, Cond.instanceMethod yX2_lengthOf, Cond.selects RX2 yX2_lengthOf yX2_lengthOf]
def wsX5_walk_r4 : List Cond := [Cond.code yX2_lengthOf cX2_lengthOf 2 (some .int), Cond.fieldLink RX2 9 "ValveWalk$Network" "lengths" "[I", Cond.methodLink RX4 68 yX4_shorten, Cond.instanceMethod yX4_shorten, Cond.selects RX4 yX4_shorten yX4_shorten, Cond.code yX4_shorten cX4_shorten 5 none, Cond.methodLink RX4 72 yX2_nodeCount, Cond.methodLink RX4 75 yX4_shortenBy, Cond.instanceMethod yX4_shortenBy, Cond.selects RX4 yX4_shortenBy yX4_shortenBy, Cond.code yX4_shortenBy cX4_shortenBy 5 none, Cond.methodLink RX4 56 yX4_lengthBetween, Cond.instanceMethod yX4_lengthBetween, Cond.selects RX4 yX4_lengthBetween yX4_lengthBetween, Cond.code yX4_lengthBetween cX4_lengthBetween 3 (some .int), Cond.methodLink RX4 36 yX4_leastEnding, Cond.instanceMethod yX4_leastEnding, Cond.selects RX4 yX4_leastEnding yX4_leastEnding, Cond.code yX4_leastEnding cX4_leastEnding 9 (some .int)]
def wsX5_walk : List Cond := .code yX5_walk cX5_walk 3 (some .int) :: ((wsX5_walk_r1 ++ (wsX5_walk_r2 ++ (wsX5_walk_r3 ++ wsX5_walk_r4))) ++ wsX50 ++ wsX20 ++ wsX40 ++ (vx_atS RX5 69 "java/lang/IllegalArgumentException" ["java/lang/RuntimeException", "java/lang/Exception"]).filter goodWord ++ (vx_atS RX5 168 "java/lang/IndexOutOfBoundsException" ["java/lang/RuntimeException", "java/lang/Exception"]).filter goodWord)
def wsX6_init : List Cond := .code yX6_init cX6_init 1 none :: ([.methodLink RX6 1 objectInit, .instanceMethod objectInit, .code objectInit ⟨#[0xb1]⟩ 1 none, .arrayClass .int, .fieldLink RX6 7 "ValveWalkModel" "nodeAt" "[I", .fieldLink RX6 13 "ValveWalkModel" "valveAt" "[I", .fieldLink RX6 16 "ValveWalkModel" "lengths" "[I", .fieldLink RX6 19 "ValveWalkModel" "customers" "[I", .fieldLink RX6 22 "ValveWalkModel" "placeOf" "[I", .fieldLink RX6 25 "ValveWalkModel" "distances" "[I", .fieldLink RX6 28 "ValveWalkModel" "ways" "[I", .fieldLink RX6 31 "ValveWalkModel" "stops" "[I", .fieldLink RX6 34 "ValveWalkModel" "order" "[I"] ++ wsX60)
def wsX6_thrown : List Cond := .code yX6_thrown cX6_thrown 1 (some .int) :: ([.fieldLink RX6 37 "ValveWalkModel" "refusal" "I"] ++ wsX60)
def wsX6_refused : List Cond := .code yX6_refused cX6_refused 2 (some .boolean) :: ([.fieldLink RX6 37 "ValveWalkModel" "refusal" "I"] ++ wsX60)
def wsX6_fine : List Cond := .code yX6_fine cX6_fine 2 (some .int) :: ([.fieldLink RX6 37 "ValveWalkModel" "refusal" "I"] ++ wsX60)
def wsX6_in : List Cond := .code yX6_in cX6_in 3 (some .boolean) :: ([])
def wsX6_isNode : List Cond := .code yX6_isNode cX6_isNode 2 (some .boolean) :: ([.fieldLink RX6 41 "ValveWalkModel" "nodes" "I", .methodLink RX6 44 yX6_in, .static yX6_in, .initialized RX6, .code yX6_in cX6_in 3 (some .boolean)] ++ wsX60)
def wsX6_isPipe : List Cond := .code yX6_isPipe cX6_isPipe 2 (some .boolean) :: ([.fieldLink RX6 48 "ValveWalkModel" "pipes" "I", .methodLink RX6 44 yX6_in, .static yX6_in, .initialized RX6, .code yX6_in cX6_in 3 (some .boolean)] ++ wsX60)
def wsX6_isValve : List Cond := .code yX6_isValve cX6_isValve 2 (some .boolean) :: ([.fieldLink RX6 51 "ValveWalkModel" "valves" "I", .methodLink RX6 44 yX6_in, .static yX6_in, .initialized RX6, .code yX6_in cX6_in 3 (some .boolean)] ++ wsX60)
def wsX6_bits : List Cond := .code yX6_bits cX6_bits 3 (some .int) :: ([])
def wsX6_addNode : List Cond := .code yX6_addNode cX6_addNode 2 (some .int) :: ([.fieldLink RX6 41 "ValveWalkModel" "nodes" "I", .fieldLink RX6 58 "ValveWalkModel" "sources" "I", .methodLink RX6 54 yX6_refused, .instanceMethod yX6_refused, .selects RX6 yX6_refused yX6_refused, .initialized RX6, .code yX6_refused cX6_refused 2 (some .boolean), .fieldLink RX6 37 "ValveWalkModel" "refusal" "I"] ++ wsX60)
def wsX6_addPipe : List Cond := .code yX6_addPipe cX6_addPipe 7 (some .int) :: ([.fieldLink RX6 48 "ValveWalkModel" "pipes" "I", .fieldLink RX6 7 "ValveWalkModel" "nodeAt" "[I", .fieldLink RX6 13 "ValveWalkModel" "valveAt" "[I", .fieldLink RX6 16 "ValveWalkModel" "lengths" "[I", .fieldLink RX6 19 "ValveWalkModel" "customers" "[I", .methodLink RX6 61 yX6_isNode, .instanceMethod yX6_isNode, .selects RX6 yX6_isNode yX6_isNode, .initialized RX6, .code yX6_isNode cX6_isNode 2 (some .boolean), .fieldLink RX6 41 "ValveWalkModel" "nodes" "I", .methodLink RX6 44 yX6_in, .static yX6_in, .code yX6_in cX6_in 3 (some .boolean), .methodLink RX6 54 yX6_refused, .instanceMethod yX6_refused, .selects RX6 yX6_refused yX6_refused, .code yX6_refused cX6_refused 2 (some .boolean), .fieldLink RX6 37 "ValveWalkModel" "refusal" "I"] ++ wsX60)
def wsX6_addValve : List Cond := .code yX6_addValve cX6_addValve 5 (some .int) :: ([.fieldLink RX6 13 "ValveWalkModel" "valveAt" "[I", .fieldLink RX6 51 "ValveWalkModel" "valves" "I", .fieldLink RX6 22 "ValveWalkModel" "placeOf" "[I", .methodLink RX6 44 yX6_in, .static yX6_in, .initialized RX6, .code yX6_in cX6_in 3 (some .boolean), .methodLink RX6 64 yX6_isPipe, .instanceMethod yX6_isPipe, .selects RX6 yX6_isPipe yX6_isPipe, .code yX6_isPipe cX6_isPipe 2 (some .boolean), .fieldLink RX6 48 "ValveWalkModel" "pipes" "I", .methodLink RX6 54 yX6_refused, .instanceMethod yX6_refused, .selects RX6 yX6_refused yX6_refused, .code yX6_refused cX6_refused 2 (some .boolean), .fieldLink RX6 37 "ValveWalkModel" "refusal" "I"] ++ wsX60)
def wsX6_setSource : List Cond := .code yX6_setSource cX6_setSource 4 (some .boolean) :: ([.fieldLink RX6 58 "ValveWalkModel" "sources" "I", .methodLink RX6 61 yX6_isNode, .instanceMethod yX6_isNode, .selects RX6 yX6_isNode yX6_isNode, .initialized RX6, .code yX6_isNode cX6_isNode 2 (some .boolean), .fieldLink RX6 41 "ValveWalkModel" "nodes" "I", .methodLink RX6 44 yX6_in, .static yX6_in, .code yX6_in cX6_in 3 (some .boolean), .methodLink RX6 54 yX6_refused, .instanceMethod yX6_refused, .selects RX6 yX6_refused yX6_refused, .code yX6_refused cX6_refused 2 (some .boolean), .fieldLink RX6 37 "ValveWalkModel" "refusal" "I"] ++ wsX60)
def wsX6_setStuck : List Cond := .code yX6_setStuck cX6_setStuck 4 (some .boolean) :: ([.fieldLink RX6 70 "ValveWalkModel" "stuck" "I", .methodLink RX6 67 yX6_isValve, .instanceMethod yX6_isValve, .selects RX6 yX6_isValve yX6_isValve, .initialized RX6, .code yX6_isValve cX6_isValve 2 (some .boolean), .fieldLink RX6 51 "ValveWalkModel" "valves" "I", .methodLink RX6 44 yX6_in, .static yX6_in, .code yX6_in cX6_in 3 (some .boolean), .methodLink RX6 54 yX6_refused, .instanceMethod yX6_refused, .selects RX6 yX6_refused yX6_refused, .code yX6_refused cX6_refused 2 (some .boolean), .fieldLink RX6 37 "ValveWalkModel" "refusal" "I"] ++ wsX60)
def wsX6_turn : List Cond := .code yX6_turn cX6_turn 4 (some .boolean) :: ([.fieldLink RX6 70 "ValveWalkModel" "stuck" "I", .fieldLink RX6 73 "ValveWalkModel" "shut" "I", .methodLink RX6 67 yX6_isValve, .instanceMethod yX6_isValve, .selects RX6 yX6_isValve yX6_isValve, .initialized RX6, .code yX6_isValve cX6_isValve 2 (some .boolean), .fieldLink RX6 51 "ValveWalkModel" "valves" "I", .methodLink RX6 44 yX6_in, .static yX6_in, .code yX6_in cX6_in 3 (some .boolean), .methodLink RX6 54 yX6_refused, .instanceMethod yX6_refused, .selects RX6 yX6_refused yX6_refused, .code yX6_refused cX6_refused 2 (some .boolean), .fieldLink RX6 37 "ValveWalkModel" "refusal" "I"] ++ wsX60)
def wsX6_nodes : List Cond := .code yX6_nodes cX6_nodes 1 (some .int) :: ([.fieldLink RX6 41 "ValveWalkModel" "nodes" "I", .methodLink RX6 76 yX6_fine, .instanceMethod yX6_fine, .selects RX6 yX6_fine yX6_fine, .initialized RX6, .code yX6_fine cX6_fine 2 (some .int), .fieldLink RX6 37 "ValveWalkModel" "refusal" "I"] ++ wsX60)
def wsX6_pipes : List Cond := .code yX6_pipes cX6_pipes 1 (some .int) :: ([.fieldLink RX6 48 "ValveWalkModel" "pipes" "I", .methodLink RX6 76 yX6_fine, .instanceMethod yX6_fine, .selects RX6 yX6_fine yX6_fine, .initialized RX6, .code yX6_fine cX6_fine 2 (some .int), .fieldLink RX6 37 "ValveWalkModel" "refusal" "I"] ++ wsX60)
def wsX6_valves : List Cond := .code yX6_valves cX6_valves 1 (some .int) :: ([.fieldLink RX6 51 "ValveWalkModel" "valves" "I", .methodLink RX6 76 yX6_fine, .instanceMethod yX6_fine, .selects RX6 yX6_fine yX6_fine, .initialized RX6, .code yX6_fine cX6_fine 2 (some .int), .fieldLink RX6 37 "ValveWalkModel" "refusal" "I"] ++ wsX60)
def wsX6_isOpen : List Cond := .code yX6_isOpen cX6_isOpen 6 (some .boolean) :: ([.fieldLink RX6 13 "ValveWalkModel" "valveAt" "[I", .fieldLink RX6 73 "ValveWalkModel" "shut" "I", .fieldLink RX6 70 "ValveWalkModel" "stuck" "I"] ++ wsX60)
def wsX6_partOf : List Cond := .code yX6_partOf cX6_partOf 1 (some .int) :: ([])
def wsX6_spread : List Cond := .code yX6_spread cX6_spread 8 (some .int) :: ([.fieldLink RX6 48 "ValveWalkModel" "pipes" "I", .fieldLink RX6 7 "ValveWalkModel" "nodeAt" "[I", .methodLink RX6 80 yX6_partOf, .static yX6_partOf, .initialized RX6, .code yX6_partOf cX6_partOf 1 (some .int), .methodLink RX6 83 yX6_isOpen, .instanceMethod yX6_isOpen, .selects RX6 yX6_isOpen yX6_isOpen, .code yX6_isOpen cX6_isOpen 6 (some .boolean), .fieldLink RX6 13 "ValveWalkModel" "valveAt" "[I", .fieldLink RX6 73 "ValveWalkModel" "shut" "I", .fieldLink RX6 70 "ValveWalkModel" "stuck" "I"] ++ wsX60)
def wsX6_wet : List Cond := .code yX6_wet cX6_wet 2 (some .int) :: ([.fieldLink RX6 58 "ValveWalkModel" "sources" "I", .methodLink RX6 86 yX6_spread, .instanceMethod yX6_spread, .selects RX6 yX6_spread yX6_spread, .initialized RX6, .code yX6_spread cX6_spread 8 (some .int), .fieldLink RX6 48 "ValveWalkModel" "pipes" "I", .fieldLink RX6 7 "ValveWalkModel" "nodeAt" "[I", .methodLink RX6 80 yX6_partOf, .static yX6_partOf, .code yX6_partOf cX6_partOf 1 (some .int), .methodLink RX6 83 yX6_isOpen, .instanceMethod yX6_isOpen, .selects RX6 yX6_isOpen yX6_isOpen, .code yX6_isOpen cX6_isOpen 6 (some .boolean), .fieldLink RX6 13 "ValveWalkModel" "valveAt" "[I", .fieldLink RX6 73 "ValveWalkModel" "shut" "I", .fieldLink RX6 70 "ValveWalkModel" "stuck" "I"] ++ wsX60)
def wsX6_supply : List Cond := .code yX6_supply cX6_supply 4 (some .int) :: ([.fieldLink RX6 48 "ValveWalkModel" "pipes" "I", .fieldLink RX6 19 "ValveWalkModel" "customers" "[I", .methodLink RX6 80 yX6_partOf, .static yX6_partOf, .initialized RX6, .code yX6_partOf cX6_partOf 1 (some .int)] ++ wsX60)
def wsX6_isNodeDry_r1 : List Cond := [Cond.methodLink RX6 61 yX6_isNode, Cond.instanceMethod yX6_isNode, Cond.selects RX6 yX6_isNode yX6_isNode, Cond.initialized RX6, Cond.code yX6_isNode cX6_isNode 2 (some .boolean), Cond.fieldLink RX6 41 "ValveWalkModel" "nodes" "I", Cond.methodLink RX6 44 yX6_in, Cond.static yX6_in, Cond.code yX6_in cX6_in 3 (some .boolean), Cond.methodLink RX6 54 yX6_refused, Cond.instanceMethod yX6_refused, Cond.selects RX6 yX6_refused yX6_refused, Cond.code yX6_refused cX6_refused 2 (some .boolean), Cond.fieldLink RX6 37 "ValveWalkModel" "refusal" "I", Cond.methodLink RX6 90 yX6_wet, Cond.instanceMethod yX6_wet, Cond.selects RX6 yX6_wet yX6_wet, Cond.code yX6_wet cX6_wet 2 (some .int), Cond.fieldLink RX6 58 "ValveWalkModel" "sources" "I", Cond.methodLink RX6 86 yX6_spread, Cond.instanceMethod yX6_spread, Cond.selects RX6 yX6_spread yX6_spread, Cond.code yX6_spread cX6_spread 8 (some .int), Cond.fieldLink RX6 48 "ValveWalkModel" "pipes" "I"]
def wsX6_isNodeDry_r2 : List Cond := [Cond.fieldLink RX6 7 "ValveWalkModel" "nodeAt" "[I", Cond.methodLink RX6 80 yX6_partOf, Cond.static yX6_partOf, Cond.code yX6_partOf cX6_partOf 1 (some .int), Cond.methodLink RX6 83 yX6_isOpen, Cond.instanceMethod yX6_isOpen, Cond.selects RX6 yX6_isOpen yX6_isOpen, Cond.code yX6_isOpen cX6_isOpen 6 (some .boolean), Cond.fieldLink RX6 13 "ValveWalkModel" "valveAt" "[I", Cond.fieldLink RX6 73 "ValveWalkModel" "shut" "I", Cond.fieldLink RX6 70 "ValveWalkModel" "stuck" "I"]
def wsX6_isNodeDry : List Cond := .code yX6_isNodeDry cX6_isNodeDry 2 (some .boolean) :: ((wsX6_isNodeDry_r1 ++ wsX6_isNodeDry_r2) ++ wsX60)
def wsX6_isPipeDry_r1 : List Cond := [Cond.methodLink RX6 64 yX6_isPipe, Cond.instanceMethod yX6_isPipe, Cond.selects RX6 yX6_isPipe yX6_isPipe, Cond.initialized RX6, Cond.code yX6_isPipe cX6_isPipe 2 (some .boolean), Cond.fieldLink RX6 48 "ValveWalkModel" "pipes" "I", Cond.methodLink RX6 44 yX6_in, Cond.static yX6_in, Cond.code yX6_in cX6_in 3 (some .boolean), Cond.methodLink RX6 54 yX6_refused, Cond.instanceMethod yX6_refused, Cond.selects RX6 yX6_refused yX6_refused, Cond.code yX6_refused cX6_refused 2 (some .boolean), Cond.fieldLink RX6 37 "ValveWalkModel" "refusal" "I", Cond.methodLink RX6 90 yX6_wet, Cond.instanceMethod yX6_wet, Cond.selects RX6 yX6_wet yX6_wet, Cond.code yX6_wet cX6_wet 2 (some .int), Cond.fieldLink RX6 58 "ValveWalkModel" "sources" "I", Cond.methodLink RX6 86 yX6_spread, Cond.instanceMethod yX6_spread, Cond.selects RX6 yX6_spread yX6_spread, Cond.code yX6_spread cX6_spread 8 (some .int), Cond.fieldLink RX6 7 "ValveWalkModel" "nodeAt" "[I"]
def wsX6_isPipeDry_r2 : List Cond := [Cond.methodLink RX6 80 yX6_partOf, Cond.static yX6_partOf, Cond.code yX6_partOf cX6_partOf 1 (some .int), Cond.methodLink RX6 83 yX6_isOpen, Cond.instanceMethod yX6_isOpen, Cond.selects RX6 yX6_isOpen yX6_isOpen, Cond.code yX6_isOpen cX6_isOpen 6 (some .boolean), Cond.fieldLink RX6 13 "ValveWalkModel" "valveAt" "[I", Cond.fieldLink RX6 73 "ValveWalkModel" "shut" "I", Cond.fieldLink RX6 70 "ValveWalkModel" "stuck" "I"]
def wsX6_isPipeDry : List Cond := .code yX6_isPipeDry cX6_isPipeDry 2 (some .boolean) :: ((wsX6_isPipeDry_r1 ++ wsX6_isPipeDry_r2) ++ wsX60)
def wsX6_supplied_r1 : List Cond := [Cond.methodLink RX6 90 yX6_wet, Cond.instanceMethod yX6_wet, Cond.selects RX6 yX6_wet yX6_wet, Cond.initialized RX6, Cond.code yX6_wet cX6_wet 2 (some .int), Cond.fieldLink RX6 58 "ValveWalkModel" "sources" "I", Cond.methodLink RX6 86 yX6_spread, Cond.instanceMethod yX6_spread, Cond.selects RX6 yX6_spread yX6_spread, Cond.code yX6_spread cX6_spread 8 (some .int), Cond.fieldLink RX6 48 "ValveWalkModel" "pipes" "I", Cond.fieldLink RX6 7 "ValveWalkModel" "nodeAt" "[I", Cond.methodLink RX6 80 yX6_partOf, Cond.static yX6_partOf, Cond.code yX6_partOf cX6_partOf 1 (some .int), Cond.methodLink RX6 83 yX6_isOpen, Cond.instanceMethod yX6_isOpen, Cond.selects RX6 yX6_isOpen yX6_isOpen, Cond.code yX6_isOpen cX6_isOpen 6 (some .boolean), Cond.fieldLink RX6 13 "ValveWalkModel" "valveAt" "[I", Cond.fieldLink RX6 73 "ValveWalkModel" "shut" "I", Cond.fieldLink RX6 70 "ValveWalkModel" "stuck" "I", Cond.methodLink RX6 93 yX6_supply, Cond.instanceMethod yX6_supply]
def wsX6_supplied_r2 : List Cond := [Cond.selects RX6 yX6_supply yX6_supply, Cond.code yX6_supply cX6_supply 4 (some .int), Cond.fieldLink RX6 19 "ValveWalkModel" "customers" "[I", Cond.methodLink RX6 76 yX6_fine, Cond.instanceMethod yX6_fine, Cond.selects RX6 yX6_fine yX6_fine, Cond.code yX6_fine cX6_fine 2 (some .int), Cond.fieldLink RX6 37 "ValveWalkModel" "refusal" "I"]
def wsX6_supplied : List Cond := .code yX6_supplied cX6_supplied 1 (some .int) :: ((wsX6_supplied_r1 ++ wsX6_supplied_r2) ++ wsX60)
def wsX6_segmentOf : List Cond := .code yX6_segmentOf cX6_segmentOf 7 (some .int) :: ([.fieldLink RX6 48 "ValveWalkModel" "pipes" "I", .fieldLink RX6 41 "ValveWalkModel" "nodes" "I", .methodLink RX6 86 yX6_spread, .instanceMethod yX6_spread, .selects RX6 yX6_spread yX6_spread, .initialized RX6, .code yX6_spread cX6_spread 8 (some .int), .fieldLink RX6 7 "ValveWalkModel" "nodeAt" "[I", .methodLink RX6 80 yX6_partOf, .static yX6_partOf, .code yX6_partOf cX6_partOf 1 (some .int), .methodLink RX6 83 yX6_isOpen, .instanceMethod yX6_isOpen, .selects RX6 yX6_isOpen yX6_isOpen, .code yX6_isOpen cX6_isOpen 6 (some .boolean), .fieldLink RX6 13 "ValveWalkModel" "valveAt" "[I", .fieldLink RX6 73 "ValveWalkModel" "shut" "I", .fieldLink RX6 70 "ValveWalkModel" "stuck" "I"] ++ wsX60)
def wsX6_segments_r1 : List Cond := [Cond.methodLink RX6 96 yX6_segmentOf, Cond.instanceMethod yX6_segmentOf, Cond.selects RX6 yX6_segmentOf yX6_segmentOf, Cond.initialized RX6, Cond.code yX6_segmentOf cX6_segmentOf 7 (some .int), Cond.fieldLink RX6 48 "ValveWalkModel" "pipes" "I", Cond.fieldLink RX6 41 "ValveWalkModel" "nodes" "I", Cond.methodLink RX6 86 yX6_spread, Cond.instanceMethod yX6_spread, Cond.selects RX6 yX6_spread yX6_spread, Cond.code yX6_spread cX6_spread 8 (some .int), Cond.fieldLink RX6 7 "ValveWalkModel" "nodeAt" "[I", Cond.methodLink RX6 80 yX6_partOf, Cond.static yX6_partOf, Cond.code yX6_partOf cX6_partOf 1 (some .int), Cond.methodLink RX6 83 yX6_isOpen, Cond.instanceMethod yX6_isOpen, Cond.selects RX6 yX6_isOpen yX6_isOpen, Cond.code yX6_isOpen cX6_isOpen 6 (some .boolean), Cond.fieldLink RX6 13 "ValveWalkModel" "valveAt" "[I", Cond.fieldLink RX6 73 "ValveWalkModel" "shut" "I", Cond.fieldLink RX6 70 "ValveWalkModel" "stuck" "I", Cond.methodLink RX6 76 yX6_fine, Cond.instanceMethod yX6_fine]
def wsX6_segments_r2 : List Cond := [Cond.selects RX6 yX6_fine yX6_fine, Cond.code yX6_fine cX6_fine 2 (some .int), Cond.fieldLink RX6 37 "ValveWalkModel" "refusal" "I"]
def wsX6_segments : List Cond := .code yX6_segments cX6_segments 1 (some .int) :: ((wsX6_segments_r1 ++ wsX6_segments_r2) ++ wsX60)
def wsX6_segmentOfNode_r1 : List Cond := [Cond.methodLink RX6 61 yX6_isNode, Cond.instanceMethod yX6_isNode, Cond.selects RX6 yX6_isNode yX6_isNode, Cond.initialized RX6, Cond.code yX6_isNode cX6_isNode 2 (some .boolean), Cond.fieldLink RX6 41 "ValveWalkModel" "nodes" "I", Cond.methodLink RX6 44 yX6_in, Cond.static yX6_in, Cond.code yX6_in cX6_in 3 (some .boolean), Cond.methodLink RX6 54 yX6_refused, Cond.instanceMethod yX6_refused, Cond.selects RX6 yX6_refused yX6_refused, Cond.code yX6_refused cX6_refused 2 (some .boolean), Cond.fieldLink RX6 37 "ValveWalkModel" "refusal" "I", Cond.methodLink RX6 96 yX6_segmentOf, Cond.instanceMethod yX6_segmentOf, Cond.selects RX6 yX6_segmentOf yX6_segmentOf, Cond.code yX6_segmentOf cX6_segmentOf 7 (some .int), Cond.fieldLink RX6 48 "ValveWalkModel" "pipes" "I", Cond.methodLink RX6 86 yX6_spread, Cond.instanceMethod yX6_spread, Cond.selects RX6 yX6_spread yX6_spread, Cond.code yX6_spread cX6_spread 8 (some .int), Cond.fieldLink RX6 7 "ValveWalkModel" "nodeAt" "[I"]
def wsX6_segmentOfNode_r2 : List Cond := [Cond.methodLink RX6 80 yX6_partOf, Cond.static yX6_partOf, Cond.code yX6_partOf cX6_partOf 1 (some .int), Cond.methodLink RX6 83 yX6_isOpen, Cond.instanceMethod yX6_isOpen, Cond.selects RX6 yX6_isOpen yX6_isOpen, Cond.code yX6_isOpen cX6_isOpen 6 (some .boolean), Cond.fieldLink RX6 13 "ValveWalkModel" "valveAt" "[I", Cond.fieldLink RX6 73 "ValveWalkModel" "shut" "I", Cond.fieldLink RX6 70 "ValveWalkModel" "stuck" "I"]
def wsX6_segmentOfNode : List Cond := .code yX6_segmentOfNode cX6_segmentOfNode 2 (some .int) :: ((wsX6_segmentOfNode_r1 ++ wsX6_segmentOfNode_r2) ++ wsX60)
def wsX6_segmentOfPipe_r1 : List Cond := [Cond.methodLink RX6 64 yX6_isPipe, Cond.instanceMethod yX6_isPipe, Cond.selects RX6 yX6_isPipe yX6_isPipe, Cond.initialized RX6, Cond.code yX6_isPipe cX6_isPipe 2 (some .boolean), Cond.fieldLink RX6 48 "ValveWalkModel" "pipes" "I", Cond.methodLink RX6 44 yX6_in, Cond.static yX6_in, Cond.code yX6_in cX6_in 3 (some .boolean), Cond.methodLink RX6 54 yX6_refused, Cond.instanceMethod yX6_refused, Cond.selects RX6 yX6_refused yX6_refused, Cond.code yX6_refused cX6_refused 2 (some .boolean), Cond.fieldLink RX6 37 "ValveWalkModel" "refusal" "I", Cond.methodLink RX6 80 yX6_partOf, Cond.static yX6_partOf, Cond.code yX6_partOf cX6_partOf 1 (some .int), Cond.methodLink RX6 96 yX6_segmentOf, Cond.instanceMethod yX6_segmentOf, Cond.selects RX6 yX6_segmentOf yX6_segmentOf, Cond.code yX6_segmentOf cX6_segmentOf 7 (some .int), Cond.fieldLink RX6 41 "ValveWalkModel" "nodes" "I", Cond.methodLink RX6 86 yX6_spread, Cond.instanceMethod yX6_spread]
def wsX6_segmentOfPipe_r2 : List Cond := [Cond.selects RX6 yX6_spread yX6_spread, Cond.code yX6_spread cX6_spread 8 (some .int), Cond.fieldLink RX6 7 "ValveWalkModel" "nodeAt" "[I", Cond.methodLink RX6 83 yX6_isOpen, Cond.instanceMethod yX6_isOpen, Cond.selects RX6 yX6_isOpen yX6_isOpen, Cond.code yX6_isOpen cX6_isOpen 6 (some .boolean), Cond.fieldLink RX6 13 "ValveWalkModel" "valveAt" "[I", Cond.fieldLink RX6 73 "ValveWalkModel" "shut" "I", Cond.fieldLink RX6 70 "ValveWalkModel" "stuck" "I"]
def wsX6_segmentOfPipe : List Cond := .code yX6_segmentOfPipe cX6_segmentOfPipe 2 (some .int) :: ((wsX6_segmentOfPipe_r1 ++ wsX6_segmentOfPipe_r2) ++ wsX60)
def wsX6_segmentByMerging_r1 : List Cond := [Cond.methodLink RX6 99 yX6_segmentOfPipe, Cond.instanceMethod yX6_segmentOfPipe, Cond.selects RX6 yX6_segmentOfPipe yX6_segmentOfPipe, Cond.initialized RX6, Cond.code yX6_segmentOfPipe cX6_segmentOfPipe 2 (some .int), Cond.methodLink RX6 64 yX6_isPipe, Cond.instanceMethod yX6_isPipe, Cond.selects RX6 yX6_isPipe yX6_isPipe, Cond.code yX6_isPipe cX6_isPipe 2 (some .boolean), Cond.fieldLink RX6 48 "ValveWalkModel" "pipes" "I", Cond.methodLink RX6 44 yX6_in, Cond.static yX6_in, Cond.code yX6_in cX6_in 3 (some .boolean), Cond.methodLink RX6 54 yX6_refused, Cond.instanceMethod yX6_refused, Cond.selects RX6 yX6_refused yX6_refused, Cond.code yX6_refused cX6_refused 2 (some .boolean), Cond.fieldLink RX6 37 "ValveWalkModel" "refusal" "I", Cond.methodLink RX6 80 yX6_partOf, Cond.static yX6_partOf, Cond.code yX6_partOf cX6_partOf 1 (some .int), Cond.methodLink RX6 96 yX6_segmentOf, Cond.instanceMethod yX6_segmentOf, Cond.selects RX6 yX6_segmentOf yX6_segmentOf]
def wsX6_segmentByMerging_r2 : List Cond := [Cond.code yX6_segmentOf cX6_segmentOf 7 (some .int), Cond.fieldLink RX6 41 "ValveWalkModel" "nodes" "I", Cond.methodLink RX6 86 yX6_spread, Cond.instanceMethod yX6_spread, Cond.selects RX6 yX6_spread yX6_spread, Cond.code yX6_spread cX6_spread 8 (some .int), Cond.fieldLink RX6 7 "ValveWalkModel" "nodeAt" "[I", Cond.methodLink RX6 83 yX6_isOpen, Cond.instanceMethod yX6_isOpen, Cond.selects RX6 yX6_isOpen yX6_isOpen, Cond.code yX6_isOpen cX6_isOpen 6 (some .boolean), Cond.fieldLink RX6 13 "ValveWalkModel" "valveAt" "[I", Cond.fieldLink RX6 73 "ValveWalkModel" "shut" "I", Cond.fieldLink RX6 70 "ValveWalkModel" "stuck" "I"]
def wsX6_segmentByMerging : List Cond := .code yX6_segmentByMerging cX6_segmentByMerging 2 (some .int) :: ((wsX6_segmentByMerging_r1 ++ wsX6_segmentByMerging_r2) ++ wsX60)
def wsX6_ringOf : List Cond := .code yX6_ringOf cX6_ringOf 9 (some .int) :: ([.fieldLink RX6 51 "ValveWalkModel" "valves" "I", .fieldLink RX6 22 "ValveWalkModel" "placeOf" "[I", .fieldLink RX6 7 "ValveWalkModel" "nodeAt" "[I", .fieldLink RX6 73 "ValveWalkModel" "shut" "I", .fieldLink RX6 70 "ValveWalkModel" "stuck" "I", .methodLink RX6 80 yX6_partOf, .static yX6_partOf, .initialized RX6, .code yX6_partOf cX6_partOf 1 (some .int), .methodLink RX6 86 yX6_spread, .instanceMethod yX6_spread, .selects RX6 yX6_spread yX6_spread, .code yX6_spread cX6_spread 8 (some .int), .fieldLink RX6 48 "ValveWalkModel" "pipes" "I", .methodLink RX6 83 yX6_isOpen, .instanceMethod yX6_isOpen, .selects RX6 yX6_isOpen yX6_isOpen, .code yX6_isOpen cX6_isOpen 6 (some .boolean), .fieldLink RX6 13 "ValveWalkModel" "valveAt" "[I"] ++ wsX60)
def wsX6_noRing_r1 : List Cond := [Cond.fieldLink RX6 58 "ValveWalkModel" "sources" "I", Cond.methodLink RX6 64 yX6_isPipe, Cond.instanceMethod yX6_isPipe, Cond.selects RX6 yX6_isPipe yX6_isPipe, Cond.initialized RX6, Cond.code yX6_isPipe cX6_isPipe 2 (some .boolean), Cond.fieldLink RX6 48 "ValveWalkModel" "pipes" "I", Cond.methodLink RX6 44 yX6_in, Cond.static yX6_in, Cond.code yX6_in cX6_in 3 (some .boolean), Cond.methodLink RX6 80 yX6_partOf, Cond.static yX6_partOf, Cond.code yX6_partOf cX6_partOf 1 (some .int), Cond.methodLink RX6 86 yX6_spread, Cond.instanceMethod yX6_spread, Cond.selects RX6 yX6_spread yX6_spread, Cond.code yX6_spread cX6_spread 8 (some .int), Cond.fieldLink RX6 7 "ValveWalkModel" "nodeAt" "[I", Cond.methodLink RX6 83 yX6_isOpen, Cond.instanceMethod yX6_isOpen, Cond.selects RX6 yX6_isOpen yX6_isOpen, Cond.code yX6_isOpen cX6_isOpen 6 (some .boolean), Cond.fieldLink RX6 13 "ValveWalkModel" "valveAt" "[I", Cond.fieldLink RX6 73 "ValveWalkModel" "shut" "I"]
def wsX6_noRing_r2 : List Cond := [Cond.fieldLink RX6 70 "ValveWalkModel" "stuck" "I", Cond.methodLink RX6 54 yX6_refused, Cond.instanceMethod yX6_refused, Cond.selects RX6 yX6_refused yX6_refused, Cond.code yX6_refused cX6_refused 2 (some .boolean), Cond.fieldLink RX6 37 "ValveWalkModel" "refusal" "I"]
def wsX6_noRing : List Cond := .code yX6_noRing cX6_noRing 2 (some .boolean) :: ((wsX6_noRing_r1 ++ wsX6_noRing_r2) ++ wsX60)
def wsX6_ring_r1 : List Cond := [Cond.methodLink RX6 102 yX6_noRing, Cond.instanceMethod yX6_noRing, Cond.selects RX6 yX6_noRing yX6_noRing, Cond.initialized RX6, Cond.code yX6_noRing cX6_noRing 2 (some .boolean), Cond.fieldLink RX6 58 "ValveWalkModel" "sources" "I", Cond.methodLink RX6 64 yX6_isPipe, Cond.instanceMethod yX6_isPipe, Cond.selects RX6 yX6_isPipe yX6_isPipe, Cond.code yX6_isPipe cX6_isPipe 2 (some .boolean), Cond.fieldLink RX6 48 "ValveWalkModel" "pipes" "I", Cond.methodLink RX6 44 yX6_in, Cond.static yX6_in, Cond.code yX6_in cX6_in 3 (some .boolean), Cond.methodLink RX6 80 yX6_partOf, Cond.static yX6_partOf, Cond.code yX6_partOf cX6_partOf 1 (some .int), Cond.methodLink RX6 86 yX6_spread, Cond.instanceMethod yX6_spread, Cond.selects RX6 yX6_spread yX6_spread, Cond.code yX6_spread cX6_spread 8 (some .int), Cond.fieldLink RX6 7 "ValveWalkModel" "nodeAt" "[I", Cond.methodLink RX6 83 yX6_isOpen, Cond.instanceMethod yX6_isOpen]
def wsX6_ring_r2 : List Cond := [Cond.selects RX6 yX6_isOpen yX6_isOpen, Cond.code yX6_isOpen cX6_isOpen 6 (some .boolean), Cond.fieldLink RX6 13 "ValveWalkModel" "valveAt" "[I", Cond.fieldLink RX6 73 "ValveWalkModel" "shut" "I", Cond.fieldLink RX6 70 "ValveWalkModel" "stuck" "I", Cond.methodLink RX6 54 yX6_refused, Cond.instanceMethod yX6_refused, Cond.selects RX6 yX6_refused yX6_refused, Cond.code yX6_refused cX6_refused 2 (some .boolean), Cond.fieldLink RX6 37 "ValveWalkModel" "refusal" "I", Cond.methodLink RX6 105 yX6_ringOf, Cond.instanceMethod yX6_ringOf, Cond.selects RX6 yX6_ringOf yX6_ringOf, Cond.code yX6_ringOf cX6_ringOf 9 (some .int), Cond.fieldLink RX6 51 "ValveWalkModel" "valves" "I", Cond.fieldLink RX6 22 "ValveWalkModel" "placeOf" "[I"]
def wsX6_ring : List Cond := .code yX6_ring cX6_ring 2 (some .int) :: ((wsX6_ring_r1 ++ wsX6_ring_r2) ++ wsX60)
def wsX6_cutOff_r1 : List Cond := [Cond.methodLink RX6 102 yX6_noRing, Cond.instanceMethod yX6_noRing, Cond.selects RX6 yX6_noRing yX6_noRing, Cond.initialized RX6, Cond.code yX6_noRing cX6_noRing 2 (some .boolean), Cond.fieldLink RX6 58 "ValveWalkModel" "sources" "I", Cond.methodLink RX6 64 yX6_isPipe, Cond.instanceMethod yX6_isPipe, Cond.selects RX6 yX6_isPipe yX6_isPipe, Cond.code yX6_isPipe cX6_isPipe 2 (some .boolean), Cond.fieldLink RX6 48 "ValveWalkModel" "pipes" "I", Cond.methodLink RX6 44 yX6_in, Cond.static yX6_in, Cond.code yX6_in cX6_in 3 (some .boolean), Cond.methodLink RX6 80 yX6_partOf, Cond.static yX6_partOf, Cond.code yX6_partOf cX6_partOf 1 (some .int), Cond.methodLink RX6 86 yX6_spread, Cond.instanceMethod yX6_spread, Cond.selects RX6 yX6_spread yX6_spread, Cond.code yX6_spread cX6_spread 8 (some .int), Cond.fieldLink RX6 7 "ValveWalkModel" "nodeAt" "[I", Cond.methodLink RX6 83 yX6_isOpen, Cond.instanceMethod yX6_isOpen]
def wsX6_cutOff_r2 : List Cond := [Cond.selects RX6 yX6_isOpen yX6_isOpen, Cond.code yX6_isOpen cX6_isOpen 6 (some .boolean), Cond.fieldLink RX6 13 "ValveWalkModel" "valveAt" "[I", Cond.fieldLink RX6 73 "ValveWalkModel" "shut" "I", Cond.fieldLink RX6 70 "ValveWalkModel" "stuck" "I", Cond.methodLink RX6 54 yX6_refused, Cond.instanceMethod yX6_refused, Cond.selects RX6 yX6_refused yX6_refused, Cond.code yX6_refused cX6_refused 2 (some .boolean), Cond.fieldLink RX6 37 "ValveWalkModel" "refusal" "I", Cond.methodLink RX6 90 yX6_wet, Cond.instanceMethod yX6_wet, Cond.selects RX6 yX6_wet yX6_wet, Cond.code yX6_wet cX6_wet 2 (some .int), Cond.methodLink RX6 93 yX6_supply, Cond.instanceMethod yX6_supply, Cond.selects RX6 yX6_supply yX6_supply, Cond.code yX6_supply cX6_supply 4 (some .int), Cond.fieldLink RX6 19 "ValveWalkModel" "customers" "[I", Cond.methodLink RX6 105 yX6_ringOf, Cond.instanceMethod yX6_ringOf, Cond.selects RX6 yX6_ringOf yX6_ringOf, Cond.code yX6_ringOf cX6_ringOf 9 (some .int), Cond.fieldLink RX6 51 "ValveWalkModel" "valves" "I"]
def wsX6_cutOff_r3 : List Cond := [Cond.fieldLink RX6 22 "ValveWalkModel" "placeOf" "[I"]
def wsX6_cutOff : List Cond := .code yX6_cutOff cX6_cutOff 2 (some .int) :: ((wsX6_cutOff_r1 ++ (wsX6_cutOff_r2 ++ wsX6_cutOff_r3)) ++ wsX60)
def wsX6_least_r1 : List Cond := [Cond.fieldLink RX6 51 "ValveWalkModel" "valves" "I", Cond.fieldLink RX6 73 "ValveWalkModel" "shut" "I", Cond.fieldLink RX6 70 "ValveWalkModel" "stuck" "I", Cond.methodLink RX6 108 yX6_bits, Cond.static yX6_bits, Cond.initialized RX6, Cond.code yX6_bits cX6_bits 3 (some .int), Cond.methodLink RX6 90 yX6_wet, Cond.instanceMethod yX6_wet, Cond.selects RX6 yX6_wet yX6_wet, Cond.code yX6_wet cX6_wet 2 (some .int), Cond.fieldLink RX6 58 "ValveWalkModel" "sources" "I", Cond.methodLink RX6 86 yX6_spread, Cond.instanceMethod yX6_spread, Cond.selects RX6 yX6_spread yX6_spread, Cond.code yX6_spread cX6_spread 8 (some .int), Cond.fieldLink RX6 48 "ValveWalkModel" "pipes" "I", Cond.fieldLink RX6 7 "ValveWalkModel" "nodeAt" "[I", Cond.methodLink RX6 80 yX6_partOf, Cond.static yX6_partOf, Cond.code yX6_partOf cX6_partOf 1 (some .int), Cond.methodLink RX6 83 yX6_isOpen, Cond.instanceMethod yX6_isOpen, Cond.selects RX6 yX6_isOpen yX6_isOpen]
def wsX6_least_r2 : List Cond := [Cond.code yX6_isOpen cX6_isOpen 6 (some .boolean), Cond.fieldLink RX6 13 "ValveWalkModel" "valveAt" "[I"]
def wsX6_least : List Cond := .code yX6_least cX6_least 5 (some .int) :: ((wsX6_least_r1 ++ wsX6_least_r2) ++ wsX60)
def wsX6_fewest_r1 : List Cond := [Cond.methodLink RX6 64 yX6_isPipe, Cond.instanceMethod yX6_isPipe, Cond.selects RX6 yX6_isPipe yX6_isPipe, Cond.initialized RX6, Cond.code yX6_isPipe cX6_isPipe 2 (some .boolean), Cond.fieldLink RX6 48 "ValveWalkModel" "pipes" "I", Cond.methodLink RX6 44 yX6_in, Cond.static yX6_in, Cond.code yX6_in cX6_in 3 (some .boolean), Cond.methodLink RX6 54 yX6_refused, Cond.instanceMethod yX6_refused, Cond.selects RX6 yX6_refused yX6_refused, Cond.code yX6_refused cX6_refused 2 (some .boolean), Cond.fieldLink RX6 37 "ValveWalkModel" "refusal" "I", Cond.methodLink RX6 111 yX6_least, Cond.instanceMethod yX6_least, Cond.selects RX6 yX6_least yX6_least, Cond.code yX6_least cX6_least 5 (some .int), Cond.fieldLink RX6 51 "ValveWalkModel" "valves" "I", Cond.fieldLink RX6 73 "ValveWalkModel" "shut" "I", Cond.fieldLink RX6 70 "ValveWalkModel" "stuck" "I", Cond.methodLink RX6 108 yX6_bits, Cond.static yX6_bits, Cond.code yX6_bits cX6_bits 3 (some .int)]
def wsX6_fewest_r2 : List Cond := [Cond.methodLink RX6 90 yX6_wet, Cond.instanceMethod yX6_wet, Cond.selects RX6 yX6_wet yX6_wet, Cond.code yX6_wet cX6_wet 2 (some .int), Cond.fieldLink RX6 58 "ValveWalkModel" "sources" "I", Cond.methodLink RX6 86 yX6_spread, Cond.instanceMethod yX6_spread, Cond.selects RX6 yX6_spread yX6_spread, Cond.code yX6_spread cX6_spread 8 (some .int), Cond.fieldLink RX6 7 "ValveWalkModel" "nodeAt" "[I", Cond.methodLink RX6 80 yX6_partOf, Cond.static yX6_partOf, Cond.code yX6_partOf cX6_partOf 1 (some .int), Cond.methodLink RX6 83 yX6_isOpen, Cond.instanceMethod yX6_isOpen, Cond.selects RX6 yX6_isOpen yX6_isOpen, Cond.code yX6_isOpen cX6_isOpen 6 (some .boolean), Cond.fieldLink RX6 13 "ValveWalkModel" "valveAt" "[I"]
def wsX6_fewest : List Cond := .code yX6_fewest cX6_fewest 3 (some .int) :: ((wsX6_fewest_r1 ++ wsX6_fewest_r2) ++ wsX60)
def wsX6_fewestByTrying_r1 : List Cond := [Cond.methodLink RX6 64 yX6_isPipe, Cond.instanceMethod yX6_isPipe, Cond.selects RX6 yX6_isPipe yX6_isPipe, Cond.initialized RX6, Cond.code yX6_isPipe cX6_isPipe 2 (some .boolean), Cond.fieldLink RX6 48 "ValveWalkModel" "pipes" "I", Cond.methodLink RX6 44 yX6_in, Cond.static yX6_in, Cond.code yX6_in cX6_in 3 (some .boolean), Cond.methodLink RX6 54 yX6_refused, Cond.instanceMethod yX6_refused, Cond.selects RX6 yX6_refused yX6_refused, Cond.code yX6_refused cX6_refused 2 (some .boolean), Cond.fieldLink RX6 37 "ValveWalkModel" "refusal" "I", Cond.methodLink RX6 111 yX6_least, Cond.instanceMethod yX6_least, Cond.selects RX6 yX6_least yX6_least, Cond.code yX6_least cX6_least 5 (some .int), Cond.fieldLink RX6 51 "ValveWalkModel" "valves" "I", Cond.fieldLink RX6 73 "ValveWalkModel" "shut" "I", Cond.fieldLink RX6 70 "ValveWalkModel" "stuck" "I", Cond.methodLink RX6 108 yX6_bits, Cond.static yX6_bits, Cond.code yX6_bits cX6_bits 3 (some .int)]
def wsX6_fewestByTrying_r2 : List Cond := [Cond.methodLink RX6 90 yX6_wet, Cond.instanceMethod yX6_wet, Cond.selects RX6 yX6_wet yX6_wet, Cond.code yX6_wet cX6_wet 2 (some .int), Cond.fieldLink RX6 58 "ValveWalkModel" "sources" "I", Cond.methodLink RX6 86 yX6_spread, Cond.instanceMethod yX6_spread, Cond.selects RX6 yX6_spread yX6_spread, Cond.code yX6_spread cX6_spread 8 (some .int), Cond.fieldLink RX6 7 "ValveWalkModel" "nodeAt" "[I", Cond.methodLink RX6 80 yX6_partOf, Cond.static yX6_partOf, Cond.code yX6_partOf cX6_partOf 1 (some .int), Cond.methodLink RX6 83 yX6_isOpen, Cond.instanceMethod yX6_isOpen, Cond.selects RX6 yX6_isOpen yX6_isOpen, Cond.code yX6_isOpen cX6_isOpen 6 (some .boolean), Cond.fieldLink RX6 13 "ValveWalkModel" "valveAt" "[I"]
def wsX6_fewestByTrying : List Cond := .code yX6_fewestByTrying cX6_fewestByTrying 2 (some .int) :: ((wsX6_fewestByTrying_r1 ++ wsX6_fewestByTrying_r2) ++ wsX60)
def wsX6_measure : List Cond := .code yX6_measure cX6_measure 5 none :: ([.fieldLink RX6 41 "ValveWalkModel" "nodes" "I", .fieldLink RX6 25 "ValveWalkModel" "distances" "[I", .fieldLink RX6 58 "ValveWalkModel" "sources" "I", .constant RX6 114 (1000000), .fieldLink RX6 48 "ValveWalkModel" "pipes" "I", .fieldLink RX6 7 "ValveWalkModel" "nodeAt" "[I", .fieldLink RX6 16 "ValveWalkModel" "lengths" "[I", .methodLink RX6 83 yX6_isOpen, .instanceMethod yX6_isOpen, .selects RX6 yX6_isOpen yX6_isOpen, .initialized RX6, .code yX6_isOpen cX6_isOpen 6 (some .boolean), .fieldLink RX6 13 "ValveWalkModel" "valveAt" "[I", .fieldLink RX6 73 "ValveWalkModel" "shut" "I", .fieldLink RX6 70 "ValveWalkModel" "stuck" "I"] ++ wsX60)
def wsX6_distance_r1 : List Cond := [Cond.fieldLink RX6 25 "ValveWalkModel" "distances" "[I", Cond.constant RX6 114 (1000000), Cond.methodLink RX6 61 yX6_isNode, Cond.instanceMethod yX6_isNode, Cond.selects RX6 yX6_isNode yX6_isNode, Cond.initialized RX6, Cond.code yX6_isNode cX6_isNode 2 (some .boolean), Cond.fieldLink RX6 41 "ValveWalkModel" "nodes" "I", Cond.methodLink RX6 44 yX6_in, Cond.static yX6_in, Cond.code yX6_in cX6_in 3 (some .boolean), Cond.methodLink RX6 54 yX6_refused, Cond.instanceMethod yX6_refused, Cond.selects RX6 yX6_refused yX6_refused, Cond.code yX6_refused cX6_refused 2 (some .boolean), Cond.fieldLink RX6 37 "ValveWalkModel" "refusal" "I", Cond.methodLink RX6 115 yX6_measure, Cond.instanceMethod yX6_measure, Cond.selects RX6 yX6_measure yX6_measure, Cond.code yX6_measure cX6_measure 5 none, Cond.fieldLink RX6 58 "ValveWalkModel" "sources" "I", Cond.fieldLink RX6 48 "ValveWalkModel" "pipes" "I", Cond.fieldLink RX6 7 "ValveWalkModel" "nodeAt" "[I", Cond.fieldLink RX6 16 "ValveWalkModel" "lengths" "[I"]
def wsX6_distance_r2 : List Cond := [Cond.methodLink RX6 83 yX6_isOpen, Cond.instanceMethod yX6_isOpen, Cond.selects RX6 yX6_isOpen yX6_isOpen, Cond.code yX6_isOpen cX6_isOpen 6 (some .boolean), Cond.fieldLink RX6 13 "ValveWalkModel" "valveAt" "[I", Cond.fieldLink RX6 73 "ValveWalkModel" "shut" "I", Cond.fieldLink RX6 70 "ValveWalkModel" "stuck" "I"]
def wsX6_distance : List Cond := .code yX6_distance cX6_distance 2 (some .int) :: ((wsX6_distance_r1 ++ wsX6_distance_r2) ++ wsX60)
def wsX6_reach : List Cond := .code yX6_reach cX6_reach 2 (some .int) :: ([.fieldLink RX6 25 "ValveWalkModel" "distances" "[I", .fieldLink RX6 7 "ValveWalkModel" "nodeAt" "[I", .constant RX6 114 (1000000), .methodLink RX6 83 yX6_isOpen, .instanceMethod yX6_isOpen, .selects RX6 yX6_isOpen yX6_isOpen, .initialized RX6, .code yX6_isOpen cX6_isOpen 6 (some .boolean), .fieldLink RX6 13 "ValveWalkModel" "valveAt" "[I", .fieldLink RX6 73 "ValveWalkModel" "shut" "I", .fieldLink RX6 70 "ValveWalkModel" "stuck" "I"] ++ wsX60)
def wsX6_sort_r1 : List Cond := [Cond.fieldLink RX6 118 "ValveWalkModel" "ordered" "I", Cond.fieldLink RX6 48 "ValveWalkModel" "pipes" "I", Cond.constant RX6 114 (1000000), Cond.fieldLink RX6 34 "ValveWalkModel" "order" "[I", Cond.methodLink RX6 115 yX6_measure, Cond.instanceMethod yX6_measure, Cond.selects RX6 yX6_measure yX6_measure, Cond.initialized RX6, Cond.code yX6_measure cX6_measure 5 none, Cond.fieldLink RX6 41 "ValveWalkModel" "nodes" "I", Cond.fieldLink RX6 25 "ValveWalkModel" "distances" "[I", Cond.fieldLink RX6 58 "ValveWalkModel" "sources" "I", Cond.fieldLink RX6 7 "ValveWalkModel" "nodeAt" "[I", Cond.fieldLink RX6 16 "ValveWalkModel" "lengths" "[I", Cond.methodLink RX6 83 yX6_isOpen, Cond.instanceMethod yX6_isOpen, Cond.selects RX6 yX6_isOpen yX6_isOpen, Cond.code yX6_isOpen cX6_isOpen 6 (some .boolean), Cond.fieldLink RX6 13 "ValveWalkModel" "valveAt" "[I", Cond.fieldLink RX6 73 "ValveWalkModel" "shut" "I", Cond.fieldLink RX6 70 "ValveWalkModel" "stuck" "I", Cond.methodLink RX6 121 yX6_reach, Cond.instanceMethod yX6_reach, Cond.selects RX6 yX6_reach yX6_reach]
def wsX6_sort_r2 : List Cond := [Cond.code yX6_reach cX6_reach 2 (some .int)]
def wsX6_sort : List Cond := .code yX6_sort cX6_sort 5 none :: ((wsX6_sort_r1 ++ wsX6_sort_r2) ++ wsX60)
def wsX6_flushAt_r1 : List Cond := [Cond.fieldLink RX6 118 "ValveWalkModel" "ordered" "I", Cond.fieldLink RX6 34 "ValveWalkModel" "order" "[I", Cond.methodLink RX6 124 yX6_sort, Cond.instanceMethod yX6_sort, Cond.selects RX6 yX6_sort yX6_sort, Cond.initialized RX6, Cond.code yX6_sort cX6_sort 5 none, Cond.fieldLink RX6 48 "ValveWalkModel" "pipes" "I", Cond.constant RX6 114 (1000000), Cond.methodLink RX6 115 yX6_measure, Cond.instanceMethod yX6_measure, Cond.selects RX6 yX6_measure yX6_measure, Cond.code yX6_measure cX6_measure 5 none, Cond.fieldLink RX6 41 "ValveWalkModel" "nodes" "I", Cond.fieldLink RX6 25 "ValveWalkModel" "distances" "[I", Cond.fieldLink RX6 58 "ValveWalkModel" "sources" "I", Cond.fieldLink RX6 7 "ValveWalkModel" "nodeAt" "[I", Cond.fieldLink RX6 16 "ValveWalkModel" "lengths" "[I", Cond.methodLink RX6 83 yX6_isOpen, Cond.instanceMethod yX6_isOpen, Cond.selects RX6 yX6_isOpen yX6_isOpen, Cond.code yX6_isOpen cX6_isOpen 6 (some .boolean), Cond.fieldLink RX6 13 "ValveWalkModel" "valveAt" "[I", Cond.fieldLink RX6 73 "ValveWalkModel" "shut" "I"]
def wsX6_flushAt_r2 : List Cond := [Cond.fieldLink RX6 70 "ValveWalkModel" "stuck" "I", Cond.methodLink RX6 121 yX6_reach, Cond.instanceMethod yX6_reach, Cond.selects RX6 yX6_reach yX6_reach, Cond.code yX6_reach cX6_reach 2 (some .int), Cond.methodLink RX6 44 yX6_in, Cond.static yX6_in, Cond.code yX6_in cX6_in 3 (some .boolean), Cond.methodLink RX6 54 yX6_refused, Cond.instanceMethod yX6_refused, Cond.selects RX6 yX6_refused yX6_refused, Cond.code yX6_refused cX6_refused 2 (some .boolean), Cond.fieldLink RX6 37 "ValveWalkModel" "refusal" "I"]
def wsX6_flushAt : List Cond := .code yX6_flushAt cX6_flushAt 2 (some .int) :: ((wsX6_flushAt_r1 ++ wsX6_flushAt_r2) ++ wsX60)
def wsX6_connect : List Cond := .code yX6_connect cX6_connect 4 none :: ([.fieldLink RX6 28 "ValveWalkModel" "ways" "[I", .constant RX6 114 (1000000), .fieldLink RX6 48 "ValveWalkModel" "pipes" "I", .fieldLink RX6 7 "ValveWalkModel" "nodeAt" "[I", .fieldLink RX6 16 "ValveWalkModel" "lengths" "[I", .fieldLink RX6 41 "ValveWalkModel" "nodes" "I"] ++ wsX60)
def wsX6_walked : List Cond := .code yX6_walked cX6_walked 10 (some .int) :: ([.constant RX6 114 (1000000), .fieldLink RX6 28 "ValveWalkModel" "ways" "[I", .fieldLink RX6 31 "ValveWalkModel" "stops" "[I"] ++ wsX60)
def wsX6_walk_r1 : List Cond := [Cond.fieldLink RX6 51 "ValveWalkModel" "valves" "I", Cond.fieldLink RX6 31 "ValveWalkModel" "stops" "[I", Cond.fieldLink RX6 7 "ValveWalkModel" "nodeAt" "[I", Cond.fieldLink RX6 22 "ValveWalkModel" "placeOf" "[I", Cond.constant RX6 114 (1000000), Cond.methodLink RX6 108 yX6_bits, Cond.static yX6_bits, Cond.initialized RX6, Cond.code yX6_bits cX6_bits 3 (some .int), Cond.methodLink RX6 61 yX6_isNode, Cond.instanceMethod yX6_isNode, Cond.selects RX6 yX6_isNode yX6_isNode, Cond.code yX6_isNode cX6_isNode 2 (some .boolean), Cond.fieldLink RX6 41 "ValveWalkModel" "nodes" "I", Cond.methodLink RX6 44 yX6_in, Cond.static yX6_in, Cond.code yX6_in cX6_in 3 (some .boolean), Cond.methodLink RX6 54 yX6_refused, Cond.instanceMethod yX6_refused, Cond.selects RX6 yX6_refused yX6_refused, Cond.code yX6_refused cX6_refused 2 (some .boolean), Cond.fieldLink RX6 37 "ValveWalkModel" "refusal" "I", Cond.methodLink RX6 127 yX6_connect, Cond.instanceMethod yX6_connect]
def wsX6_walk_r2 : List Cond := [Cond.selects RX6 yX6_connect yX6_connect, Cond.code yX6_connect cX6_connect 4 none, Cond.fieldLink RX6 28 "ValveWalkModel" "ways" "[I", Cond.fieldLink RX6 48 "ValveWalkModel" "pipes" "I", Cond.fieldLink RX6 16 "ValveWalkModel" "lengths" "[I", Cond.methodLink RX6 130 yX6_walked, Cond.instanceMethod yX6_walked, Cond.selects RX6 yX6_walked yX6_walked, Cond.code yX6_walked cX6_walked 10 (some .int)]
def wsX6_walk : List Cond := .code yX6_walk cX6_walk 9 (some .int) :: ((wsX6_walk_r1 ++ wsX6_walk_r2) ++ wsX60)
def wsJ9_max_7cf53 : List Cond := .code yJ9_max_7cf53 cJ9_max_7cf53 2 (some .int) :: ([])
def wsJ9_min_7cf53 : List Cond := .code yJ9_min_7cf53 cJ9_min_7cf53 2 (some .int) :: ([])
def wsL_addNode_r1 : List Cond := [Cond.classLink RL 13 "java/lang/IllegalStateException", Cond.methodLink RL 7 yX5_addNode, Cond.instanceMethod yX5_addNode, Cond.selects RX5 yX5_addNode yX5_addNode, Cond.initialized RX5, Cond.code yX5_addNode cX5_addNode 2 (some .int), Cond.classLink RX5 50 "java/lang/IllegalStateException", Cond.initialized "java/lang/IllegalStateException", Cond.fieldLink RX5 12 "ValveWalk" "network" "LValveWalk$Network;", Cond.methodLink RX5 46 yX2_nodeCount, Cond.instanceMethod yX2_nodeCount, Cond.selects RX2 yX2_nodeCount yX2_nodeCount, Cond.initialized RX2, Cond.code yX2_nodeCount cX2_nodeCount 1 (some .int), Cond.fieldLink RX2 30 "ValveWalk$Network" "nodeCount" "I", Cond.methodLink RX5 57 yX2_putNode, Cond.instanceMethod yX2_putNode, Cond.selects RX2 yX2_putNode yX2_putNode, Cond.code yX2_putNode cX2_putNode 3 (some .int), Cond.methodLink RX2 43 yX2_markSource, Cond.instanceMethod yX2_markSource, Cond.selects RX2 yX2_markSource yX2_markSource, Cond.code yX2_markSource cX2_markSource 4 (some .boolean), Cond.fieldLink RX2 40 "ValveWalk$Network" "sources" "I"]
def wsL_addNode_r2 : List Cond := [Cond.static yX5_hasBit, Cond.code yX5_hasBit cX5_hasBit 2 (some .boolean), Cond.static yX5_withBit, Cond.code yX5_withBit cX5_withBit 3 (some .int)]
def wsL_addNode : List Cond := .codeWith yL_addNode cL_addNode 4 (some .int) [(0, 9, 12, 13)] :: ((wsL_addNode_r1 ++ wsL_addNode_r2) ++ wsX50 ++ wsX20 ++ (vx_atS RX5 54 "java/lang/IllegalStateException" ["java/lang/RuntimeException", "java/lang/Exception"]).filter goodWord)
def wsL_addPipe_r1 : List Cond := [Cond.classLink RL 19 "java/lang/IndexOutOfBoundsException", Cond.classLink RL 21 "java/lang/IllegalArgumentException", Cond.classLink RL 13 "java/lang/IllegalStateException", Cond.methodLink RL 15 yX5_addPipe, Cond.instanceMethod yX5_addPipe, Cond.selects RX5 yX5_addPipe yX5_addPipe, Cond.initialized RX5, Cond.code yX5_addPipe cX5_addPipe 5 (some .int), Cond.classLink RX5 65 "java/lang/IllegalArgumentException", Cond.initialized "java/lang/IllegalArgumentException", Cond.classLink RX5 50 "java/lang/IllegalStateException", Cond.initialized "java/lang/IllegalStateException", Cond.fieldLink RX5 12 "ValveWalk" "network" "LValveWalk$Network;", Cond.methodLink RX5 61 yX5_requireNode, Cond.instanceMethod yX5_requireNode, Cond.selects RX5 yX5_requireNode yX5_requireNode, Cond.code yX5_requireNode cX5_requireNode 2 none, Cond.classLink RX5 164 "java/lang/IndexOutOfBoundsException", Cond.initialized "java/lang/IndexOutOfBoundsException", Cond.methodLink RX5 46 yX2_nodeCount, Cond.instanceMethod yX2_nodeCount, Cond.selects RX2 yX2_nodeCount yX2_nodeCount, Cond.initialized RX2, Cond.code yX2_nodeCount cX2_nodeCount 1 (some .int)]
def wsL_addPipe_r2 : List Cond := [Cond.fieldLink RX2 30 "ValveWalk$Network" "nodeCount" "I", Cond.methodLink RX5 74 yX2_pipeCount, Cond.instanceMethod yX2_pipeCount, Cond.selects RX2 yX2_pipeCount yX2_pipeCount, Cond.code yX2_pipeCount cX2_pipeCount 1 (some .int), Cond.fieldLink RX2 34 "ValveWalk$Network" "pipeCount" "I", Cond.methodLink RX5 79 yX2_putPipe, Cond.instanceMethod yX2_putPipe, Cond.selects RX2 yX2_putPipe yX2_putPipe, Cond.code yX2_putPipe cX2_putPipe 6 (some .int), Cond.fieldLink RX2 9 "ValveWalk$Network" "lengths" "[I", Cond.fieldLink RX2 15 "ValveWalk$Network" "customers" "[I", Cond.methodLink RX2 47 yX2_join, Cond.instanceMethod yX2_join, Cond.selects RX2 yX2_join yX2_join, Cond.code yX2_join cX2_join 5 none, Cond.fieldLink RX2 18 "ValveWalk$Network" "nodeAt" "[I", Cond.fieldLink RX2 24 "ValveWalk$Network" "sidesAt" "[I", Cond.static yX5_partOfPipe, Cond.code yX5_partOfPipe cX5_partOfPipe 1 (some .int)]
def wsL_addPipe : List Cond := .codeWith yL_addPipe cL_addPipe 7 (some .int) [(0, 14, 17, 19), (0, 14, 21, 21), (0, 14, 25, 13)] :: ((wsL_addPipe_r1 ++ wsL_addPipe_r2) ++ wsX50 ++ wsX20 ++ (vx_atS RX5 69 "java/lang/IllegalArgumentException" ["java/lang/RuntimeException", "java/lang/Exception"]).filter goodWord ++ (vx_atS RX5 54 "java/lang/IllegalStateException" ["java/lang/RuntimeException", "java/lang/Exception"]).filter goodWord ++ (vx_atS RX5 168 "java/lang/IndexOutOfBoundsException" ["java/lang/RuntimeException", "java/lang/Exception"]).filter goodWord)
def wsL_addValve_r1 : List Cond := [Cond.classLink RL 19 "java/lang/IndexOutOfBoundsException", Cond.classLink RL 21 "java/lang/IllegalArgumentException", Cond.classLink RL 13 "java/lang/IllegalStateException", Cond.methodLink RL 23 yX5_addValve, Cond.instanceMethod yX5_addValve, Cond.selects RX5 yX5_addValve yX5_addValve, Cond.initialized RX5, Cond.code yX5_addValve cX5_addValve 3 (some .int), Cond.classLink RX5 65 "java/lang/IllegalArgumentException", Cond.initialized "java/lang/IllegalArgumentException", Cond.classLink RX5 50 "java/lang/IllegalStateException", Cond.initialized "java/lang/IllegalStateException", Cond.fieldLink RX5 12 "ValveWalk" "network" "LValveWalk$Network;", Cond.methodLink RX5 83 yX5_requirePipe, Cond.instanceMethod yX5_requirePipe, Cond.selects RX5 yX5_requirePipe yX5_requirePipe, Cond.code yX5_requirePipe cX5_requirePipe 2 none, Cond.classLink RX5 164 "java/lang/IndexOutOfBoundsException", Cond.initialized "java/lang/IndexOutOfBoundsException", Cond.methodLink RX5 74 yX2_pipeCount, Cond.instanceMethod yX2_pipeCount, Cond.selects RX2 yX2_pipeCount yX2_pipeCount, Cond.initialized RX2, Cond.code yX2_pipeCount cX2_pipeCount 1 (some .int)]
def wsL_addValve_r2 : List Cond := [Cond.fieldLink RX2 34 "ValveWalk$Network" "pipeCount" "I", Cond.methodLink RX5 88 yX2_valveBitAt, Cond.instanceMethod yX2_valveBitAt, Cond.selects RX2 yX2_valveBitAt yX2_valveBitAt, Cond.code yX2_valveBitAt cX2_valveBitAt 3 (some .int), Cond.fieldLink RX2 21 "ValveWalk$Network" "valveBitAt" "[I", Cond.methodLink RX5 94 yX2_valveCount, Cond.instanceMethod yX2_valveCount, Cond.selects RX2 yX2_valveCount yX2_valveCount, Cond.code yX2_valveCount cX2_valveCount 1 (some .int), Cond.fieldLink RX2 37 "ValveWalk$Network" "valveCount" "I", Cond.methodLink RX5 99 yX2_putValve, Cond.instanceMethod yX2_putValve, Cond.selects RX2 yX2_putValve yX2_putValve, Cond.code yX2_putValve cX2_putValve 5 (some .int), Cond.fieldLink RX2 27 "ValveWalk$Network" "jointOf" "[I"]
def wsL_addValve : List Cond := .codeWith yL_addValve cL_addValve 5 (some .int) [(0, 10, 13, 19), (0, 10, 17, 21), (0, 10, 21, 13)] :: ((wsL_addValve_r1 ++ wsL_addValve_r2) ++ wsX50 ++ wsX20 ++ (vx_atS RX5 69 "java/lang/IllegalArgumentException" ["java/lang/RuntimeException", "java/lang/Exception"]).filter goodWord ++ (vx_atS RX5 54 "java/lang/IllegalStateException" ["java/lang/RuntimeException", "java/lang/Exception"]).filter goodWord ++ (vx_atS RX5 168 "java/lang/IndexOutOfBoundsException" ["java/lang/RuntimeException", "java/lang/Exception"]).filter goodWord)
def wsL_setSource_r1 : List Cond := [Cond.classLink RL 19 "java/lang/IndexOutOfBoundsException", Cond.methodLink RL 27 yX5_setSource, Cond.instanceMethod yX5_setSource, Cond.selects RX5 yX5_setSource yX5_setSource, Cond.initialized RX5, Cond.code yX5_setSource cX5_setSource 3 (some .boolean), Cond.fieldLink RX5 12 "ValveWalk" "network" "LValveWalk$Network;", Cond.methodLink RX5 61 yX5_requireNode, Cond.instanceMethod yX5_requireNode, Cond.selects RX5 yX5_requireNode yX5_requireNode, Cond.code yX5_requireNode cX5_requireNode 2 none, Cond.classLink RX5 164 "java/lang/IndexOutOfBoundsException", Cond.initialized "java/lang/IndexOutOfBoundsException", Cond.methodLink RX5 46 yX2_nodeCount, Cond.instanceMethod yX2_nodeCount, Cond.selects RX2 yX2_nodeCount yX2_nodeCount, Cond.initialized RX2, Cond.code yX2_nodeCount cX2_nodeCount 1 (some .int), Cond.fieldLink RX2 30 "ValveWalk$Network" "nodeCount" "I", Cond.methodLink RX5 102 yX2_markSource, Cond.instanceMethod yX2_markSource, Cond.selects RX2 yX2_markSource yX2_markSource, Cond.code yX2_markSource cX2_markSource 4 (some .boolean), Cond.fieldLink RX2 40 "ValveWalk$Network" "sources" "I"]
def wsL_setSource_r2 : List Cond := [Cond.static yX5_hasBit, Cond.code yX5_hasBit cX5_hasBit 2 (some .boolean), Cond.static yX5_withBit, Cond.code yX5_withBit cX5_withBit 3 (some .int)]
def wsL_setSource : List Cond := .codeWith yL_setSource cL_setSource 5 (some .int) [(0, 17, 20, 19)] :: ((wsL_setSource_r1 ++ wsL_setSource_r2) ++ wsX50 ++ wsX20 ++ (vx_atS RX5 168 "java/lang/IndexOutOfBoundsException" ["java/lang/RuntimeException", "java/lang/Exception"]).filter goodWord)
def wsL_setStuck_r1 : List Cond := [Cond.classLink RL 19 "java/lang/IndexOutOfBoundsException", Cond.methodLink RL 31 yX5_setStuck, Cond.instanceMethod yX5_setStuck, Cond.selects RX5 yX5_setStuck yX5_setStuck, Cond.initialized RX5, Cond.code yX5_setStuck cX5_setStuck 3 (some .boolean), Cond.fieldLink RX5 12 "ValveWalk" "network" "LValveWalk$Network;", Cond.methodLink RX5 106 yX5_requireValve, Cond.instanceMethod yX5_requireValve, Cond.selects RX5 yX5_requireValve yX5_requireValve, Cond.code yX5_requireValve cX5_requireValve 2 none, Cond.classLink RX5 164 "java/lang/IndexOutOfBoundsException", Cond.initialized "java/lang/IndexOutOfBoundsException", Cond.methodLink RX5 94 yX2_valveCount, Cond.instanceMethod yX2_valveCount, Cond.selects RX2 yX2_valveCount yX2_valveCount, Cond.initialized RX2, Cond.code yX2_valveCount cX2_valveCount 1 (some .int), Cond.fieldLink RX2 37 "ValveWalk$Network" "valveCount" "I", Cond.methodLink RX5 109 yX2_markStuck, Cond.instanceMethod yX2_markStuck, Cond.selects RX2 yX2_markStuck yX2_markStuck, Cond.code yX2_markStuck cX2_markStuck 4 (some .boolean), Cond.fieldLink RX2 63 "ValveWalk$Network" "stuck" "I"]
def wsL_setStuck_r2 : List Cond := [Cond.static yX5_hasBit, Cond.code yX5_hasBit cX5_hasBit 2 (some .boolean), Cond.static yX5_withBit, Cond.code yX5_withBit cX5_withBit 3 (some .int)]
def wsL_setStuck : List Cond := .codeWith yL_setStuck cL_setStuck 5 (some .int) [(0, 17, 20, 19)] :: ((wsL_setStuck_r1 ++ wsL_setStuck_r2) ++ wsX50 ++ wsX20 ++ (vx_atS RX5 168 "java/lang/IndexOutOfBoundsException" ["java/lang/RuntimeException", "java/lang/Exception"]).filter goodWord)
def wsL_turn_r1 : List Cond := [Cond.classLink RL 19 "java/lang/IndexOutOfBoundsException", Cond.classLink RL 13 "java/lang/IllegalStateException", Cond.methodLink RL 34 yX5_turn, Cond.instanceMethod yX5_turn, Cond.selects RX5 yX5_turn yX5_turn, Cond.initialized RX5, Cond.code yX5_turn cX5_turn 3 (some .boolean), Cond.classLink RX5 50 "java/lang/IllegalStateException", Cond.initialized "java/lang/IllegalStateException", Cond.fieldLink RX5 12 "ValveWalk" "network" "LValveWalk$Network;", Cond.methodLink RX5 106 yX5_requireValve, Cond.instanceMethod yX5_requireValve, Cond.selects RX5 yX5_requireValve yX5_requireValve, Cond.code yX5_requireValve cX5_requireValve 2 none, Cond.classLink RX5 164 "java/lang/IndexOutOfBoundsException", Cond.initialized "java/lang/IndexOutOfBoundsException", Cond.methodLink RX5 94 yX2_valveCount, Cond.instanceMethod yX2_valveCount, Cond.selects RX2 yX2_valveCount yX2_valveCount, Cond.initialized RX2, Cond.code yX2_valveCount cX2_valveCount 1 (some .int), Cond.fieldLink RX2 37 "ValveWalk$Network" "valveCount" "I", Cond.methodLink RX5 112 yX2_isStuck, Cond.instanceMethod yX2_isStuck]
def wsL_turn_r2 : List Cond := [Cond.selects RX2 yX2_isStuck yX2_isStuck, Cond.code yX2_isStuck cX2_isStuck 2 (some .boolean), Cond.fieldLink RX2 63 "ValveWalk$Network" "stuck" "I", Cond.static yX5_hasBit, Cond.code yX5_hasBit cX5_hasBit 2 (some .boolean), Cond.methodLink RX5 118 yX2_markShut, Cond.instanceMethod yX2_markShut, Cond.selects RX2 yX2_markShut yX2_markShut, Cond.code yX2_markShut cX2_markShut 4 (some .boolean), Cond.fieldLink RX2 66 "ValveWalk$Network" "shut" "I", Cond.static yX5_withBit, Cond.code yX5_withBit cX5_withBit 3 (some .int)]
def wsL_turn : List Cond := .codeWith yL_turn cL_turn 5 (some .int) [(0, 17, 20, 19), (0, 17, 24, 13)] :: ((wsL_turn_r1 ++ wsL_turn_r2) ++ wsX50 ++ wsX20 ++ (vx_atS RX5 54 "java/lang/IllegalStateException" ["java/lang/RuntimeException", "java/lang/Exception"]).filter goodWord ++ (vx_atS RX5 168 "java/lang/IndexOutOfBoundsException" ["java/lang/RuntimeException", "java/lang/Exception"]).filter goodWord)
def wsL_isNodeDry_r1 : List Cond := [Cond.classLink RL 19 "java/lang/IndexOutOfBoundsException", Cond.methodLink RL 37 yX5_isNodeDry, Cond.instanceMethod yX5_isNodeDry, Cond.selects RX5 yX5_isNodeDry yX5_isNodeDry, Cond.initialized RX5, Cond.code yX5_isNodeDry cX5_isNodeDry 2 (some .boolean), Cond.methodLink RX5 61 yX5_requireNode, Cond.instanceMethod yX5_requireNode, Cond.selects RX5 yX5_requireNode yX5_requireNode, Cond.code yX5_requireNode cX5_requireNode 2 none, Cond.classLink RX5 164 "java/lang/IndexOutOfBoundsException", Cond.initialized "java/lang/IndexOutOfBoundsException", Cond.fieldLink RX5 12 "ValveWalk" "network" "LValveWalk$Network;", Cond.methodLink RX5 46 yX2_nodeCount, Cond.instanceMethod yX2_nodeCount, Cond.selects RX2 yX2_nodeCount yX2_nodeCount, Cond.initialized RX2, Cond.code yX2_nodeCount cX2_nodeCount 1 (some .int), Cond.fieldLink RX2 30 "ValveWalk$Network" "nodeCount" "I", Cond.methodLink RX5 121 yX5_isDry, Cond.instanceMethod yX5_isDry, Cond.selects RX5 yX5_isDry yX5_isDry, Cond.code yX5_isDry cX5_isDry 2 (some .boolean), Cond.methodLink RX5 128 yX2_wetBehind]
def wsL_isNodeDry_r2 : List Cond := [Cond.instanceMethod yX2_wetBehind, Cond.selects RX2 yX2_wetBehind yX2_wetBehind, Cond.code yX2_wetBehind cX2_wetBehind 2 (some .int), Cond.fieldLink RX2 40 "ValveWalk$Network" "sources" "I", Cond.fieldLink RX2 66 "ValveWalk$Network" "shut" "I", Cond.methodLink RX2 72 yX2_reach, Cond.instanceMethod yX2_reach, Cond.selects RX2 yX2_reach yX2_reach, Cond.code yX2_reach cX2_reach 8 (some .int), Cond.fieldLink RX2 34 "ValveWalk$Network" "pipeCount" "I", Cond.fieldLink RX2 21 "ValveWalk$Network" "valveBitAt" "[I", Cond.fieldLink RX2 24 "ValveWalk$Network" "sidesAt" "[I", Cond.methodLink RX5 187 yX5_hasBit, Cond.static yX5_hasBit, Cond.code yX5_hasBit cX5_hasBit 2 (some .boolean)]
def wsL_isNodeDry : List Cond := .codeWith yL_isNodeDry cL_isNodeDry 4 (some .int) [(0, 16, 19, 19)] :: ((wsL_isNodeDry_r1 ++ wsL_isNodeDry_r2) ++ wsX50 ++ wsX20 ++ (vx_atS RX5 168 "java/lang/IndexOutOfBoundsException" ["java/lang/RuntimeException", "java/lang/Exception"]).filter goodWord)
def wsL_isPipeDry_r1 : List Cond := [Cond.classLink RL 19 "java/lang/IndexOutOfBoundsException", Cond.methodLink RL 41 yX5_isPipeDry, Cond.instanceMethod yX5_isPipeDry, Cond.selects RX5 yX5_isPipeDry yX5_isPipeDry, Cond.initialized RX5, Cond.code yX5_isPipeDry cX5_isPipeDry 2 (some .boolean), Cond.methodLink RX5 83 yX5_requirePipe, Cond.instanceMethod yX5_requirePipe, Cond.selects RX5 yX5_requirePipe yX5_requirePipe, Cond.code yX5_requirePipe cX5_requirePipe 2 none, Cond.classLink RX5 164 "java/lang/IndexOutOfBoundsException", Cond.initialized "java/lang/IndexOutOfBoundsException", Cond.fieldLink RX5 12 "ValveWalk" "network" "LValveWalk$Network;", Cond.methodLink RX5 74 yX2_pipeCount, Cond.instanceMethod yX2_pipeCount, Cond.selects RX2 yX2_pipeCount yX2_pipeCount, Cond.initialized RX2, Cond.code yX2_pipeCount cX2_pipeCount 1 (some .int), Cond.fieldLink RX2 34 "ValveWalk$Network" "pipeCount" "I", Cond.methodLink RX5 124 yX5_partOfPipe, Cond.static yX5_partOfPipe, Cond.code yX5_partOfPipe cX5_partOfPipe 1 (some .int), Cond.methodLink RX5 121 yX5_isDry, Cond.instanceMethod yX5_isDry]
def wsL_isPipeDry_r2 : List Cond := [Cond.selects RX5 yX5_isDry yX5_isDry, Cond.code yX5_isDry cX5_isDry 2 (some .boolean), Cond.methodLink RX5 128 yX2_wetBehind, Cond.instanceMethod yX2_wetBehind, Cond.selects RX2 yX2_wetBehind yX2_wetBehind, Cond.code yX2_wetBehind cX2_wetBehind 2 (some .int), Cond.fieldLink RX2 40 "ValveWalk$Network" "sources" "I", Cond.fieldLink RX2 66 "ValveWalk$Network" "shut" "I", Cond.methodLink RX2 72 yX2_reach, Cond.instanceMethod yX2_reach, Cond.selects RX2 yX2_reach yX2_reach, Cond.code yX2_reach cX2_reach 8 (some .int), Cond.fieldLink RX2 21 "ValveWalk$Network" "valveBitAt" "[I", Cond.fieldLink RX2 24 "ValveWalk$Network" "sidesAt" "[I", Cond.methodLink RX5 187 yX5_hasBit, Cond.static yX5_hasBit, Cond.code yX5_hasBit cX5_hasBit 2 (some .boolean)]
def wsL_isPipeDry : List Cond := .codeWith yL_isPipeDry cL_isPipeDry 4 (some .int) [(0, 16, 19, 19)] :: ((wsL_isPipeDry_r1 ++ wsL_isPipeDry_r2) ++ wsX50 ++ wsX20 ++ (vx_atS RX5 168 "java/lang/IndexOutOfBoundsException" ["java/lang/RuntimeException", "java/lang/Exception"]).filter goodWord)
def wsL_segmentOfNode_r1 : List Cond := [Cond.classLink RL 19 "java/lang/IndexOutOfBoundsException", Cond.methodLink RL 44 yX5_segmentOfNode, Cond.instanceMethod yX5_segmentOfNode, Cond.selects RX5 yX5_segmentOfNode yX5_segmentOfNode, Cond.initialized RX5, Cond.code yX5_segmentOfNode cX5_segmentOfNode 2 (some .int), Cond.fieldLink RX5 21 "ValveWalk" "parting" "LValveWalk$Segments;", Cond.methodLink RX5 61 yX5_requireNode, Cond.instanceMethod yX5_requireNode, Cond.selects RX5 yX5_requireNode yX5_requireNode, Cond.code yX5_requireNode cX5_requireNode 2 none, Cond.classLink RX5 164 "java/lang/IndexOutOfBoundsException", Cond.initialized "java/lang/IndexOutOfBoundsException", Cond.fieldLink RX5 12 "ValveWalk" "network" "LValveWalk$Network;", Cond.methodLink RX5 46 yX2_nodeCount, Cond.instanceMethod yX2_nodeCount, Cond.selects RX2 yX2_nodeCount yX2_nodeCount, Cond.initialized RX2, Cond.code yX2_nodeCount cX2_nodeCount 1 (some .int), Cond.fieldLink RX2 30 "ValveWalk$Network" "nodeCount" "I", Cond.methodLink RX5 137 yX3_numberByWalking, Cond.instanceMethod yX3_numberByWalking, Cond.selects RX3 yX3_numberByWalking yX3_numberByWalking, Cond.initialized RX3]
def wsL_segmentOfNode_r2 : List Cond := [Cond.code yX3_numberByWalking cX3_numberByWalking 3 (some .int), Cond.methodLink RX3 23 yX3_segmentWith, Cond.instanceMethod yX3_segmentWith, Cond.selects RX3 yX3_segmentWith yX3_segmentWith, Cond.code yX3_segmentWith cX3_segmentWith 2 (some .int), Cond.fieldLink RX3 15 "ValveWalk$Segments" "network" "LValveWalk$Network;", Cond.methodLink RX3 31 yX2_reach, Cond.instanceMethod yX2_reach, Cond.selects RX2 yX2_reach yX2_reach, Cond.code yX2_reach cX2_reach 8 (some .int), Cond.fieldLink RX2 34 "ValveWalk$Network" "pipeCount" "I", Cond.fieldLink RX2 21 "ValveWalk$Network" "valveBitAt" "[I", Cond.fieldLink RX2 24 "ValveWalk$Network" "sidesAt" "[I", Cond.methodLink RX3 26 yJ6_numberOfTrailingZeros_0f7a4, Cond.static yJ6_numberOfTrailingZeros_0f7a4, Cond.initialized RJ6, Cond.code yJ6_numberOfTrailingZeros_0f7a4 cJ6_numberOfTrailingZeros_0f7a4 2 (some .int), Cond.constant RJ6 264 (65536), Cond.methodLink RX3 19 yX3_countBegunBelow, Cond.instanceMethod yX3_countBegunBelow, Cond.selects RX3 yX3_countBegunBelow yX3_countBegunBelow, Cond.code yX3_countBegunBelow cX3_countBegunBelow 5 (some .int), Cond.methodLink RX3 37 yX2_hasPart, Cond.instanceMethod yX2_hasPart]
def wsL_segmentOfNode_r3 : List Cond := [Cond.selects RX2 yX2_hasPart yX2_hasPart, Cond.code yX2_hasPart cX2_hasPart 2 (some .boolean), Cond.static yX5_partOfPipe, Cond.code yX5_partOfPipe cX5_partOfPipe 1 (some .int), Cond.static yX5_hasBit, Cond.code yX5_hasBit cX5_hasBit 2 (some .boolean)]
def wsL_segmentOfNode : List Cond := .codeWith yL_segmentOfNode cL_segmentOfNode 4 (some .int) [(0, 9, 12, 19)] :: ((wsL_segmentOfNode_r1 ++ (wsL_segmentOfNode_r2 ++ wsL_segmentOfNode_r3)) ++ wsX50 ++ wsX20 ++ wsX30 ++ (vx_atS RX5 168 "java/lang/IndexOutOfBoundsException" ["java/lang/RuntimeException", "java/lang/Exception"]).filter goodWord)
def wsL_segmentOfPipe_r1 : List Cond := [Cond.classLink RL 19 "java/lang/IndexOutOfBoundsException", Cond.methodLink RL 48 yX5_segmentOfPipe, Cond.instanceMethod yX5_segmentOfPipe, Cond.selects RX5 yX5_segmentOfPipe yX5_segmentOfPipe, Cond.initialized RX5, Cond.code yX5_segmentOfPipe cX5_segmentOfPipe 2 (some .int), Cond.fieldLink RX5 21 "ValveWalk" "parting" "LValveWalk$Segments;", Cond.methodLink RX5 83 yX5_requirePipe, Cond.instanceMethod yX5_requirePipe, Cond.selects RX5 yX5_requirePipe yX5_requirePipe, Cond.code yX5_requirePipe cX5_requirePipe 2 none, Cond.classLink RX5 164 "java/lang/IndexOutOfBoundsException", Cond.initialized "java/lang/IndexOutOfBoundsException", Cond.fieldLink RX5 12 "ValveWalk" "network" "LValveWalk$Network;", Cond.methodLink RX5 74 yX2_pipeCount, Cond.instanceMethod yX2_pipeCount, Cond.selects RX2 yX2_pipeCount yX2_pipeCount, Cond.initialized RX2, Cond.code yX2_pipeCount cX2_pipeCount 1 (some .int), Cond.fieldLink RX2 34 "ValveWalk$Network" "pipeCount" "I", Cond.methodLink RX5 124 yX5_partOfPipe, Cond.static yX5_partOfPipe, Cond.code yX5_partOfPipe cX5_partOfPipe 1 (some .int), Cond.methodLink RX5 137 yX3_numberByWalking]
def wsL_segmentOfPipe_r2 : List Cond := [Cond.instanceMethod yX3_numberByWalking, Cond.selects RX3 yX3_numberByWalking yX3_numberByWalking, Cond.initialized RX3, Cond.code yX3_numberByWalking cX3_numberByWalking 3 (some .int), Cond.methodLink RX3 23 yX3_segmentWith, Cond.instanceMethod yX3_segmentWith, Cond.selects RX3 yX3_segmentWith yX3_segmentWith, Cond.code yX3_segmentWith cX3_segmentWith 2 (some .int), Cond.fieldLink RX3 15 "ValveWalk$Segments" "network" "LValveWalk$Network;", Cond.methodLink RX3 31 yX2_reach, Cond.instanceMethod yX2_reach, Cond.selects RX2 yX2_reach yX2_reach, Cond.code yX2_reach cX2_reach 8 (some .int), Cond.fieldLink RX2 21 "ValveWalk$Network" "valveBitAt" "[I", Cond.fieldLink RX2 24 "ValveWalk$Network" "sidesAt" "[I", Cond.methodLink RX3 26 yJ6_numberOfTrailingZeros_0f7a4, Cond.static yJ6_numberOfTrailingZeros_0f7a4, Cond.initialized RJ6, Cond.code yJ6_numberOfTrailingZeros_0f7a4 cJ6_numberOfTrailingZeros_0f7a4 2 (some .int), Cond.constant RJ6 264 (65536), Cond.methodLink RX3 19 yX3_countBegunBelow, Cond.instanceMethod yX3_countBegunBelow, Cond.selects RX3 yX3_countBegunBelow yX3_countBegunBelow, Cond.code yX3_countBegunBelow cX3_countBegunBelow 5 (some .int)]
def wsL_segmentOfPipe_r3 : List Cond := [Cond.methodLink RX3 37 yX2_hasPart, Cond.instanceMethod yX2_hasPart, Cond.selects RX2 yX2_hasPart yX2_hasPart, Cond.code yX2_hasPart cX2_hasPart 2 (some .boolean), Cond.fieldLink RX2 30 "ValveWalk$Network" "nodeCount" "I", Cond.static yX5_hasBit, Cond.code yX5_hasBit cX5_hasBit 2 (some .boolean)]
def wsL_segmentOfPipe : List Cond := .codeWith yL_segmentOfPipe cL_segmentOfPipe 4 (some .int) [(0, 9, 12, 19)] :: ((wsL_segmentOfPipe_r1 ++ (wsL_segmentOfPipe_r2 ++ wsL_segmentOfPipe_r3)) ++ wsX50 ++ wsX20 ++ wsX30 ++ (vx_atS RX5 168 "java/lang/IndexOutOfBoundsException" ["java/lang/RuntimeException", "java/lang/Exception"]).filter goodWord)
def wsL_segmentByMerging_r1 : List Cond := [Cond.classLink RL 19 "java/lang/IndexOutOfBoundsException", Cond.methodLink RL 51 yX5_segmentByMerging, Cond.instanceMethod yX5_segmentByMerging, Cond.selects RX5 yX5_segmentByMerging yX5_segmentByMerging, Cond.initialized RX5, Cond.code yX5_segmentByMerging cX5_segmentByMerging 2 (some .int), Cond.fieldLink RX5 21 "ValveWalk" "parting" "LValveWalk$Segments;", Cond.methodLink RX5 83 yX5_requirePipe, Cond.instanceMethod yX5_requirePipe, Cond.selects RX5 yX5_requirePipe yX5_requirePipe, Cond.code yX5_requirePipe cX5_requirePipe 2 none, Cond.classLink RX5 164 "java/lang/IndexOutOfBoundsException", Cond.initialized "java/lang/IndexOutOfBoundsException", Cond.fieldLink RX5 12 "ValveWalk" "network" "LValveWalk$Network;", Cond.methodLink RX5 74 yX2_pipeCount, Cond.instanceMethod yX2_pipeCount, Cond.selects RX2 yX2_pipeCount yX2_pipeCount, Cond.initialized RX2, Cond.code yX2_pipeCount cX2_pipeCount 1 (some .int), Cond.fieldLink RX2 34 "ValveWalk$Network" "pipeCount" "I", Cond.methodLink RX5 124 yX5_partOfPipe, Cond.static yX5_partOfPipe, Cond.code yX5_partOfPipe cX5_partOfPipe 1 (some .int), Cond.methodLink RX5 140 yX3_numberByMerging]
def wsL_segmentByMerging_r2 : List Cond := [Cond.instanceMethod yX3_numberByMerging, Cond.selects RX3 yX3_numberByMerging yX3_numberByMerging, Cond.initialized RX3, Cond.code yX3_numberByMerging cX3_numberByMerging 5 (some .int), Cond.fieldLink RX3 15 "ValveWalk$Segments" "network" "LValveWalk$Network;", Cond.methodLink RX3 45 yX3_mergePipes, Cond.instanceMethod yX3_mergePipes, Cond.selects RX3 yX3_mergePipes yX3_mergePipes, Cond.code yX3_mergePipes cX3_mergePipes 3 none, Cond.fieldLink RX3 9 "ValveWalk$Segments" "earlier" "[I", Cond.methodLink RX3 51 yX2_pipeCount, Cond.methodLink RX3 55 yX2_valveBitAt, Cond.instanceMethod yX2_valveBitAt, Cond.selects RX2 yX2_valveBitAt yX2_valveBitAt, Cond.code yX2_valveBitAt cX2_valveBitAt 3 (some .int), Cond.fieldLink RX2 21 "ValveWalk$Network" "valveBitAt" "[I", Cond.methodLink RX3 61 yX2_nodeAt, Cond.instanceMethod yX2_nodeAt, Cond.selects RX2 yX2_nodeAt yX2_nodeAt, Cond.code yX2_nodeAt cX2_nodeAt 3 (some .int), Cond.fieldLink RX2 18 "ValveWalk$Network" "nodeAt" "[I", Cond.methodLink RX3 64 yX3_merge, Cond.instanceMethod yX3_merge, Cond.selects RX3 yX3_merge yX3_merge]
def wsL_segmentByMerging_r3 : List Cond := [Cond.code yX3_merge cX3_merge 5 none, Cond.methodLink RX3 68 Lib.Math.max.name, Cond.static Lib.Math.max.name, Cond.initialized "java/lang/Math", Cond.code Lib.Math.max.name Lib.Math.max.code 2 (some .int), Cond.methodLink RX3 73 Lib.Math.min.name, Cond.static Lib.Math.min.name, Cond.code Lib.Math.min.name Lib.Math.min.code 2 (some .int), Cond.methodLink RX3 48 yX3_firstOfSet, Cond.instanceMethod yX3_firstOfSet, Cond.selects RX3 yX3_firstOfSet yX3_firstOfSet, Cond.code yX3_firstOfSet cX3_firstOfSet 4 (some .int), Cond.methodLink RX3 37 yX2_hasPart, Cond.instanceMethod yX2_hasPart, Cond.selects RX2 yX2_hasPart yX2_hasPart, Cond.code yX2_hasPart cX2_hasPart 2 (some .boolean), Cond.fieldLink RX2 30 "ValveWalk$Network" "nodeCount" "I"]
def wsL_segmentByMerging : List Cond := .codeWith yL_segmentByMerging cL_segmentByMerging 4 (some .int) [(0, 9, 12, 19)] :: ((wsL_segmentByMerging_r1 ++ (wsL_segmentByMerging_r2 ++ wsL_segmentByMerging_r3)) ++ wsX50 ++ wsX20 ++ wsX30 ++ (vx_atS RX5 168 "java/lang/IndexOutOfBoundsException" ["java/lang/RuntimeException", "java/lang/Exception"]).filter goodWord)
def wsL_ring_r1 : List Cond := [Cond.classLink RL 19 "java/lang/IndexOutOfBoundsException", Cond.classLink RL 13 "java/lang/IllegalStateException", Cond.methodLink RL 54 yX5_ring, Cond.instanceMethod yX5_ring, Cond.selects RX5 yX5_ring yX5_ring, Cond.initialized RX5, Cond.code yX5_ring cX5_ring 2 (some .int), Cond.fieldLink RX5 28 "ValveWalk" "breaks" "LValveWalk$Breaks;", Cond.methodLink RX5 83 yX5_requirePipe, Cond.instanceMethod yX5_requirePipe, Cond.selects RX5 yX5_requirePipe yX5_requirePipe, Cond.code yX5_requirePipe cX5_requirePipe 2 none, Cond.classLink RX5 164 "java/lang/IndexOutOfBoundsException", Cond.initialized "java/lang/IndexOutOfBoundsException", Cond.fieldLink RX5 12 "ValveWalk" "network" "LValveWalk$Network;", Cond.methodLink RX5 74 yX2_pipeCount, Cond.instanceMethod yX2_pipeCount, Cond.selects RX2 yX2_pipeCount yX2_pipeCount, Cond.initialized RX2, Cond.code yX2_pipeCount cX2_pipeCount 1 (some .int), Cond.fieldLink RX2 34 "ValveWalk$Network" "pipeCount" "I", Cond.methodLink RX5 143 yX5_regionWithoutSource, Cond.instanceMethod yX5_regionWithoutSource, Cond.selects RX5 yX5_regionWithoutSource yX5_regionWithoutSource]
def wsL_ring_r2 : List Cond := [Cond.code yX5_regionWithoutSource cX5_regionWithoutSource 3 (some .int), Cond.classLink RX5 50 "java/lang/IllegalStateException", Cond.initialized "java/lang/IllegalStateException", Cond.methodLink RX5 191 yX0_regionOf, Cond.instanceMethod yX0_regionOf, Cond.selects RX0 yX0_regionOf yX0_regionOf, Cond.initialized RX0, Cond.code yX0_regionOf cX0_regionOf 2 (some .int), Cond.static yX5_partOfPipe, Cond.code yX5_partOfPipe cX5_partOfPipe 1 (some .int), Cond.methodLink RX0 35 yX0_regionWith, Cond.instanceMethod yX0_regionWith, Cond.selects RX0 yX0_regionWith yX0_regionWith, Cond.code yX0_regionWith cX0_regionWith 2 (some .int), Cond.fieldLink RX0 27 "ValveWalk$Breaks" "network" "LValveWalk$Network;", Cond.methodLink RX0 38 yX2_bounding, Cond.instanceMethod yX2_bounding, Cond.selects RX2 yX2_bounding yX2_bounding, Cond.code yX2_bounding cX2_bounding 1 (some .int), Cond.fieldLink RX2 63 "ValveWalk$Network" "stuck" "I", Cond.fieldLink RX2 66 "ValveWalk$Network" "shut" "I", Cond.methodLink RX0 44 yX2_reach, Cond.instanceMethod yX2_reach, Cond.selects RX2 yX2_reach yX2_reach]
def wsL_ring_r3 : List Cond := [Cond.code yX2_reach cX2_reach 8 (some .int), Cond.fieldLink RX2 21 "ValveWalk$Network" "valveBitAt" "[I", Cond.fieldLink RX2 24 "ValveWalk$Network" "sidesAt" "[I", Cond.methodLink RX5 194 yX2_sources, Cond.instanceMethod yX2_sources, Cond.selects RX2 yX2_sources yX2_sources, Cond.code yX2_sources cX2_sources 1 (some .int), Cond.fieldLink RX2 40 "ValveWalk$Network" "sources" "I", Cond.methodLink RX5 146 yX0_ringOf, Cond.instanceMethod yX0_ringOf, Cond.selects RX0 yX0_ringOf yX0_ringOf, Cond.code yX0_ringOf cX0_ringOf 6 (some .int), Cond.methodLink RX0 51 yX2_valveCount, Cond.instanceMethod yX2_valveCount, Cond.selects RX2 yX2_valveCount yX2_valveCount, Cond.code yX2_valveCount cX2_valveCount 1 (some .int), Cond.fieldLink RX2 37 "ValveWalk$Network" "valveCount" "I", Cond.methodLink RX0 54 yX2_pipeOfValve, Cond.instanceMethod yX2_pipeOfValve, Cond.selects RX2 yX2_pipeOfValve yX2_pipeOfValve, Cond.code yX2_pipeOfValve cX2_pipeOfValve 2 (some .int), Cond.fieldLink RX2 27 "ValveWalk$Network" "jointOf" "[I", Cond.static yX5_hasBit, Cond.code yX5_hasBit cX5_hasBit 2 (some .boolean)]
def wsL_ring_r4 : List Cond := [Cond.methodLink RX0 61 yX2_nodeOfValve, Cond.instanceMethod yX2_nodeOfValve, Cond.selects RX2 yX2_nodeOfValve yX2_nodeOfValve, Cond.code yX2_nodeOfValve cX2_nodeOfValve 2 (some .int), Cond.fieldLink RX2 18 "ValveWalk$Network" "nodeAt" "[I", Cond.methodLink RX0 64 yX2_closable, Cond.instanceMethod yX2_closable, Cond.selects RX2 yX2_closable yX2_closable, Cond.code yX2_closable cX2_closable 1 (some .int)]
def wsL_ring : List Cond := .codeWith yL_ring cL_ring 4 (some .int) [(0, 9, 12, 19), (0, 9, 15, 13)] :: ((wsL_ring_r1 ++ (wsL_ring_r2 ++ (wsL_ring_r3 ++ wsL_ring_r4))) ++ wsX50 ++ wsX20 ++ wsX00 ++ (vx_atS RX5 168 "java/lang/IndexOutOfBoundsException" ["java/lang/RuntimeException", "java/lang/Exception"]).filter goodWord ++ (vx_atS RX5 54 "java/lang/IllegalStateException" ["java/lang/RuntimeException", "java/lang/Exception"]).filter goodWord)
def wsL_cutOff_r1 : List Cond := [Cond.classLink RL 19 "java/lang/IndexOutOfBoundsException", Cond.classLink RL 13 "java/lang/IllegalStateException", Cond.methodLink RL 57 yX5_cutOff, Cond.instanceMethod yX5_cutOff, Cond.selects RX5 yX5_cutOff yX5_cutOff, Cond.initialized RX5, Cond.code yX5_cutOff cX5_cutOff 2 (some .int), Cond.fieldLink RX5 28 "ValveWalk" "breaks" "LValveWalk$Breaks;", Cond.methodLink RX5 83 yX5_requirePipe, Cond.instanceMethod yX5_requirePipe, Cond.selects RX5 yX5_requirePipe yX5_requirePipe, Cond.code yX5_requirePipe cX5_requirePipe 2 none, Cond.classLink RX5 164 "java/lang/IndexOutOfBoundsException", Cond.initialized "java/lang/IndexOutOfBoundsException", Cond.fieldLink RX5 12 "ValveWalk" "network" "LValveWalk$Network;", Cond.methodLink RX5 74 yX2_pipeCount, Cond.instanceMethod yX2_pipeCount, Cond.selects RX2 yX2_pipeCount yX2_pipeCount, Cond.initialized RX2, Cond.code yX2_pipeCount cX2_pipeCount 1 (some .int), Cond.fieldLink RX2 34 "ValveWalk$Network" "pipeCount" "I", Cond.methodLink RX5 143 yX5_regionWithoutSource, Cond.instanceMethod yX5_regionWithoutSource, Cond.selects RX5 yX5_regionWithoutSource yX5_regionWithoutSource]
def wsL_cutOff_r2 : List Cond := [Cond.code yX5_regionWithoutSource cX5_regionWithoutSource 3 (some .int), Cond.classLink RX5 50 "java/lang/IllegalStateException", Cond.initialized "java/lang/IllegalStateException", Cond.methodLink RX5 191 yX0_regionOf, Cond.instanceMethod yX0_regionOf, Cond.selects RX0 yX0_regionOf yX0_regionOf, Cond.initialized RX0, Cond.code yX0_regionOf cX0_regionOf 2 (some .int), Cond.static yX5_partOfPipe, Cond.code yX5_partOfPipe cX5_partOfPipe 1 (some .int), Cond.methodLink RX0 35 yX0_regionWith, Cond.instanceMethod yX0_regionWith, Cond.selects RX0 yX0_regionWith yX0_regionWith, Cond.code yX0_regionWith cX0_regionWith 2 (some .int), Cond.fieldLink RX0 27 "ValveWalk$Breaks" "network" "LValveWalk$Network;", Cond.methodLink RX0 38 yX2_bounding, Cond.instanceMethod yX2_bounding, Cond.selects RX2 yX2_bounding yX2_bounding, Cond.code yX2_bounding cX2_bounding 1 (some .int), Cond.fieldLink RX2 63 "ValveWalk$Network" "stuck" "I", Cond.fieldLink RX2 66 "ValveWalk$Network" "shut" "I", Cond.methodLink RX0 44 yX2_reach, Cond.instanceMethod yX2_reach, Cond.selects RX2 yX2_reach yX2_reach]
def wsL_cutOff_r3 : List Cond := [Cond.code yX2_reach cX2_reach 8 (some .int), Cond.fieldLink RX2 21 "ValveWalk$Network" "valveBitAt" "[I", Cond.fieldLink RX2 24 "ValveWalk$Network" "sidesAt" "[I", Cond.methodLink RX5 194 yX2_sources, Cond.instanceMethod yX2_sources, Cond.selects RX2 yX2_sources yX2_sources, Cond.code yX2_sources cX2_sources 1 (some .int), Cond.fieldLink RX2 40 "ValveWalk$Network" "sources" "I", Cond.methodLink RX5 149 yX0_customersLost, Cond.instanceMethod yX0_customersLost, Cond.selects RX0 yX0_customersLost yX0_customersLost, Cond.code yX0_customersLost cX0_customersLost 4 (some .int), Cond.methodLink RX0 67 yX2_wetBehind, Cond.instanceMethod yX2_wetBehind, Cond.selects RX2 yX2_wetBehind yX2_wetBehind, Cond.code yX2_wetBehind cX2_wetBehind 2 (some .int), Cond.methodLink RX2 72 yX2_reach, Cond.methodLink RX0 70 yX0_ringOf, Cond.instanceMethod yX0_ringOf, Cond.selects RX0 yX0_ringOf yX0_ringOf, Cond.code yX0_ringOf cX0_ringOf 6 (some .int), Cond.methodLink RX0 51 yX2_valveCount, Cond.instanceMethod yX2_valveCount, Cond.selects RX2 yX2_valveCount yX2_valveCount]
def wsL_cutOff_r4 : List Cond := [Cond.code yX2_valveCount cX2_valveCount 1 (some .int), Cond.fieldLink RX2 37 "ValveWalk$Network" "valveCount" "I", Cond.methodLink RX0 54 yX2_pipeOfValve, Cond.instanceMethod yX2_pipeOfValve, Cond.selects RX2 yX2_pipeOfValve yX2_pipeOfValve, Cond.code yX2_pipeOfValve cX2_pipeOfValve 2 (some .int), Cond.fieldLink RX2 27 "ValveWalk$Network" "jointOf" "[I", Cond.static yX5_hasBit, Cond.code yX5_hasBit cX5_hasBit 2 (some .boolean), Cond.methodLink RX0 61 yX2_nodeOfValve, Cond.instanceMethod yX2_nodeOfValve, Cond.selects RX2 yX2_nodeOfValve yX2_nodeOfValve, Cond.code yX2_nodeOfValve cX2_nodeOfValve 2 (some .int), Cond.fieldLink RX2 18 "ValveWalk$Network" "nodeAt" "[I", Cond.methodLink RX0 64 yX2_closable, Cond.instanceMethod yX2_closable, Cond.selects RX2 yX2_closable yX2_closable, Cond.code yX2_closable cX2_closable 1 (some .int), Cond.methodLink RX0 73 yX2_customersOf, Cond.instanceMethod yX2_customersOf, Cond.selects RX2 yX2_customersOf yX2_customersOf, Cond.code yX2_customersOf cX2_customersOf 4 (some .int), Cond.fieldLink RX2 15 "ValveWalk$Network" "customers" "[I"]
def wsL_cutOff : List Cond := .codeWith yL_cutOff cL_cutOff 4 (some .int) [(0, 9, 12, 19), (0, 9, 15, 13)] :: ((wsL_cutOff_r1 ++ (wsL_cutOff_r2 ++ (wsL_cutOff_r3 ++ wsL_cutOff_r4))) ++ wsX50 ++ wsX20 ++ wsX00 ++ (vx_atS RX5 168 "java/lang/IndexOutOfBoundsException" ["java/lang/RuntimeException", "java/lang/Exception"]).filter goodWord ++ (vx_atS RX5 54 "java/lang/IllegalStateException" ["java/lang/RuntimeException", "java/lang/Exception"]).filter goodWord)
def wsL_fewest_r1 : List Cond := [Cond.classLink RL 19 "java/lang/IndexOutOfBoundsException", Cond.methodLink RL 60 yX5_fewest, Cond.instanceMethod yX5_fewest, Cond.selects RX5 yX5_fewest yX5_fewest, Cond.initialized RX5, Cond.code yX5_fewest cX5_fewest 2 (some .int), Cond.fieldLink RX5 28 "ValveWalk" "breaks" "LValveWalk$Breaks;", Cond.methodLink RX5 83 yX5_requirePipe, Cond.instanceMethod yX5_requirePipe, Cond.selects RX5 yX5_requirePipe yX5_requirePipe, Cond.code yX5_requirePipe cX5_requirePipe 2 none, Cond.classLink RX5 164 "java/lang/IndexOutOfBoundsException", Cond.initialized "java/lang/IndexOutOfBoundsException", Cond.fieldLink RX5 12 "ValveWalk" "network" "LValveWalk$Network;", Cond.methodLink RX5 74 yX2_pipeCount, Cond.instanceMethod yX2_pipeCount, Cond.selects RX2 yX2_pipeCount yX2_pipeCount, Cond.initialized RX2, Cond.code yX2_pipeCount cX2_pipeCount 1 (some .int), Cond.fieldLink RX2 34 "ValveWalk$Network" "pipeCount" "I", Cond.methodLink RX5 152 yX0_countWays, Cond.instanceMethod yX0_countWays, Cond.selects RX0 yX0_countWays yX0_countWays, Cond.initialized RX0]
def wsL_fewest_r2 : List Cond := [Cond.code yX0_countWays cX0_countWays 5 (some .int), Cond.fieldLink RX0 18 "ValveWalk$Breaks" "ways" "[I", Cond.methodLink RX0 76 yX0_regionOf, Cond.instanceMethod yX0_regionOf, Cond.selects RX0 yX0_regionOf yX0_regionOf, Cond.code yX0_regionOf cX0_regionOf 2 (some .int), Cond.static yX5_partOfPipe, Cond.code yX5_partOfPipe cX5_partOfPipe 1 (some .int), Cond.methodLink RX0 35 yX0_regionWith, Cond.instanceMethod yX0_regionWith, Cond.selects RX0 yX0_regionWith yX0_regionWith, Cond.code yX0_regionWith cX0_regionWith 2 (some .int), Cond.fieldLink RX0 27 "ValveWalk$Breaks" "network" "LValveWalk$Network;", Cond.methodLink RX0 38 yX2_bounding, Cond.instanceMethod yX2_bounding, Cond.selects RX2 yX2_bounding yX2_bounding, Cond.code yX2_bounding cX2_bounding 1 (some .int), Cond.fieldLink RX2 63 "ValveWalk$Network" "stuck" "I", Cond.fieldLink RX2 66 "ValveWalk$Network" "shut" "I", Cond.methodLink RX0 44 yX2_reach, Cond.instanceMethod yX2_reach, Cond.selects RX2 yX2_reach yX2_reach, Cond.code yX2_reach cX2_reach 8 (some .int), Cond.fieldLink RX2 21 "ValveWalk$Network" "valveBitAt" "[I"]
def wsL_fewest_r3 : List Cond := [Cond.fieldLink RX2 24 "ValveWalk$Network" "sidesAt" "[I", Cond.methodLink RX0 79 yX0_regionsWithSources, Cond.instanceMethod yX0_regionsWithSources, Cond.selects RX0 yX0_regionsWithSources yX0_regionsWithSources, Cond.code yX0_regionsWithSources cX0_regionsWithSources 1 (some .int), Cond.methodLink RX0 48 yX2_sources, Cond.instanceMethod yX2_sources, Cond.selects RX2 yX2_sources yX2_sources, Cond.code yX2_sources cX2_sources 1 (some .int), Cond.fieldLink RX2 40 "ValveWalk$Network" "sources" "I", Cond.methodLink RX0 82 yX0_findRegionsOfValves, Cond.instanceMethod yX0_findRegionsOfValves, Cond.selects RX0 yX0_findRegionsOfValves yX0_findRegionsOfValves, Cond.code yX0_findRegionsOfValves cX0_findRegionsOfValves 2 none, Cond.fieldLink RX0 9 "ValveWalk$Breaks" "pipeRegions" "[I", Cond.fieldLink RX0 15 "ValveWalk$Breaks" "nodeRegions" "[I", Cond.methodLink RX0 51 yX2_valveCount, Cond.instanceMethod yX2_valveCount, Cond.selects RX2 yX2_valveCount yX2_valveCount, Cond.code yX2_valveCount cX2_valveCount 1 (some .int), Cond.fieldLink RX2 37 "ValveWalk$Network" "valveCount" "I", Cond.methodLink RX0 54 yX2_pipeOfValve, Cond.instanceMethod yX2_pipeOfValve, Cond.selects RX2 yX2_pipeOfValve yX2_pipeOfValve]
def wsL_fewest_r4 : List Cond := [Cond.code yX2_pipeOfValve cX2_pipeOfValve 2 (some .int), Cond.fieldLink RX2 27 "ValveWalk$Network" "jointOf" "[I", Cond.methodLink RX0 61 yX2_nodeOfValve, Cond.instanceMethod yX2_nodeOfValve, Cond.selects RX2 yX2_nodeOfValve yX2_nodeOfValve, Cond.code yX2_nodeOfValve cX2_nodeOfValve 2 (some .int), Cond.fieldLink RX2 18 "ValveWalk$Network" "nodeAt" "[I", Cond.methodLink RX0 85 yX0_addWay, Cond.instanceMethod yX0_addWay, Cond.selects RX0 yX0_addWay yX0_addWay, Cond.code yX0_addWay cX0_addWay 9 (some .boolean), Cond.fieldLink RX0 21 "ValveWalk$Breaks" "crossed" "[I", Cond.fieldLink RX0 24 "ValveWalk$Breaks" "directions" "[I", Cond.methodLink RX0 88 yX0_directionAcross, Cond.instanceMethod yX0_directionAcross, Cond.selects RX0 yX0_directionAcross yX0_directionAcross, Cond.code yX0_directionAcross cX0_directionAcross 6 (some .int), Cond.methodLink RX0 64 yX2_closable, Cond.instanceMethod yX2_closable, Cond.selects RX2 yX2_closable yX2_closable, Cond.code yX2_closable cX2_closable 1 (some .int), Cond.static yX5_hasBit, Cond.code yX5_hasBit cX5_hasBit 2 (some .boolean), Cond.methodLink RX0 91 yX0_keepWayTo]
def wsL_fewest_r5 : List Cond := [Cond.instanceMethod yX0_keepWayTo, Cond.selects RX0 yX0_keepWayTo yX0_keepWayTo, Cond.code yX0_keepWayTo cX0_keepWayTo 8 none]
def wsL_fewest : List Cond := .codeWith yL_fewest cL_fewest 4 (some .int) [(0, 9, 12, 19)] :: ((wsL_fewest_r1 ++ (wsL_fewest_r2 ++ (wsL_fewest_r3 ++ (wsL_fewest_r4 ++ wsL_fewest_r5)))) ++ wsX50 ++ wsX20 ++ wsX00 ++ (vx_atS RX5 168 "java/lang/IndexOutOfBoundsException" ["java/lang/RuntimeException", "java/lang/Exception"]).filter goodWord)
def wsL_fewestByTrying_r1 : List Cond := [Cond.classLink RL 19 "java/lang/IndexOutOfBoundsException", Cond.methodLink RL 63 yX5_fewestByTrying, Cond.instanceMethod yX5_fewestByTrying, Cond.selects RX5 yX5_fewestByTrying yX5_fewestByTrying, Cond.initialized RX5, Cond.code yX5_fewestByTrying cX5_fewestByTrying 2 (some .int), Cond.fieldLink RX5 28 "ValveWalk" "breaks" "LValveWalk$Breaks;", Cond.methodLink RX5 83 yX5_requirePipe, Cond.instanceMethod yX5_requirePipe, Cond.selects RX5 yX5_requirePipe yX5_requirePipe, Cond.code yX5_requirePipe cX5_requirePipe 2 none, Cond.classLink RX5 164 "java/lang/IndexOutOfBoundsException", Cond.initialized "java/lang/IndexOutOfBoundsException", Cond.fieldLink RX5 12 "ValveWalk" "network" "LValveWalk$Network;", Cond.methodLink RX5 74 yX2_pipeCount, Cond.instanceMethod yX2_pipeCount, Cond.selects RX2 yX2_pipeCount yX2_pipeCount, Cond.initialized RX2, Cond.code yX2_pipeCount cX2_pipeCount 1 (some .int), Cond.fieldLink RX2 34 "ValveWalk$Network" "pipeCount" "I", Cond.methodLink RX5 155 yX0_trySets, Cond.instanceMethod yX0_trySets, Cond.selects RX0 yX0_trySets yX0_trySets, Cond.initialized RX0]
def wsL_fewestByTrying_r2 : List Cond := [Cond.code yX0_trySets cX0_trySets 9 (some .int), Cond.fieldLink RX0 27 "ValveWalk$Breaks" "network" "LValveWalk$Network;", Cond.methodLink RX0 76 yX0_regionOf, Cond.instanceMethod yX0_regionOf, Cond.selects RX0 yX0_regionOf yX0_regionOf, Cond.code yX0_regionOf cX0_regionOf 2 (some .int), Cond.static yX5_partOfPipe, Cond.code yX5_partOfPipe cX5_partOfPipe 1 (some .int), Cond.methodLink RX0 35 yX0_regionWith, Cond.instanceMethod yX0_regionWith, Cond.selects RX0 yX0_regionWith yX0_regionWith, Cond.code yX0_regionWith cX0_regionWith 2 (some .int), Cond.methodLink RX0 38 yX2_bounding, Cond.instanceMethod yX2_bounding, Cond.selects RX2 yX2_bounding yX2_bounding, Cond.code yX2_bounding cX2_bounding 1 (some .int), Cond.fieldLink RX2 63 "ValveWalk$Network" "stuck" "I", Cond.fieldLink RX2 66 "ValveWalk$Network" "shut" "I", Cond.methodLink RX0 44 yX2_reach, Cond.instanceMethod yX2_reach, Cond.selects RX2 yX2_reach yX2_reach, Cond.code yX2_reach cX2_reach 8 (some .int), Cond.fieldLink RX2 21 "ValveWalk$Network" "valveBitAt" "[I", Cond.fieldLink RX2 24 "ValveWalk$Network" "sidesAt" "[I"]
def wsL_fewestByTrying_r3 : List Cond := [Cond.methodLink RX0 79 yX0_regionsWithSources, Cond.instanceMethod yX0_regionsWithSources, Cond.selects RX0 yX0_regionsWithSources yX0_regionsWithSources, Cond.code yX0_regionsWithSources cX0_regionsWithSources 1 (some .int), Cond.methodLink RX0 48 yX2_sources, Cond.instanceMethod yX2_sources, Cond.selects RX2 yX2_sources yX2_sources, Cond.code yX2_sources cX2_sources 1 (some .int), Cond.fieldLink RX2 40 "ValveWalk$Network" "sources" "I", Cond.methodLink RX0 82 yX0_findRegionsOfValves, Cond.instanceMethod yX0_findRegionsOfValves, Cond.selects RX0 yX0_findRegionsOfValves yX0_findRegionsOfValves, Cond.code yX0_findRegionsOfValves cX0_findRegionsOfValves 2 none, Cond.fieldLink RX0 9 "ValveWalk$Breaks" "pipeRegions" "[I", Cond.fieldLink RX0 15 "ValveWalk$Breaks" "nodeRegions" "[I", Cond.methodLink RX0 51 yX2_valveCount, Cond.instanceMethod yX2_valveCount, Cond.selects RX2 yX2_valveCount yX2_valveCount, Cond.code yX2_valveCount cX2_valveCount 1 (some .int), Cond.fieldLink RX2 37 "ValveWalk$Network" "valveCount" "I", Cond.methodLink RX0 54 yX2_pipeOfValve, Cond.instanceMethod yX2_pipeOfValve, Cond.selects RX2 yX2_pipeOfValve yX2_pipeOfValve, Cond.code yX2_pipeOfValve cX2_pipeOfValve 2 (some .int)]
def wsL_fewestByTrying_r4 : List Cond := [Cond.fieldLink RX2 27 "ValveWalk$Network" "jointOf" "[I", Cond.methodLink RX0 61 yX2_nodeOfValve, Cond.instanceMethod yX2_nodeOfValve, Cond.selects RX2 yX2_nodeOfValve yX2_nodeOfValve, Cond.code yX2_nodeOfValve cX2_nodeOfValve 2 (some .int), Cond.fieldLink RX2 18 "ValveWalk$Network" "nodeAt" "[I", Cond.methodLink RX0 64 yX2_closable, Cond.instanceMethod yX2_closable, Cond.selects RX2 yX2_closable yX2_closable, Cond.code yX2_closable cX2_closable 1 (some .int), Cond.methodLink RX0 95 yX0_wetOver, Cond.instanceMethod yX0_wetOver, Cond.selects RX0 yX0_wetOver yX0_wetOver, Cond.code yX0_wetOver cX0_wetOver 8 (some .int), Cond.static yX5_hasBit, Cond.code yX5_hasBit cX5_hasBit 2 (some .boolean), Cond.methodLink RX0 98 yX0_setBehind, Cond.static yX0_setBehind, Cond.code yX0_setBehind cX0_setBehind 5 (some .int), Cond.methodLink RX0 101 yJ6_bitCount_0f7a4, Cond.static yJ6_bitCount_0f7a4, Cond.initialized RJ6, Cond.code yJ6_bitCount_0f7a4 cJ6_bitCount_0f7a4 1 (some .int), Cond.constant RJ6 265 (1431655765)]
def wsL_fewestByTrying_r5 : List Cond := [Cond.constant RJ6 266 (858993459), Cond.constant RJ6 267 (252645135)]
def wsL_fewestByTrying : List Cond := .codeWith yL_fewestByTrying cL_fewestByTrying 4 (some .int) [(0, 9, 12, 19)] :: ((wsL_fewestByTrying_r1 ++ (wsL_fewestByTrying_r2 ++ (wsL_fewestByTrying_r3 ++ (wsL_fewestByTrying_r4 ++ wsL_fewestByTrying_r5)))) ++ wsX50 ++ wsX20 ++ wsX00 ++ (vx_atS RX5 168 "java/lang/IndexOutOfBoundsException" ["java/lang/RuntimeException", "java/lang/Exception"]).filter goodWord)
def wsL_distance_r1 : List Cond := [Cond.classLink RL 19 "java/lang/IndexOutOfBoundsException", Cond.methodLink RL 66 yX5_distance, Cond.instanceMethod yX5_distance, Cond.selects RX5 yX5_distance yX5_distance, Cond.initialized RX5, Cond.code yX5_distance cX5_distance 2 (some .int), Cond.fieldLink RX5 35 "ValveWalk" "flushing" "LValveWalk$Flushing;", Cond.methodLink RX5 61 yX5_requireNode, Cond.instanceMethod yX5_requireNode, Cond.selects RX5 yX5_requireNode yX5_requireNode, Cond.code yX5_requireNode cX5_requireNode 2 none, Cond.classLink RX5 164 "java/lang/IndexOutOfBoundsException", Cond.initialized "java/lang/IndexOutOfBoundsException", Cond.fieldLink RX5 12 "ValveWalk" "network" "LValveWalk$Network;", Cond.methodLink RX5 46 yX2_nodeCount, Cond.instanceMethod yX2_nodeCount, Cond.selects RX2 yX2_nodeCount yX2_nodeCount, Cond.initialized RX2, Cond.code yX2_nodeCount cX2_nodeCount 1 (some .int), Cond.fieldLink RX2 30 "ValveWalk$Network" "nodeCount" "I", Cond.methodLink RX5 158 yX1_distanceOf, Cond.instanceMethod yX1_distanceOf, Cond.selects RX1 yX1_distanceOf yX1_distanceOf, Cond.initialized RX1]
def wsL_distance_r2 : List Cond := [Cond.code yX1_distanceOf cX1_distanceOf 2 (some .int), Cond.fieldLink RX1 9 "ValveWalk$Flushing" "distances" "[I", Cond.constant RX1 22 (1000000), Cond.methodLink RX1 19 yX1_measure, Cond.instanceMethod yX1_measure, Cond.selects RX1 yX1_measure yX1_measure, Cond.code yX1_measure cX1_measure 3 none, Cond.fieldLink RX1 15 "ValveWalk$Flushing" "network" "LValveWalk$Network;", Cond.methodLink RX1 23 yX2_sources, Cond.instanceMethod yX2_sources, Cond.selects RX2 yX2_sources yX2_sources, Cond.code yX2_sources cX2_sources 1 (some .int), Cond.fieldLink RX2 40 "ValveWalk$Network" "sources" "I", Cond.static yX5_hasBit, Cond.code yX5_hasBit cX5_hasBit 2 (some .boolean), Cond.methodLink RX1 33 yX2_nodeCount, Cond.methodLink RX1 36 yX2_pipeCount, Cond.instanceMethod yX2_pipeCount, Cond.selects RX2 yX2_pipeCount yX2_pipeCount, Cond.code yX2_pipeCount cX2_pipeCount 1 (some .int), Cond.fieldLink RX2 34 "ValveWalk$Network" "pipeCount" "I", Cond.methodLink RX1 39 yX2_isShutAt, Cond.instanceMethod yX2_isShutAt, Cond.selects RX2 yX2_isShutAt yX2_isShutAt]
def wsL_distance_r3 : List Cond := [Cond.code yX2_isShutAt cX2_isShutAt 3 (some .boolean), Cond.fieldLink RX2 66 "ValveWalk$Network" "shut" "I", Cond.methodLink RX2 69 yX2_valveBitAt, Cond.instanceMethod yX2_valveBitAt, Cond.selects RX2 yX2_valveBitAt yX2_valveBitAt, Cond.code yX2_valveBitAt cX2_valveBitAt 3 (some .int), Cond.fieldLink RX2 21 "ValveWalk$Network" "valveBitAt" "[I", Cond.methodLink RX1 42 yX1_shorten, Cond.instanceMethod yX1_shorten, Cond.selects RX1 yX1_shorten yX1_shorten, Cond.code yX1_shorten cX1_shorten 5 none, Cond.methodLink RX1 54 Lib.Math.min.name, Cond.static Lib.Math.min.name, Cond.initialized "java/lang/Math", Cond.code Lib.Math.min.name Lib.Math.min.code 2 (some .int), Cond.methodLink RX1 46 yX2_nodeAt, Cond.instanceMethod yX2_nodeAt, Cond.selects RX2 yX2_nodeAt yX2_nodeAt, Cond.code yX2_nodeAt cX2_nodeAt 3 (some .int), Cond.fieldLink RX2 18 "ValveWalk$Network" "nodeAt" "[I", Cond.methodLink RX1 50 yX2_lengthOf, Cond.instanceMethod yX2_lengthOf, Cond.selects RX2 yX2_lengthOf yX2_lengthOf, Cond.code yX2_lengthOf cX2_lengthOf 2 (some .int)]
def wsL_distance_r4 : List Cond := [Cond.fieldLink RX2 9 "ValveWalk$Network" "lengths" "[I"]
def wsL_distance : List Cond := .codeWith yL_distance cL_distance 4 (some .int) [(0, 9, 12, 19)] :: ((wsL_distance_r1 ++ (wsL_distance_r2 ++ (wsL_distance_r3 ++ wsL_distance_r4))) ++ wsX50 ++ wsX20 ++ wsX10 ++ (vx_atS RX5 168 "java/lang/IndexOutOfBoundsException" ["java/lang/RuntimeException", "java/lang/Exception"]).filter goodWord)
def wsL_flushAt_r1 : List Cond := [Cond.classLink RL 19 "java/lang/IndexOutOfBoundsException", Cond.methodLink RL 69 yX5_flushAt, Cond.instanceMethod yX5_flushAt, Cond.selects RX5 yX5_flushAt yX5_flushAt, Cond.initialized RX5, Cond.code yX5_flushAt cX5_flushAt 3 (some .int), Cond.classLink RX5 164 "java/lang/IndexOutOfBoundsException", Cond.initialized "java/lang/IndexOutOfBoundsException", Cond.fieldLink RX5 35 "ValveWalk" "flushing" "LValveWalk$Flushing;", Cond.methodLink RX5 161 yX1_pipeAndEndAt, Cond.instanceMethod yX1_pipeAndEndAt, Cond.selects RX1 yX1_pipeAndEndAt yX1_pipeAndEndAt, Cond.initialized RX1, Cond.code yX1_pipeAndEndAt cX1_pipeAndEndAt 3 (some .int), Cond.fieldLink RX1 15 "ValveWalk$Flushing" "network" "LValveWalk$Network;", Cond.methodLink RX1 19 yX1_measure, Cond.instanceMethod yX1_measure, Cond.selects RX1 yX1_measure yX1_measure, Cond.code yX1_measure cX1_measure 3 none, Cond.fieldLink RX1 9 "ValveWalk$Flushing" "distances" "[I", Cond.constant RX1 22 (1000000), Cond.methodLink RX1 23 yX2_sources, Cond.instanceMethod yX2_sources, Cond.selects RX2 yX2_sources yX2_sources]
def wsL_flushAt_r2 : List Cond := [Cond.initialized RX2, Cond.code yX2_sources cX2_sources 1 (some .int), Cond.fieldLink RX2 40 "ValveWalk$Network" "sources" "I", Cond.static yX5_hasBit, Cond.code yX5_hasBit cX5_hasBit 2 (some .boolean), Cond.methodLink RX1 33 yX2_nodeCount, Cond.instanceMethod yX2_nodeCount, Cond.selects RX2 yX2_nodeCount yX2_nodeCount, Cond.code yX2_nodeCount cX2_nodeCount 1 (some .int), Cond.fieldLink RX2 30 "ValveWalk$Network" "nodeCount" "I", Cond.methodLink RX1 36 yX2_pipeCount, Cond.instanceMethod yX2_pipeCount, Cond.selects RX2 yX2_pipeCount yX2_pipeCount, Cond.code yX2_pipeCount cX2_pipeCount 1 (some .int), Cond.fieldLink RX2 34 "ValveWalk$Network" "pipeCount" "I", Cond.methodLink RX1 39 yX2_isShutAt, Cond.instanceMethod yX2_isShutAt, Cond.selects RX2 yX2_isShutAt yX2_isShutAt, Cond.code yX2_isShutAt cX2_isShutAt 3 (some .boolean), Cond.fieldLink RX2 66 "ValveWalk$Network" "shut" "I", Cond.methodLink RX2 69 yX2_valveBitAt, Cond.instanceMethod yX2_valveBitAt, Cond.selects RX2 yX2_valveBitAt yX2_valveBitAt, Cond.code yX2_valveBitAt cX2_valveBitAt 3 (some .int)]
def wsL_flushAt_r3 : List Cond := [Cond.fieldLink RX2 21 "ValveWalk$Network" "valveBitAt" "[I", Cond.methodLink RX1 42 yX1_shorten, Cond.instanceMethod yX1_shorten, Cond.selects RX1 yX1_shorten yX1_shorten, Cond.code yX1_shorten cX1_shorten 5 none, Cond.methodLink RX1 54 Lib.Math.min.name, Cond.static Lib.Math.min.name, Cond.initialized "java/lang/Math", Cond.code Lib.Math.min.name Lib.Math.min.code 2 (some .int), Cond.methodLink RX1 46 yX2_nodeAt, Cond.instanceMethod yX2_nodeAt, Cond.selects RX2 yX2_nodeAt yX2_nodeAt, Cond.code yX2_nodeAt cX2_nodeAt 3 (some .int), Cond.fieldLink RX2 18 "ValveWalk$Network" "nodeAt" "[I", Cond.methodLink RX1 50 yX2_lengthOf, Cond.instanceMethod yX2_lengthOf, Cond.selects RX2 yX2_lengthOf yX2_lengthOf, Cond.code yX2_lengthOf cX2_lengthOf 2 (some .int), Cond.fieldLink RX2 9 "ValveWalk$Network" "lengths" "[I", Cond.methodLink RX1 59 yX1_isFlushed, Cond.instanceMethod yX1_isFlushed, Cond.selects RX1 yX1_isFlushed yX1_isFlushed, Cond.code yX1_isFlushed cX1_isFlushed 2 (some .boolean), Cond.methodLink RX1 66 yX1_endOf]
def wsL_flushAt_r4 : List Cond := [Cond.instanceMethod yX1_endOf, Cond.selects RX1 yX1_endOf yX1_endOf, Cond.code yX1_endOf cX1_endOf 2 (some .int), Cond.methodLink RX1 72 yX1_distanceAt, Cond.instanceMethod yX1_distanceAt, Cond.selects RX1 yX1_distanceAt yX1_distanceAt, Cond.code yX1_distanceAt cX1_distanceAt 3 (some .int), Cond.methodLink RX1 63 yX1_placeOf, Cond.instanceMethod yX1_placeOf, Cond.selects RX1 yX1_placeOf yX1_placeOf, Cond.code yX1_placeOf cX1_placeOf 4 (some .int), Cond.methodLink RX1 69 yX1_isAhead, Cond.instanceMethod yX1_isAhead, Cond.selects RX1 yX1_isAhead yX1_isAhead, Cond.code yX1_isAhead cX1_isAhead 4 (some .boolean)]
def wsL_flushAt : List Cond := .codeWith yL_flushAt cL_flushAt 4 (some .int) [(0, 9, 12, 19)] :: ((wsL_flushAt_r1 ++ (wsL_flushAt_r2 ++ (wsL_flushAt_r3 ++ wsL_flushAt_r4))) ++ wsX50 ++ wsX10 ++ wsX20 ++ (vx_atS RX5 168 "java/lang/IndexOutOfBoundsException" ["java/lang/RuntimeException", "java/lang/Exception"]).filter goodWord)
def wsL_walk_r1 : List Cond := [Cond.classLink RL 19 "java/lang/IndexOutOfBoundsException", Cond.classLink RL 21 "java/lang/IllegalArgumentException", Cond.methodLink RL 72 yX5_walk, Cond.instanceMethod yX5_walk, Cond.selects RX5 yX5_walk yX5_walk, Cond.initialized RX5, Cond.code yX5_walk cX5_walk 3 (some .int), Cond.classLink RX5 65 "java/lang/IllegalArgumentException", Cond.initialized "java/lang/IllegalArgumentException", Cond.fieldLink RX5 12 "ValveWalk" "network" "LValveWalk$Network;", Cond.fieldLink RX5 42 "ValveWalk" "walks" "LValveWalk$Walks;", Cond.methodLink RX5 61 yX5_requireNode, Cond.instanceMethod yX5_requireNode, Cond.selects RX5 yX5_requireNode yX5_requireNode, Cond.code yX5_requireNode cX5_requireNode 2 none, Cond.classLink RX5 164 "java/lang/IndexOutOfBoundsException", Cond.initialized "java/lang/IndexOutOfBoundsException", Cond.methodLink RX5 46 yX2_nodeCount, Cond.instanceMethod yX2_nodeCount, Cond.selects RX2 yX2_nodeCount yX2_nodeCount, Cond.initialized RX2, Cond.code yX2_nodeCount cX2_nodeCount 1 (some .int), Cond.fieldLink RX2 30 "ValveWalk$Network" "nodeCount" "I", Cond.methodLink RX5 94 yX2_valveCount]
def wsL_walk_r2 : List Cond := [Cond.instanceMethod yX2_valveCount, Cond.selects RX2 yX2_valveCount yX2_valveCount, Cond.code yX2_valveCount cX2_valveCount 1 (some .int), Cond.fieldLink RX2 37 "ValveWalk$Network" "valveCount" "I", Cond.methodLink RX5 171 yJ6_bitCount_0f7a4, Cond.static yJ6_bitCount_0f7a4, Cond.initialized RJ6, Cond.code yJ6_bitCount_0f7a4 cJ6_bitCount_0f7a4 1 (some .int), Cond.constant RJ6 265 (1431655765), Cond.constant RJ6 266 (858993459), Cond.constant RJ6 267 (252645135), Cond.methodLink RX5 178 yX4_leastLength, Cond.instanceMethod yX4_leastLength, Cond.selects RX4 yX4_leastLength yX4_leastLength, Cond.initialized RX4, Cond.code yX4_leastLength cX4_leastLength 7 (some .int), Cond.fieldLink RX4 18 "ValveWalk$Walks" "least" "[I", Cond.constant RX4 40 (1000000), Cond.methodLink RX4 41 Lib.Math.min.name, Cond.static Lib.Math.min.name, Cond.initialized "java/lang/Math", Cond.code Lib.Math.min.name Lib.Math.min.code 2 (some .int), Cond.methodLink RX4 25 yX4_listStops, Cond.instanceMethod yX4_listStops]
def wsL_walk_r3 : List Cond := [Cond.selects RX4 yX4_listStops yX4_listStops, Cond.code yX4_listStops cX4_listStops 4 (some .int), Cond.fieldLink RX4 21 "ValveWalk$Walks" "network" "LValveWalk$Network;", Cond.fieldLink RX4 15 "ValveWalk$Walks" "stops" "[I", Cond.methodLink RX4 47 yX2_valveCount, Cond.static yX5_hasBit, Cond.code yX5_hasBit cX5_hasBit 2 (some .boolean), Cond.methodLink RX4 53 yX2_nodeOfValve, Cond.instanceMethod yX2_nodeOfValve, Cond.selects RX2 yX2_nodeOfValve yX2_nodeOfValve, Cond.code yX2_nodeOfValve cX2_nodeOfValve 2 (some .int), Cond.fieldLink RX2 18 "ValveWalk$Network" "nodeAt" "[I", Cond.fieldLink RX2 27 "ValveWalk$Network" "jointOf" "[I", Cond.methodLink RX4 29 yX4_measure, Cond.instanceMethod yX4_measure, Cond.selects RX4 yX4_measure yX4_measure, Cond.code yX4_measure cX4_measure 4 none, Cond.fieldLink RX4 9 "ValveWalk$Walks" "between" "[I", Cond.methodLink RX4 59 yX2_pipeCount, Cond.instanceMethod yX2_pipeCount, Cond.selects RX2 yX2_pipeCount yX2_pipeCount, Cond.code yX2_pipeCount cX2_pipeCount 1 (some .int), Cond.fieldLink RX2 34 "ValveWalk$Network" "pipeCount" "I", Cond.methodLink RX4 62 yX2_nodeAt]
def wsL_walk_r4 : List Cond := [Cond.instanceMethod yX2_nodeAt, Cond.selects RX2 yX2_nodeAt yX2_nodeAt, Cond.code yX2_nodeAt cX2_nodeAt 3 (some .int), Cond.methodLink RX4 65 yX2_lengthOf, Cond.instanceMethod yX2_lengthOf, Cond.selects RX2 yX2_lengthOf yX2_lengthOf, Cond.code yX2_lengthOf cX2_lengthOf 2 (some .int), Cond.fieldLink RX2 9 "ValveWalk$Network" "lengths" "[I", Cond.methodLink RX4 68 yX4_shorten, Cond.instanceMethod yX4_shorten, Cond.selects RX4 yX4_shorten yX4_shorten, Cond.code yX4_shorten cX4_shorten 5 none, Cond.methodLink RX4 72 yX2_nodeCount, Cond.methodLink RX4 75 yX4_shortenBy, Cond.instanceMethod yX4_shortenBy, Cond.selects RX4 yX4_shortenBy yX4_shortenBy, Cond.code yX4_shortenBy cX4_shortenBy 5 none, Cond.methodLink RX4 56 yX4_lengthBetween, Cond.instanceMethod yX4_lengthBetween, Cond.selects RX4 yX4_lengthBetween yX4_lengthBetween, Cond.code yX4_lengthBetween cX4_lengthBetween 3 (some .int), Cond.methodLink RX4 36 yX4_leastEnding, Cond.instanceMethod yX4_leastEnding, Cond.selects RX4 yX4_leastEnding yX4_leastEnding]
def wsL_walk_r5 : List Cond := [Cond.code yX4_leastEnding cX4_leastEnding 9 (some .int)]
def wsL_walk : List Cond := .codeWith yL_walk cL_walk 5 (some .int) [(0, 10, 13, 19), (0, 10, 17, 21)] :: ((wsL_walk_r1 ++ (wsL_walk_r2 ++ (wsL_walk_r3 ++ (wsL_walk_r4 ++ wsL_walk_r5)))) ++ wsX50 ++ wsX20 ++ wsX40 ++ (vx_atS RX5 69 "java/lang/IllegalArgumentException" ["java/lang/RuntimeException", "java/lang/Exception"]).filter goodWord ++ (vx_atS RX5 168 "java/lang/IndexOutOfBoundsException" ["java/lang/RuntimeException", "java/lang/Exception"]).filter goodWord)
def wsL_law0_r1 : List Cond := [Cond.classLink RL 8 RX5, Cond.instantiable RX5 5, Cond.initialized RX5, Cond.classLink RL 76 RX6, Cond.instantiable RX6 17, Cond.initialized RX6, Cond.arrayClass .long, Cond.methodLink RL 75 yX5_init, Cond.instanceMethod yX5_init, Cond.code yX5_init cX5_init 1 none, Cond.methodLink RX5 3 objectInit, Cond.instanceMethod objectInit, Cond.code objectInit ⟨#[0xb1]⟩ 1 none, Cond.classLink RX5 9 RX2, Cond.instantiable RX2 12, Cond.initialized RX2, Cond.fieldLink RX5 12 "ValveWalk" "network" "LValveWalk$Network;", Cond.classLink RX5 16 RX3, Cond.instantiable RX3 2, Cond.initialized RX3, Cond.fieldLink RX5 21 "ValveWalk" "parting" "LValveWalk$Segments;", Cond.classLink RX5 25 RX0, Cond.instantiable RX0 6, Cond.initialized RX0]
def wsL_law0_r2 : List Cond := [Cond.fieldLink RX5 28 "ValveWalk" "breaks" "LValveWalk$Breaks;", Cond.classLink RX5 32 RX1, Cond.instantiable RX1 2, Cond.initialized RX1, Cond.fieldLink RX5 35 "ValveWalk" "flushing" "LValveWalk$Flushing;", Cond.classLink RX5 39 RX4, Cond.instantiable RX4 4, Cond.initialized RX4, Cond.fieldLink RX5 42 "ValveWalk" "walks" "LValveWalk$Walks;", Cond.instanceMethod yX2_init, Cond.code yX2_init cX2_init 1 none, Cond.methodLink RX2 3 objectInit, Cond.arrayClass .int, Cond.fieldLink RX2 9 "ValveWalk$Network" "lengths" "[I", Cond.fieldLink RX2 15 "ValveWalk$Network" "customers" "[I", Cond.fieldLink RX2 18 "ValveWalk$Network" "nodeAt" "[I", Cond.fieldLink RX2 21 "ValveWalk$Network" "valveBitAt" "[I", Cond.fieldLink RX2 24 "ValveWalk$Network" "sidesAt" "[I", Cond.fieldLink RX2 27 "ValveWalk$Network" "jointOf" "[I", Cond.methodLink RX5 18 yX3_init, Cond.instanceMethod yX3_init, Cond.code yX3_init cX3_init 2 none, Cond.methodLink RX3 3 objectInit, Cond.fieldLink RX3 9 "ValveWalk$Segments" "earlier" "[I"]
def wsL_law0_r3 : List Cond := [Cond.fieldLink RX3 15 "ValveWalk$Segments" "network" "LValveWalk$Network;", Cond.methodLink RX5 27 yX0_init, Cond.instanceMethod yX0_init, Cond.code yX0_init cX0_init 2 none, Cond.methodLink RX0 3 objectInit, Cond.fieldLink RX0 9 "ValveWalk$Breaks" "pipeRegions" "[I", Cond.fieldLink RX0 15 "ValveWalk$Breaks" "nodeRegions" "[I", Cond.fieldLink RX0 18 "ValveWalk$Breaks" "ways" "[I", Cond.fieldLink RX0 21 "ValveWalk$Breaks" "crossed" "[I", Cond.fieldLink RX0 24 "ValveWalk$Breaks" "directions" "[I", Cond.fieldLink RX0 27 "ValveWalk$Breaks" "network" "LValveWalk$Network;", Cond.methodLink RX5 34 yX1_init, Cond.instanceMethod yX1_init, Cond.code yX1_init cX1_init 2 none, Cond.methodLink RX1 3 objectInit, Cond.fieldLink RX1 9 "ValveWalk$Flushing" "distances" "[I", Cond.fieldLink RX1 15 "ValveWalk$Flushing" "network" "LValveWalk$Network;", Cond.methodLink RX5 41 yX4_init, Cond.instanceMethod yX4_init, Cond.code yX4_init cX4_init 2 none, Cond.methodLink RX4 3 objectInit, Cond.fieldLink RX4 9 "ValveWalk$Walks" "between" "[I", Cond.fieldLink RX4 15 "ValveWalk$Walks" "stops" "[I", Cond.fieldLink RX4 18 "ValveWalk$Walks" "least" "[I"]
def wsL_law0_r4 : List Cond := [Cond.fieldLink RX4 21 "ValveWalk$Walks" "network" "LValveWalk$Network;", Cond.methodLink RL 78 yX6_init, Cond.instanceMethod yX6_init, Cond.code yX6_init cX6_init 1 none, Cond.methodLink RX6 1 objectInit, Cond.fieldLink RX6 7 "ValveWalkModel" "nodeAt" "[I", Cond.fieldLink RX6 13 "ValveWalkModel" "valveAt" "[I", Cond.fieldLink RX6 16 "ValveWalkModel" "lengths" "[I", Cond.fieldLink RX6 19 "ValveWalkModel" "customers" "[I", Cond.fieldLink RX6 22 "ValveWalkModel" "placeOf" "[I", Cond.fieldLink RX6 25 "ValveWalkModel" "distances" "[I", Cond.fieldLink RX6 28 "ValveWalkModel" "ways" "[I", Cond.fieldLink RX6 31 "ValveWalkModel" "stops" "[I", Cond.fieldLink RX6 34 "ValveWalkModel" "order" "[I", Cond.methodLink RL 79 yL_addNode, Cond.static yL_addNode, Cond.initialized RL, Cond.codeWith yL_addNode cL_addNode 4 (some .int) [(0, 9, 12, 13)], Cond.classLink RL 13 "java/lang/IllegalStateException", Cond.methodLink RL 7 yX5_addNode, Cond.instanceMethod yX5_addNode, Cond.selects RX5 yX5_addNode yX5_addNode, Cond.code yX5_addNode cX5_addNode 2 (some .int), Cond.classLink RX5 50 "java/lang/IllegalStateException"]
def wsL_law0_r5 : List Cond := [Cond.initialized "java/lang/IllegalStateException", Cond.methodLink RX5 46 yX2_nodeCount, Cond.instanceMethod yX2_nodeCount, Cond.selects RX2 yX2_nodeCount yX2_nodeCount, Cond.code yX2_nodeCount cX2_nodeCount 1 (some .int), Cond.fieldLink RX2 30 "ValveWalk$Network" "nodeCount" "I", Cond.methodLink RX5 57 yX2_putNode, Cond.instanceMethod yX2_putNode, Cond.selects RX2 yX2_putNode yX2_putNode, Cond.code yX2_putNode cX2_putNode 3 (some .int), Cond.methodLink RX2 43 yX2_markSource, Cond.instanceMethod yX2_markSource, Cond.selects RX2 yX2_markSource yX2_markSource, Cond.code yX2_markSource cX2_markSource 4 (some .boolean), Cond.fieldLink RX2 40 "ValveWalk$Network" "sources" "I", Cond.static yX5_hasBit, Cond.code yX5_hasBit cX5_hasBit 2 (some .boolean), Cond.static yX5_withBit, Cond.code yX5_withBit cX5_withBit 3 (some .int), Cond.methodLink RL 84 yX6_addNode, Cond.instanceMethod yX6_addNode, Cond.selects RX6 yX6_addNode yX6_addNode, Cond.code yX6_addNode cX6_addNode 2 (some .int), Cond.fieldLink RX6 41 "ValveWalkModel" "nodes" "I"]
def wsL_law0_r6 : List Cond := [Cond.fieldLink RX6 58 "ValveWalkModel" "sources" "I", Cond.methodLink RX6 54 yX6_refused, Cond.instanceMethod yX6_refused, Cond.selects RX6 yX6_refused yX6_refused, Cond.code yX6_refused cX6_refused 2 (some .boolean), Cond.fieldLink RX6 37 "ValveWalkModel" "refusal" "I", Cond.methodLink RL 85 yX6_thrown, Cond.instanceMethod yX6_thrown, Cond.selects RX6 yX6_thrown yX6_thrown, Cond.code yX6_thrown cX6_thrown 1 (some .int), Cond.methodLink RL 89 yL_addPipe, Cond.static yL_addPipe, Cond.codeWith yL_addPipe cL_addPipe 7 (some .int) [(0, 14, 17, 19), (0, 14, 21, 21), (0, 14, 25, 13)], Cond.classLink RL 19 "java/lang/IndexOutOfBoundsException", Cond.classLink RL 21 "java/lang/IllegalArgumentException", Cond.methodLink RL 15 yX5_addPipe, Cond.instanceMethod yX5_addPipe, Cond.selects RX5 yX5_addPipe yX5_addPipe, Cond.code yX5_addPipe cX5_addPipe 5 (some .int), Cond.classLink RX5 65 "java/lang/IllegalArgumentException", Cond.initialized "java/lang/IllegalArgumentException", Cond.methodLink RX5 61 yX5_requireNode, Cond.instanceMethod yX5_requireNode, Cond.selects RX5 yX5_requireNode yX5_requireNode]
def wsL_law0_r7 : List Cond := [Cond.code yX5_requireNode cX5_requireNode 2 none, Cond.classLink RX5 164 "java/lang/IndexOutOfBoundsException", Cond.initialized "java/lang/IndexOutOfBoundsException", Cond.methodLink RX5 74 yX2_pipeCount, Cond.instanceMethod yX2_pipeCount, Cond.selects RX2 yX2_pipeCount yX2_pipeCount, Cond.code yX2_pipeCount cX2_pipeCount 1 (some .int), Cond.fieldLink RX2 34 "ValveWalk$Network" "pipeCount" "I", Cond.methodLink RX5 79 yX2_putPipe, Cond.instanceMethod yX2_putPipe, Cond.selects RX2 yX2_putPipe yX2_putPipe, Cond.code yX2_putPipe cX2_putPipe 6 (some .int), Cond.methodLink RX2 47 yX2_join, Cond.instanceMethod yX2_join, Cond.selects RX2 yX2_join yX2_join, Cond.code yX2_join cX2_join 5 none, Cond.static yX5_partOfPipe, Cond.code yX5_partOfPipe cX5_partOfPipe 1 (some .int), Cond.methodLink RL 92 yX6_addPipe, Cond.instanceMethod yX6_addPipe, Cond.selects RX6 yX6_addPipe yX6_addPipe, Cond.code yX6_addPipe cX6_addPipe 7 (some .int), Cond.fieldLink RX6 48 "ValveWalkModel" "pipes" "I", Cond.methodLink RX6 61 yX6_isNode]
def wsL_law0_r8 : List Cond := [Cond.instanceMethod yX6_isNode, Cond.selects RX6 yX6_isNode yX6_isNode, Cond.code yX6_isNode cX6_isNode 2 (some .boolean), Cond.methodLink RX6 44 yX6_in, Cond.static yX6_in, Cond.code yX6_in cX6_in 3 (some .boolean), Cond.methodLink RL 93 yL_addValve, Cond.static yL_addValve, Cond.codeWith yL_addValve cL_addValve 5 (some .int) [(0, 10, 13, 19), (0, 10, 17, 21), (0, 10, 21, 13)], Cond.methodLink RL 23 yX5_addValve, Cond.instanceMethod yX5_addValve, Cond.selects RX5 yX5_addValve yX5_addValve, Cond.code yX5_addValve cX5_addValve 3 (some .int), Cond.methodLink RX5 83 yX5_requirePipe, Cond.instanceMethod yX5_requirePipe, Cond.selects RX5 yX5_requirePipe yX5_requirePipe, Cond.code yX5_requirePipe cX5_requirePipe 2 none, Cond.methodLink RX5 88 yX2_valveBitAt, Cond.instanceMethod yX2_valveBitAt, Cond.selects RX2 yX2_valveBitAt yX2_valveBitAt, Cond.code yX2_valveBitAt cX2_valveBitAt 3 (some .int), Cond.methodLink RX5 94 yX2_valveCount, Cond.instanceMethod yX2_valveCount, Cond.selects RX2 yX2_valveCount yX2_valveCount]
def wsL_law0_r9 : List Cond := [Cond.code yX2_valveCount cX2_valveCount 1 (some .int), Cond.fieldLink RX2 37 "ValveWalk$Network" "valveCount" "I", Cond.methodLink RX5 99 yX2_putValve, Cond.instanceMethod yX2_putValve, Cond.selects RX2 yX2_putValve yX2_putValve, Cond.code yX2_putValve cX2_putValve 5 (some .int), Cond.methodLink RL 96 yX6_addValve, Cond.instanceMethod yX6_addValve, Cond.selects RX6 yX6_addValve yX6_addValve, Cond.code yX6_addValve cX6_addValve 5 (some .int), Cond.fieldLink RX6 51 "ValveWalkModel" "valves" "I", Cond.methodLink RX6 64 yX6_isPipe, Cond.instanceMethod yX6_isPipe, Cond.selects RX6 yX6_isPipe yX6_isPipe, Cond.code yX6_isPipe cX6_isPipe 2 (some .boolean), Cond.methodLink RL 97 yL_setSource, Cond.static yL_setSource, Cond.codeWith yL_setSource cL_setSource 5 (some .int) [(0, 17, 20, 19)], Cond.methodLink RL 27 yX5_setSource, Cond.instanceMethod yX5_setSource, Cond.selects RX5 yX5_setSource yX5_setSource, Cond.code yX5_setSource cX5_setSource 3 (some .boolean), Cond.methodLink RX5 102 yX2_markSource, Cond.methodLink RL 100 yX6_setSource]
def wsL_law0_r10 : List Cond := [Cond.instanceMethod yX6_setSource, Cond.selects RX6 yX6_setSource yX6_setSource, Cond.code yX6_setSource cX6_setSource 4 (some .boolean), Cond.methodLink RL 101 yL_setStuck, Cond.static yL_setStuck, Cond.codeWith yL_setStuck cL_setStuck 5 (some .int) [(0, 17, 20, 19)], Cond.methodLink RL 31 yX5_setStuck, Cond.instanceMethod yX5_setStuck, Cond.selects RX5 yX5_setStuck yX5_setStuck, Cond.code yX5_setStuck cX5_setStuck 3 (some .boolean), Cond.methodLink RX5 106 yX5_requireValve, Cond.instanceMethod yX5_requireValve, Cond.selects RX5 yX5_requireValve yX5_requireValve, Cond.code yX5_requireValve cX5_requireValve 2 none, Cond.methodLink RX5 109 yX2_markStuck, Cond.instanceMethod yX2_markStuck, Cond.selects RX2 yX2_markStuck yX2_markStuck, Cond.code yX2_markStuck cX2_markStuck 4 (some .boolean), Cond.fieldLink RX2 63 "ValveWalk$Network" "stuck" "I", Cond.methodLink RL 103 yX6_setStuck, Cond.instanceMethod yX6_setStuck, Cond.selects RX6 yX6_setStuck yX6_setStuck, Cond.code yX6_setStuck cX6_setStuck 4 (some .boolean), Cond.fieldLink RX6 70 "ValveWalkModel" "stuck" "I"]
def wsL_law0_r11 : List Cond := [Cond.methodLink RX6 67 yX6_isValve, Cond.instanceMethod yX6_isValve, Cond.selects RX6 yX6_isValve yX6_isValve, Cond.code yX6_isValve cX6_isValve 2 (some .boolean), Cond.methodLink RL 104 yL_turn, Cond.static yL_turn, Cond.codeWith yL_turn cL_turn 5 (some .int) [(0, 17, 20, 19), (0, 17, 24, 13)], Cond.methodLink RL 34 yX5_turn, Cond.instanceMethod yX5_turn, Cond.selects RX5 yX5_turn yX5_turn, Cond.code yX5_turn cX5_turn 3 (some .boolean), Cond.methodLink RX5 112 yX2_isStuck, Cond.instanceMethod yX2_isStuck, Cond.selects RX2 yX2_isStuck yX2_isStuck, Cond.code yX2_isStuck cX2_isStuck 2 (some .boolean), Cond.methodLink RX5 118 yX2_markShut, Cond.instanceMethod yX2_markShut, Cond.selects RX2 yX2_markShut yX2_markShut, Cond.code yX2_markShut cX2_markShut 4 (some .boolean), Cond.fieldLink RX2 66 "ValveWalk$Network" "shut" "I", Cond.methodLink RL 106 yX6_turn, Cond.instanceMethod yX6_turn, Cond.selects RX6 yX6_turn yX6_turn, Cond.code yX6_turn cX6_turn 4 (some .boolean)]
def wsL_law0_r12 : List Cond := [Cond.fieldLink RX6 73 "ValveWalkModel" "shut" "I", Cond.methodLink RL 107 yX5_nodes, Cond.instanceMethod yX5_nodes, Cond.selects RX5 yX5_nodes yX5_nodes, Cond.code yX5_nodes cX5_nodes 1 (some .int), Cond.methodLink RL 110 yX6_nodes, Cond.instanceMethod yX6_nodes, Cond.selects RX6 yX6_nodes yX6_nodes, Cond.code yX6_nodes cX6_nodes 1 (some .int), Cond.methodLink RX6 76 yX6_fine, Cond.instanceMethod yX6_fine, Cond.selects RX6 yX6_fine yX6_fine, Cond.code yX6_fine cX6_fine 2 (some .int), Cond.methodLink RL 111 yX5_pipes, Cond.instanceMethod yX5_pipes, Cond.selects RX5 yX5_pipes yX5_pipes, Cond.code yX5_pipes cX5_pipes 1 (some .int), Cond.methodLink RL 114 yX6_pipes, Cond.instanceMethod yX6_pipes, Cond.selects RX6 yX6_pipes yX6_pipes, Cond.code yX6_pipes cX6_pipes 1 (some .int), Cond.methodLink RL 115 yX5_valves, Cond.instanceMethod yX5_valves, Cond.selects RX5 yX5_valves yX5_valves]
def wsL_law0_r13 : List Cond := [Cond.code yX5_valves cX5_valves 1 (some .int), Cond.methodLink RL 118 yX6_valves, Cond.instanceMethod yX6_valves, Cond.selects RX6 yX6_valves yX6_valves, Cond.code yX6_valves cX6_valves 1 (some .int), Cond.methodLink RL 119 yL_isNodeDry, Cond.static yL_isNodeDry, Cond.codeWith yL_isNodeDry cL_isNodeDry 4 (some .int) [(0, 16, 19, 19)], Cond.methodLink RL 37 yX5_isNodeDry, Cond.instanceMethod yX5_isNodeDry, Cond.selects RX5 yX5_isNodeDry yX5_isNodeDry, Cond.code yX5_isNodeDry cX5_isNodeDry 2 (some .boolean), Cond.methodLink RX5 121 yX5_isDry, Cond.instanceMethod yX5_isDry, Cond.selects RX5 yX5_isDry yX5_isDry, Cond.code yX5_isDry cX5_isDry 2 (some .boolean), Cond.methodLink RX5 128 yX2_wetBehind, Cond.instanceMethod yX2_wetBehind, Cond.selects RX2 yX2_wetBehind yX2_wetBehind, Cond.code yX2_wetBehind cX2_wetBehind 2 (some .int), Cond.methodLink RX2 72 yX2_reach, Cond.instanceMethod yX2_reach, Cond.selects RX2 yX2_reach yX2_reach, Cond.code yX2_reach cX2_reach 8 (some .int)]
def wsL_law0_r14 : List Cond := [Cond.methodLink RX5 187 yX5_hasBit, Cond.methodLink RL 122 yX6_isNodeDry, Cond.instanceMethod yX6_isNodeDry, Cond.selects RX6 yX6_isNodeDry yX6_isNodeDry, Cond.code yX6_isNodeDry cX6_isNodeDry 2 (some .boolean), Cond.methodLink RX6 90 yX6_wet, Cond.instanceMethod yX6_wet, Cond.selects RX6 yX6_wet yX6_wet, Cond.code yX6_wet cX6_wet 2 (some .int), Cond.methodLink RX6 86 yX6_spread, Cond.instanceMethod yX6_spread, Cond.selects RX6 yX6_spread yX6_spread, Cond.code yX6_spread cX6_spread 8 (some .int), Cond.methodLink RX6 80 yX6_partOf, Cond.static yX6_partOf, Cond.code yX6_partOf cX6_partOf 1 (some .int), Cond.methodLink RX6 83 yX6_isOpen, Cond.instanceMethod yX6_isOpen, Cond.selects RX6 yX6_isOpen yX6_isOpen, Cond.code yX6_isOpen cX6_isOpen 6 (some .boolean), Cond.methodLink RL 123 yL_isPipeDry, Cond.static yL_isPipeDry, Cond.codeWith yL_isPipeDry cL_isPipeDry 4 (some .int) [(0, 16, 19, 19)], Cond.methodLink RL 41 yX5_isPipeDry]
def wsL_law0_r15 : List Cond := [Cond.instanceMethod yX5_isPipeDry, Cond.selects RX5 yX5_isPipeDry yX5_isPipeDry, Cond.code yX5_isPipeDry cX5_isPipeDry 2 (some .boolean), Cond.methodLink RX5 124 yX5_partOfPipe, Cond.methodLink RL 125 yX6_isPipeDry, Cond.instanceMethod yX6_isPipeDry, Cond.selects RX6 yX6_isPipeDry yX6_isPipeDry, Cond.code yX6_isPipeDry cX6_isPipeDry 2 (some .boolean), Cond.methodLink RL 126 yX5_supplied, Cond.instanceMethod yX5_supplied, Cond.selects RX5 yX5_supplied yX5_supplied, Cond.code yX5_supplied cX5_supplied 1 (some .int), Cond.methodLink RX5 131 yX2_customersOf, Cond.instanceMethod yX2_customersOf, Cond.selects RX2 yX2_customersOf yX2_customersOf, Cond.code yX2_customersOf cX2_customersOf 4 (some .int), Cond.methodLink RL 129 yX6_supplied, Cond.instanceMethod yX6_supplied, Cond.selects RX6 yX6_supplied yX6_supplied, Cond.code yX6_supplied cX6_supplied 1 (some .int), Cond.methodLink RX6 93 yX6_supply, Cond.instanceMethod yX6_supply, Cond.selects RX6 yX6_supply yX6_supply, Cond.code yX6_supply cX6_supply 4 (some .int)]
def wsL_law0_r16 : List Cond := [Cond.methodLink RL 130 yX5_segments, Cond.instanceMethod yX5_segments, Cond.selects RX5 yX5_segments yX5_segments, Cond.code yX5_segments cX5_segments 1 (some .int), Cond.methodLink RX5 134 yX3_count, Cond.instanceMethod yX3_count, Cond.selects RX3 yX3_count yX3_count, Cond.code yX3_count cX3_count 1 (some .int), Cond.methodLink RX3 19 yX3_countBegunBelow, Cond.instanceMethod yX3_countBegunBelow, Cond.selects RX3 yX3_countBegunBelow yX3_countBegunBelow, Cond.code yX3_countBegunBelow cX3_countBegunBelow 5 (some .int), Cond.methodLink RX3 37 yX2_hasPart, Cond.instanceMethod yX2_hasPart, Cond.selects RX2 yX2_hasPart yX2_hasPart, Cond.code yX2_hasPart cX2_hasPart 2 (some .boolean), Cond.methodLink RX3 23 yX3_segmentWith, Cond.instanceMethod yX3_segmentWith, Cond.selects RX3 yX3_segmentWith yX3_segmentWith, Cond.code yX3_segmentWith cX3_segmentWith 2 (some .int), Cond.methodLink RX3 31 yX2_reach, Cond.methodLink RL 133 yX6_segments, Cond.instanceMethod yX6_segments, Cond.selects RX6 yX6_segments yX6_segments]
def wsL_law0_r17 : List Cond := [Cond.code yX6_segments cX6_segments 1 (some .int), Cond.methodLink RX6 96 yX6_segmentOf, Cond.instanceMethod yX6_segmentOf, Cond.selects RX6 yX6_segmentOf yX6_segmentOf, Cond.code yX6_segmentOf cX6_segmentOf 7 (some .int), Cond.methodLink RL 134 yL_segmentOfNode, Cond.static yL_segmentOfNode, Cond.codeWith yL_segmentOfNode cL_segmentOfNode 4 (some .int) [(0, 9, 12, 19)], Cond.methodLink RL 44 yX5_segmentOfNode, Cond.instanceMethod yX5_segmentOfNode, Cond.selects RX5 yX5_segmentOfNode yX5_segmentOfNode, Cond.code yX5_segmentOfNode cX5_segmentOfNode 2 (some .int), Cond.methodLink RX5 137 yX3_numberByWalking, Cond.instanceMethod yX3_numberByWalking, Cond.selects RX3 yX3_numberByWalking yX3_numberByWalking, Cond.code yX3_numberByWalking cX3_numberByWalking 3 (some .int), Cond.methodLink RX3 26 yJ6_numberOfTrailingZeros_0f7a4, Cond.static yJ6_numberOfTrailingZeros_0f7a4, Cond.initialized RJ6, Cond.code yJ6_numberOfTrailingZeros_0f7a4 cJ6_numberOfTrailingZeros_0f7a4 2 (some .int), Cond.constant RJ6 264 (65536), Cond.methodLink RL 136 yX6_segmentOfNode, Cond.instanceMethod yX6_segmentOfNode, Cond.selects RX6 yX6_segmentOfNode yX6_segmentOfNode]
def wsL_law0_r18 : List Cond := [Cond.code yX6_segmentOfNode cX6_segmentOfNode 2 (some .int), Cond.methodLink RL 137 yL_segmentOfPipe, Cond.static yL_segmentOfPipe, Cond.codeWith yL_segmentOfPipe cL_segmentOfPipe 4 (some .int) [(0, 9, 12, 19)], Cond.methodLink RL 48 yX5_segmentOfPipe, Cond.instanceMethod yX5_segmentOfPipe, Cond.selects RX5 yX5_segmentOfPipe yX5_segmentOfPipe, Cond.code yX5_segmentOfPipe cX5_segmentOfPipe 2 (some .int), Cond.methodLink RL 139 yX6_segmentOfPipe, Cond.instanceMethod yX6_segmentOfPipe, Cond.selects RX6 yX6_segmentOfPipe yX6_segmentOfPipe, Cond.code yX6_segmentOfPipe cX6_segmentOfPipe 2 (some .int), Cond.methodLink RL 140 yL_segmentByMerging, Cond.static yL_segmentByMerging, Cond.codeWith yL_segmentByMerging cL_segmentByMerging 4 (some .int) [(0, 9, 12, 19)], Cond.methodLink RL 51 yX5_segmentByMerging, Cond.instanceMethod yX5_segmentByMerging, Cond.selects RX5 yX5_segmentByMerging yX5_segmentByMerging, Cond.code yX5_segmentByMerging cX5_segmentByMerging 2 (some .int), Cond.methodLink RX5 140 yX3_numberByMerging, Cond.instanceMethod yX3_numberByMerging, Cond.selects RX3 yX3_numberByMerging yX3_numberByMerging, Cond.code yX3_numberByMerging cX3_numberByMerging 5 (some .int), Cond.methodLink RX3 45 yX3_mergePipes]
def wsL_law0_r19 : List Cond := [Cond.instanceMethod yX3_mergePipes, Cond.selects RX3 yX3_mergePipes yX3_mergePipes, Cond.code yX3_mergePipes cX3_mergePipes 3 none, Cond.methodLink RX3 51 yX2_pipeCount, Cond.methodLink RX3 55 yX2_valveBitAt, Cond.methodLink RX3 61 yX2_nodeAt, Cond.instanceMethod yX2_nodeAt, Cond.selects RX2 yX2_nodeAt yX2_nodeAt, Cond.code yX2_nodeAt cX2_nodeAt 3 (some .int), Cond.methodLink RX3 64 yX3_merge, Cond.instanceMethod yX3_merge, Cond.selects RX3 yX3_merge yX3_merge, Cond.code yX3_merge cX3_merge 5 none, Cond.methodLink RX3 68 Lib.Math.max.name, Cond.static Lib.Math.max.name, Cond.initialized "java/lang/Math", Cond.code Lib.Math.max.name Lib.Math.max.code 2 (some .int), Cond.methodLink RX3 73 Lib.Math.min.name, Cond.static Lib.Math.min.name, Cond.code Lib.Math.min.name Lib.Math.min.code 2 (some .int), Cond.methodLink RX3 48 yX3_firstOfSet, Cond.instanceMethod yX3_firstOfSet, Cond.selects RX3 yX3_firstOfSet yX3_firstOfSet, Cond.code yX3_firstOfSet cX3_firstOfSet 4 (some .int)]
def wsL_law0_r20 : List Cond := [Cond.methodLink RL 142 yX6_segmentByMerging, Cond.instanceMethod yX6_segmentByMerging, Cond.selects RX6 yX6_segmentByMerging yX6_segmentByMerging, Cond.code yX6_segmentByMerging cX6_segmentByMerging 2 (some .int), Cond.methodLink RX6 99 yX6_segmentOfPipe, Cond.methodLink RL 143 yL_ring, Cond.static yL_ring, Cond.codeWith yL_ring cL_ring 4 (some .int) [(0, 9, 12, 19), (0, 9, 15, 13)], Cond.methodLink RL 54 yX5_ring, Cond.instanceMethod yX5_ring, Cond.selects RX5 yX5_ring yX5_ring, Cond.code yX5_ring cX5_ring 2 (some .int), Cond.methodLink RX5 143 yX5_regionWithoutSource, Cond.instanceMethod yX5_regionWithoutSource, Cond.selects RX5 yX5_regionWithoutSource yX5_regionWithoutSource, Cond.code yX5_regionWithoutSource cX5_regionWithoutSource 3 (some .int), Cond.methodLink RX5 191 yX0_regionOf, Cond.instanceMethod yX0_regionOf, Cond.selects RX0 yX0_regionOf yX0_regionOf, Cond.code yX0_regionOf cX0_regionOf 2 (some .int), Cond.methodLink RX0 35 yX0_regionWith, Cond.instanceMethod yX0_regionWith, Cond.selects RX0 yX0_regionWith yX0_regionWith, Cond.code yX0_regionWith cX0_regionWith 2 (some .int)]
def wsL_law0_r21 : List Cond := [Cond.methodLink RX0 38 yX2_bounding, Cond.instanceMethod yX2_bounding, Cond.selects RX2 yX2_bounding yX2_bounding, Cond.code yX2_bounding cX2_bounding 1 (some .int), Cond.methodLink RX0 44 yX2_reach, Cond.methodLink RX5 194 yX2_sources, Cond.instanceMethod yX2_sources, Cond.selects RX2 yX2_sources yX2_sources, Cond.code yX2_sources cX2_sources 1 (some .int), Cond.methodLink RX5 146 yX0_ringOf, Cond.instanceMethod yX0_ringOf, Cond.selects RX0 yX0_ringOf yX0_ringOf, Cond.code yX0_ringOf cX0_ringOf 6 (some .int), Cond.methodLink RX0 51 yX2_valveCount, Cond.methodLink RX0 54 yX2_pipeOfValve, Cond.instanceMethod yX2_pipeOfValve, Cond.selects RX2 yX2_pipeOfValve yX2_pipeOfValve, Cond.code yX2_pipeOfValve cX2_pipeOfValve 2 (some .int), Cond.methodLink RX0 61 yX2_nodeOfValve, Cond.instanceMethod yX2_nodeOfValve, Cond.selects RX2 yX2_nodeOfValve yX2_nodeOfValve, Cond.code yX2_nodeOfValve cX2_nodeOfValve 2 (some .int), Cond.methodLink RX0 64 yX2_closable, Cond.instanceMethod yX2_closable]
def wsL_law0_r22 : List Cond := [Cond.selects RX2 yX2_closable yX2_closable, Cond.code yX2_closable cX2_closable 1 (some .int), Cond.methodLink RL 145 yX6_ring, Cond.instanceMethod yX6_ring, Cond.selects RX6 yX6_ring yX6_ring, Cond.code yX6_ring cX6_ring 2 (some .int), Cond.methodLink RX6 102 yX6_noRing, Cond.instanceMethod yX6_noRing, Cond.selects RX6 yX6_noRing yX6_noRing, Cond.code yX6_noRing cX6_noRing 2 (some .boolean), Cond.methodLink RX6 105 yX6_ringOf, Cond.instanceMethod yX6_ringOf, Cond.selects RX6 yX6_ringOf yX6_ringOf, Cond.code yX6_ringOf cX6_ringOf 9 (some .int), Cond.methodLink RL 146 yL_cutOff, Cond.static yL_cutOff, Cond.codeWith yL_cutOff cL_cutOff 4 (some .int) [(0, 9, 12, 19), (0, 9, 15, 13)], Cond.methodLink RL 57 yX5_cutOff, Cond.instanceMethod yX5_cutOff, Cond.selects RX5 yX5_cutOff yX5_cutOff, Cond.code yX5_cutOff cX5_cutOff 2 (some .int), Cond.methodLink RX5 149 yX0_customersLost, Cond.instanceMethod yX0_customersLost, Cond.selects RX0 yX0_customersLost yX0_customersLost]
def wsL_law0_r23 : List Cond := [Cond.code yX0_customersLost cX0_customersLost 4 (some .int), Cond.methodLink RX0 67 yX2_wetBehind, Cond.methodLink RX0 70 yX0_ringOf, Cond.methodLink RX0 73 yX2_customersOf, Cond.methodLink RL 148 yX6_cutOff, Cond.instanceMethod yX6_cutOff, Cond.selects RX6 yX6_cutOff yX6_cutOff, Cond.code yX6_cutOff cX6_cutOff 2 (some .int), Cond.methodLink RL 149 yL_fewest, Cond.static yL_fewest, Cond.codeWith yL_fewest cL_fewest 4 (some .int) [(0, 9, 12, 19)], Cond.methodLink RL 60 yX5_fewest, Cond.instanceMethod yX5_fewest, Cond.selects RX5 yX5_fewest yX5_fewest, Cond.code yX5_fewest cX5_fewest 2 (some .int), Cond.methodLink RX5 152 yX0_countWays, Cond.instanceMethod yX0_countWays, Cond.selects RX0 yX0_countWays yX0_countWays, Cond.code yX0_countWays cX0_countWays 5 (some .int), Cond.methodLink RX0 76 yX0_regionOf, Cond.methodLink RX0 79 yX0_regionsWithSources, Cond.instanceMethod yX0_regionsWithSources, Cond.selects RX0 yX0_regionsWithSources yX0_regionsWithSources, Cond.code yX0_regionsWithSources cX0_regionsWithSources 1 (some .int)]
def wsL_law0_r24 : List Cond := [Cond.methodLink RX0 48 yX2_sources, Cond.methodLink RX0 82 yX0_findRegionsOfValves, Cond.instanceMethod yX0_findRegionsOfValves, Cond.selects RX0 yX0_findRegionsOfValves yX0_findRegionsOfValves, Cond.code yX0_findRegionsOfValves cX0_findRegionsOfValves 2 none, Cond.methodLink RX0 85 yX0_addWay, Cond.instanceMethod yX0_addWay, Cond.selects RX0 yX0_addWay yX0_addWay, Cond.code yX0_addWay cX0_addWay 9 (some .boolean), Cond.methodLink RX0 88 yX0_directionAcross, Cond.instanceMethod yX0_directionAcross, Cond.selects RX0 yX0_directionAcross yX0_directionAcross, Cond.code yX0_directionAcross cX0_directionAcross 6 (some .int), Cond.methodLink RX0 91 yX0_keepWayTo, Cond.instanceMethod yX0_keepWayTo, Cond.selects RX0 yX0_keepWayTo yX0_keepWayTo, Cond.code yX0_keepWayTo cX0_keepWayTo 8 none, Cond.methodLink RL 151 yX6_fewest, Cond.instanceMethod yX6_fewest, Cond.selects RX6 yX6_fewest yX6_fewest, Cond.code yX6_fewest cX6_fewest 3 (some .int), Cond.methodLink RX6 111 yX6_least, Cond.instanceMethod yX6_least, Cond.selects RX6 yX6_least yX6_least]
def wsL_law0_r25 : List Cond := [Cond.code yX6_least cX6_least 5 (some .int), Cond.methodLink RX6 108 yX6_bits, Cond.static yX6_bits, Cond.code yX6_bits cX6_bits 3 (some .int), Cond.methodLink RL 152 yL_fewestByTrying, Cond.static yL_fewestByTrying, Cond.codeWith yL_fewestByTrying cL_fewestByTrying 4 (some .int) [(0, 9, 12, 19)], Cond.methodLink RL 63 yX5_fewestByTrying, Cond.instanceMethod yX5_fewestByTrying, Cond.selects RX5 yX5_fewestByTrying yX5_fewestByTrying, Cond.code yX5_fewestByTrying cX5_fewestByTrying 2 (some .int), Cond.methodLink RX5 155 yX0_trySets, Cond.instanceMethod yX0_trySets, Cond.selects RX0 yX0_trySets yX0_trySets, Cond.code yX0_trySets cX0_trySets 9 (some .int), Cond.methodLink RX0 95 yX0_wetOver, Cond.instanceMethod yX0_wetOver, Cond.selects RX0 yX0_wetOver yX0_wetOver, Cond.code yX0_wetOver cX0_wetOver 8 (some .int), Cond.methodLink RX0 98 yX0_setBehind, Cond.static yX0_setBehind, Cond.code yX0_setBehind cX0_setBehind 5 (some .int), Cond.methodLink RX0 101 yJ6_bitCount_0f7a4, Cond.static yJ6_bitCount_0f7a4]
def wsL_law0_r26 : List Cond := [Cond.code yJ6_bitCount_0f7a4 cJ6_bitCount_0f7a4 1 (some .int), Cond.constant RJ6 265 (1431655765), Cond.constant RJ6 266 (858993459), Cond.constant RJ6 267 (252645135), Cond.methodLink RL 154 yX6_fewestByTrying, Cond.instanceMethod yX6_fewestByTrying, Cond.selects RX6 yX6_fewestByTrying yX6_fewestByTrying, Cond.code yX6_fewestByTrying cX6_fewestByTrying 2 (some .int), Cond.methodLink RL 155 yL_distance, Cond.static yL_distance, Cond.codeWith yL_distance cL_distance 4 (some .int) [(0, 9, 12, 19)], Cond.methodLink RL 66 yX5_distance, Cond.instanceMethod yX5_distance, Cond.selects RX5 yX5_distance yX5_distance, Cond.code yX5_distance cX5_distance 2 (some .int), Cond.methodLink RX5 158 yX1_distanceOf, Cond.instanceMethod yX1_distanceOf, Cond.selects RX1 yX1_distanceOf yX1_distanceOf, Cond.code yX1_distanceOf cX1_distanceOf 2 (some .int), Cond.constant RX1 22 (1000000), Cond.methodLink RX1 19 yX1_measure, Cond.instanceMethod yX1_measure, Cond.selects RX1 yX1_measure yX1_measure, Cond.code yX1_measure cX1_measure 3 none]
def wsL_law0_r27 : List Cond := [Cond.methodLink RX1 23 yX2_sources, Cond.methodLink RX1 33 yX2_nodeCount, Cond.methodLink RX1 36 yX2_pipeCount, Cond.methodLink RX1 39 yX2_isShutAt, Cond.instanceMethod yX2_isShutAt, Cond.selects RX2 yX2_isShutAt yX2_isShutAt, Cond.code yX2_isShutAt cX2_isShutAt 3 (some .boolean), Cond.methodLink RX2 69 yX2_valveBitAt, Cond.methodLink RX1 42 yX1_shorten, Cond.instanceMethod yX1_shorten, Cond.selects RX1 yX1_shorten yX1_shorten, Cond.code yX1_shorten cX1_shorten 5 none, Cond.methodLink RX1 54 Lib.Math.min.name, Cond.methodLink RX1 46 yX2_nodeAt, Cond.methodLink RX1 50 yX2_lengthOf, Cond.instanceMethod yX2_lengthOf, Cond.selects RX2 yX2_lengthOf yX2_lengthOf, Cond.code yX2_lengthOf cX2_lengthOf 2 (some .int), Cond.methodLink RL 157 yX6_distance, Cond.instanceMethod yX6_distance, Cond.selects RX6 yX6_distance yX6_distance, Cond.code yX6_distance cX6_distance 2 (some .int), Cond.constant RX6 114 (1000000), Cond.methodLink RX6 115 yX6_measure]
def wsL_law0_r28 : List Cond := [Cond.instanceMethod yX6_measure, Cond.selects RX6 yX6_measure yX6_measure, Cond.code yX6_measure cX6_measure 5 none, Cond.methodLink RL 158 yL_flushAt, Cond.static yL_flushAt, Cond.codeWith yL_flushAt cL_flushAt 4 (some .int) [(0, 9, 12, 19)], Cond.methodLink RL 69 yX5_flushAt, Cond.instanceMethod yX5_flushAt, Cond.selects RX5 yX5_flushAt yX5_flushAt, Cond.code yX5_flushAt cX5_flushAt 3 (some .int), Cond.methodLink RX5 161 yX1_pipeAndEndAt, Cond.instanceMethod yX1_pipeAndEndAt, Cond.selects RX1 yX1_pipeAndEndAt yX1_pipeAndEndAt, Cond.code yX1_pipeAndEndAt cX1_pipeAndEndAt 3 (some .int), Cond.methodLink RX1 59 yX1_isFlushed, Cond.instanceMethod yX1_isFlushed, Cond.selects RX1 yX1_isFlushed yX1_isFlushed, Cond.code yX1_isFlushed cX1_isFlushed 2 (some .boolean), Cond.methodLink RX1 66 yX1_endOf, Cond.instanceMethod yX1_endOf, Cond.selects RX1 yX1_endOf yX1_endOf, Cond.code yX1_endOf cX1_endOf 2 (some .int), Cond.methodLink RX1 72 yX1_distanceAt, Cond.instanceMethod yX1_distanceAt]
def wsL_law0_r29 : List Cond := [Cond.selects RX1 yX1_distanceAt yX1_distanceAt, Cond.code yX1_distanceAt cX1_distanceAt 3 (some .int), Cond.methodLink RX1 63 yX1_placeOf, Cond.instanceMethod yX1_placeOf, Cond.selects RX1 yX1_placeOf yX1_placeOf, Cond.code yX1_placeOf cX1_placeOf 4 (some .int), Cond.methodLink RX1 69 yX1_isAhead, Cond.instanceMethod yX1_isAhead, Cond.selects RX1 yX1_isAhead yX1_isAhead, Cond.code yX1_isAhead cX1_isAhead 4 (some .boolean), Cond.methodLink RL 160 yX6_flushAt, Cond.instanceMethod yX6_flushAt, Cond.selects RX6 yX6_flushAt yX6_flushAt, Cond.code yX6_flushAt cX6_flushAt 2 (some .int), Cond.fieldLink RX6 118 "ValveWalkModel" "ordered" "I", Cond.methodLink RX6 124 yX6_sort, Cond.instanceMethod yX6_sort, Cond.selects RX6 yX6_sort yX6_sort, Cond.code yX6_sort cX6_sort 5 none, Cond.methodLink RX6 121 yX6_reach, Cond.instanceMethod yX6_reach, Cond.selects RX6 yX6_reach yX6_reach, Cond.code yX6_reach cX6_reach 2 (some .int), Cond.methodLink RL 161 yL_walk]
def wsL_law0_r30 : List Cond := [Cond.static yL_walk, Cond.codeWith yL_walk cL_walk 5 (some .int) [(0, 10, 13, 19), (0, 10, 17, 21)], Cond.methodLink RL 72 yX5_walk, Cond.instanceMethod yX5_walk, Cond.selects RX5 yX5_walk yX5_walk, Cond.code yX5_walk cX5_walk 3 (some .int), Cond.methodLink RX5 171 yJ6_bitCount_0f7a4, Cond.methodLink RX5 178 yX4_leastLength, Cond.instanceMethod yX4_leastLength, Cond.selects RX4 yX4_leastLength yX4_leastLength, Cond.code yX4_leastLength cX4_leastLength 7 (some .int), Cond.constant RX4 40 (1000000), Cond.methodLink RX4 41 Lib.Math.min.name, Cond.methodLink RX4 25 yX4_listStops, Cond.instanceMethod yX4_listStops, Cond.selects RX4 yX4_listStops yX4_listStops, Cond.code yX4_listStops cX4_listStops 4 (some .int), Cond.methodLink RX4 47 yX2_valveCount, Cond.methodLink RX4 53 yX2_nodeOfValve, Cond.methodLink RX4 29 yX4_measure, Cond.instanceMethod yX4_measure, Cond.selects RX4 yX4_measure yX4_measure, Cond.code yX4_measure cX4_measure 4 none, Cond.methodLink RX4 59 yX2_pipeCount]
def wsL_law0_r31 : List Cond := [Cond.methodLink RX4 62 yX2_nodeAt, Cond.methodLink RX4 65 yX2_lengthOf, Cond.methodLink RX4 68 yX4_shorten, Cond.instanceMethod yX4_shorten, Cond.selects RX4 yX4_shorten yX4_shorten, Cond.code yX4_shorten cX4_shorten 5 none, Cond.methodLink RX4 72 yX2_nodeCount, Cond.methodLink RX4 75 yX4_shortenBy, Cond.instanceMethod yX4_shortenBy, Cond.selects RX4 yX4_shortenBy yX4_shortenBy, Cond.code yX4_shortenBy cX4_shortenBy 5 none, Cond.methodLink RX4 56 yX4_lengthBetween, Cond.instanceMethod yX4_lengthBetween, Cond.selects RX4 yX4_lengthBetween yX4_lengthBetween, Cond.code yX4_lengthBetween cX4_lengthBetween 3 (some .int), Cond.methodLink RX4 36 yX4_leastEnding, Cond.instanceMethod yX4_leastEnding, Cond.selects RX4 yX4_leastEnding yX4_leastEnding, Cond.code yX4_leastEnding cX4_leastEnding 9 (some .int), Cond.methodLink RL 163 yX6_walk, Cond.instanceMethod yX6_walk, Cond.selects RX6 yX6_walk yX6_walk, Cond.code yX6_walk cX6_walk 9 (some .int), Cond.methodLink RX6 127 yX6_connect]
def wsL_law0_r32 : List Cond := [Cond.instanceMethod yX6_connect, Cond.selects RX6 yX6_connect yX6_connect, Cond.code yX6_connect cX6_connect 4 none, Cond.methodLink RX6 130 yX6_walked, Cond.instanceMethod yX6_walked, Cond.selects RX6 yX6_walked yX6_walked, Cond.code yX6_walked cX6_walked 10 (some .int)]
def wsL_law0 : List Cond := (wsL_law0_r1 ++ (wsL_law0_r2 ++ (wsL_law0_r3 ++ (wsL_law0_r4 ++ (wsL_law0_r5 ++ (wsL_law0_r6 ++ (wsL_law0_r7 ++ (wsL_law0_r8 ++ (wsL_law0_r9 ++ (wsL_law0_r10 ++ (wsL_law0_r11 ++ (wsL_law0_r12 ++ (wsL_law0_r13 ++ (wsL_law0_r14 ++ (wsL_law0_r15 ++ (wsL_law0_r16 ++ (wsL_law0_r17 ++ (wsL_law0_r18 ++ (wsL_law0_r19 ++ (wsL_law0_r20 ++ (wsL_law0_r21 ++ (wsL_law0_r22 ++ (wsL_law0_r23 ++ (wsL_law0_r24 ++ (wsL_law0_r25 ++ (wsL_law0_r26 ++ (wsL_law0_r27 ++ (wsL_law0_r28 ++ (wsL_law0_r29 ++ (wsL_law0_r30 ++ (wsL_law0_r31 ++ wsL_law0_r32))))))))))))))))))))))))))))))) ++ wsX50 ++ wsX60 ++ wsX20 ++ wsX30 ++ wsX00 ++ wsX10 ++ wsX40 ++ ([] : List Cond)
abbrev vwCl : List vw_C := [(RX0, TX0, 6), (RX1, TX1, 2), (RX2, TX2, 12), (RX3, TX3, 2), (RX4, TX4, 4), (RX5, TX5, 5), (RX6, TX6, 17)]
end
section
theorem dX0_init_0 : decode cX0_init 0 = .ok (.aload_n 0, 1) := by decide +kernel
theorem dX0_init_1 : decode cX0_init 1 = .ok (.invokespecial 3, 3) := by decide +kernel
theorem dX0_init_4 : decode cX0_init 4 = .ok (.aload_n 0, 1) := by decide +kernel
theorem dX0_init_5 : decode cX0_init 5 = .ok (.bipush 12, 2) := by decide +kernel
theorem dX0_init_7 : decode cX0_init 7 = .ok (.newarray .int, 2) := by decide +kernel
theorem dX0_init_9 : decode cX0_init 9 = .ok (.putfield 9, 3) := by decide +kernel
theorem dX0_init_12 : decode cX0_init 12 = .ok (.aload_n 0, 1) := by decide +kernel
theorem dX0_init_13 : decode cX0_init 13 = .ok (.bipush 12, 2) := by decide +kernel
theorem dX0_init_15 : decode cX0_init 15 = .ok (.newarray .int, 2) := by decide +kernel
theorem dX0_init_17 : decode cX0_init 17 = .ok (.putfield 15, 3) := by decide +kernel
theorem dX0_init_20 : decode cX0_init 20 = .ok (.aload_n 0, 1) := by decide +kernel
theorem dX0_init_21 : decode cX0_init 21 = .ok (.bipush 12, 2) := by decide +kernel
theorem dX0_init_23 : decode cX0_init 23 = .ok (.newarray .int, 2) := by decide +kernel
theorem dX0_init_25 : decode cX0_init 25 = .ok (.putfield 18, 3) := by decide +kernel
theorem dX0_init_28 : decode cX0_init 28 = .ok (.aload_n 0, 1) := by decide +kernel
theorem dX0_init_29 : decode cX0_init 29 = .ok (.bipush 12, 2) := by decide +kernel
theorem dX0_init_31 : decode cX0_init 31 = .ok (.newarray .int, 2) := by decide +kernel
theorem dX0_init_33 : decode cX0_init 33 = .ok (.putfield 21, 3) := by decide +kernel
theorem dX0_init_36 : decode cX0_init 36 = .ok (.aload_n 0, 1) := by decide +kernel
theorem dX0_init_37 : decode cX0_init 37 = .ok (.bipush 12, 2) := by decide +kernel
theorem dX0_init_39 : decode cX0_init 39 = .ok (.newarray .int, 2) := by decide +kernel
theorem dX0_init_41 : decode cX0_init 41 = .ok (.putfield 24, 3) := by decide +kernel
theorem dX0_init_44 : decode cX0_init 44 = .ok (.aload_n 0, 1) := by decide +kernel
theorem dX0_init_45 : decode cX0_init 45 = .ok (.aload_n 1, 1) := by decide +kernel
theorem dX0_init_46 : decode cX0_init 46 = .ok (.putfield 27, 3) := by decide +kernel
theorem dX0_init_49 : decode cX0_init 49 = .ok (.return_, 1) := by decide +kernel
set_option maxRecDepth 20000 in
theorem ggX0_regionOf_X5_partOfPipe : GoodIn wsX0_regionOf wsX5_partOfPipe := goodIn_r _ [3] (by decide +kernel) (by decide +kernel)
set_option maxRecDepth 20000 in
theorem gX0_regionOf_X5_partOfPipe_n31 : GoodIn wsX0_regionOf (wsX5_partOfPipe) := ggX0_regionOf_X5_partOfPipe
set_option maxRecDepth 20000 in
theorem ggX0_regionOf_X0_regionWith : GoodIn wsX0_regionOf wsX0_regionWith := goodIn_r _ [8, 9, 10, 11, 12, 13, 14, 15, 16, 17, 18, 19, 20, 21, 22, 23, 24, 25, 26, 27, 28, 29, 30, 31, 32, 33, 34, 35, 36, 37, 38, 39, 40, 41] (by decide +kernel) (by decide +kernel)
set_option maxRecDepth 20000 in
theorem gX0_regionOf_X0_regionWith : GoodIn wsX0_regionOf (wsV RX0 35 RX0 yX0_regionWith wsX0_regionWith) := goodIn_app (goodIn_of _ (by decide +kernel)) ggX0_regionOf_X0_regionWith
theorem dX0_regionOf_0 : decode cX0_regionOf 0 = .ok (.aload_n 0, 1) := by decide +kernel
theorem dX0_regionOf_1 : decode cX0_regionOf 1 = .ok (.iload_n 1, 1) := by decide +kernel
theorem dX0_regionOf_2 : decode cX0_regionOf 2 = .ok (.invokestatic 31, 3) := by decide +kernel
theorem dX0_regionOf_5 : decode cX0_regionOf 5 = .ok (.invokevirtual 35, 3) := by decide +kernel
theorem dX0_regionOf_8 : decode cX0_regionOf 8 = .ok (.ireturn, 1) := by decide +kernel
set_option maxRecDepth 20000 in
theorem ggX0_regionWith_X2_bounding : GoodIn wsX0_regionWith wsX2_bounding := goodIn_r _ [6, 7, 8, 22, 23, 24, 25, 26, 27, 28, 29, 30, 31, 32, 33] (by decide +kernel) (by decide +kernel)
set_option maxRecDepth 20000 in
theorem gX0_regionWith_X2_bounding : GoodIn wsX0_regionWith (wsV RX0 38 RX2 yX2_bounding wsX2_bounding) := goodIn_app (goodIn_of _ (by decide +kernel)) ggX0_regionWith_X2_bounding
set_option maxRecDepth 20000 in
theorem ggX0_regionWith_X2_reach : GoodIn wsX0_regionWith wsX2_reach := goodIn_r _ [12, 13, 14, 15, 22, 23, 24, 25, 26, 27, 28, 29, 30, 31, 32, 33] (by decide +kernel) (by decide +kernel)
set_option maxRecDepth 20000 in
theorem gX0_regionWith_X2_reach : GoodIn wsX0_regionWith (wsV RX0 44 RX2 yX2_reach wsX2_reach) := goodIn_app (goodIn_of _ (by decide +kernel)) ggX0_regionWith_X2_reach
theorem dX0_regionWith_0 : decode cX0_regionWith 0 = .ok (.aload_n 0, 1) := by decide +kernel
theorem dX0_regionWith_1 : decode cX0_regionWith 1 = .ok (.getfield 27, 3) := by decide +kernel
theorem dX0_regionWith_4 : decode cX0_regionWith 4 = .ok (.iconst 1, 1) := by decide +kernel
theorem dX0_regionWith_5 : decode cX0_regionWith 5 = .ok (.iload_n 1, 1) := by decide +kernel
theorem dX0_regionWith_6 : decode cX0_regionWith 6 = .ok (.ishl, 1) := by decide +kernel
theorem dX0_regionWith_7 : decode cX0_regionWith 7 = .ok (.aload_n 0, 1) := by decide +kernel
theorem dX0_regionWith_8 : decode cX0_regionWith 8 = .ok (.getfield 27, 3) := by decide +kernel
theorem dX0_regionWith_11 : decode cX0_regionWith 11 = .ok (.invokevirtual 38, 3) := by decide +kernel
theorem dX0_regionWith_14 : decode cX0_regionWith 14 = .ok (.invokevirtual 44, 3) := by decide +kernel
theorem dX0_regionWith_17 : decode cX0_regionWith 17 = .ok (.ireturn, 1) := by decide +kernel
set_option maxRecDepth 20000 in
theorem ggX0_regionsWithSources_X2_sources : GoodIn wsX0_regionsWithSources wsX2_sources := goodIn_r _ [6, 7, 27, 28, 29, 30, 31, 32, 33, 34, 35, 36, 37, 38] (by decide +kernel) (by decide +kernel)
set_option maxRecDepth 20000 in
theorem gX0_regionsWithSources_X2_sources : GoodIn wsX0_regionsWithSources (wsV RX0 48 RX2 yX2_sources wsX2_sources) := goodIn_app (goodIn_of _ (by decide +kernel)) ggX0_regionsWithSources_X2_sources
set_option maxRecDepth 20000 in
theorem ggX0_regionsWithSources_X2_bounding : GoodIn wsX0_regionsWithSources wsX2_bounding := goodIn_r _ [11, 12, 13, 27, 28, 29, 30, 31, 32, 33, 34, 35, 36, 37, 38] (by decide +kernel) (by decide +kernel)
set_option maxRecDepth 20000 in
theorem gX0_regionsWithSources_X2_bounding : GoodIn wsX0_regionsWithSources (wsV RX0 38 RX2 yX2_bounding wsX2_bounding) := goodIn_app (goodIn_of _ (by decide +kernel)) ggX0_regionsWithSources_X2_bounding
set_option maxRecDepth 20000 in
theorem ggX0_regionsWithSources_X2_reach : GoodIn wsX0_regionsWithSources wsX2_reach := goodIn_r _ [17, 18, 19, 20, 27, 28, 29, 30, 31, 32, 33, 34, 35, 36, 37, 38] (by decide +kernel) (by decide +kernel)
set_option maxRecDepth 20000 in
theorem gX0_regionsWithSources_X2_reach : GoodIn wsX0_regionsWithSources (wsV RX0 44 RX2 yX2_reach wsX2_reach) := goodIn_app (goodIn_of _ (by decide +kernel)) ggX0_regionsWithSources_X2_reach
theorem dX0_regionsWithSources_0 : decode cX0_regionsWithSources 0 = .ok (.aload_n 0, 1) := by decide +kernel
theorem dX0_regionsWithSources_1 : decode cX0_regionsWithSources 1 = .ok (.getfield 27, 3) := by decide +kernel
theorem dX0_regionsWithSources_4 : decode cX0_regionsWithSources 4 = .ok (.aload_n 0, 1) := by decide +kernel
theorem dX0_regionsWithSources_5 : decode cX0_regionsWithSources 5 = .ok (.getfield 27, 3) := by decide +kernel
theorem dX0_regionsWithSources_8 : decode cX0_regionsWithSources 8 = .ok (.invokevirtual 48, 3) := by decide +kernel
theorem dX0_regionsWithSources_11 : decode cX0_regionsWithSources 11 = .ok (.aload_n 0, 1) := by decide +kernel
theorem dX0_regionsWithSources_12 : decode cX0_regionsWithSources 12 = .ok (.getfield 27, 3) := by decide +kernel
theorem dX0_regionsWithSources_15 : decode cX0_regionsWithSources 15 = .ok (.invokevirtual 38, 3) := by decide +kernel
theorem dX0_regionsWithSources_18 : decode cX0_regionsWithSources 18 = .ok (.invokevirtual 44, 3) := by decide +kernel
theorem dX0_regionsWithSources_21 : decode cX0_regionsWithSources 21 = .ok (.ireturn, 1) := by decide +kernel
set_option maxRecDepth 20000 in
theorem ggX0_ringOf_X2_valveCount : GoodIn wsX0_ringOf wsX2_valveCount := goodIn_r _ [6, 7, 35, 36, 37, 38, 39, 40, 41, 42, 43, 44, 45, 46] (by decide +kernel) (by decide +kernel)
set_option maxRecDepth 20000 in
theorem gX0_ringOf_X2_valveCount : GoodIn wsX0_ringOf (wsV RX0 51 RX2 yX2_valveCount wsX2_valveCount) := goodIn_app (goodIn_of _ (by decide +kernel)) ggX0_ringOf_X2_valveCount
set_option maxRecDepth 20000 in
theorem ggX0_ringOf_X2_pipeOfValve : GoodIn wsX0_ringOf wsX2_pipeOfValve := goodIn_r _ [11, 12, 35, 36, 37, 38, 39, 40, 41, 42, 43, 44, 45, 46] (by decide +kernel) (by decide +kernel)
set_option maxRecDepth 20000 in
theorem gX0_ringOf_X2_pipeOfValve : GoodIn wsX0_ringOf (wsV RX0 54 RX2 yX2_pipeOfValve wsX2_pipeOfValve) := goodIn_app (goodIn_of _ (by decide +kernel)) ggX0_ringOf_X2_pipeOfValve
set_option maxRecDepth 20000 in
theorem ggX0_ringOf_X5_partOfPipe : GoodIn wsX0_ringOf wsX5_partOfPipe := goodIn_r _ [15] (by decide +kernel) (by decide +kernel)
set_option maxRecDepth 20000 in
theorem gX0_ringOf_X5_partOfPipe_n31 : GoodIn wsX0_ringOf (wsX5_partOfPipe) := ggX0_ringOf_X5_partOfPipe
set_option maxRecDepth 20000 in
theorem ggX0_ringOf_X5_hasBit : GoodIn wsX0_ringOf wsX5_hasBit := goodIn_r _ [17] (by decide +kernel) (by decide +kernel)
set_option maxRecDepth 20000 in
theorem gX0_ringOf_X5_hasBit_n57 : GoodIn wsX0_ringOf (wsX5_hasBit) := ggX0_ringOf_X5_hasBit
set_option maxRecDepth 20000 in
theorem ggX0_ringOf_X2_nodeOfValve : GoodIn wsX0_ringOf wsX2_nodeOfValve := goodIn_r _ [21, 22, 12, 35, 36, 37, 38, 39, 40, 41, 42, 43, 44, 45, 46] (by decide +kernel) (by decide +kernel)
set_option maxRecDepth 20000 in
theorem gX0_ringOf_X2_nodeOfValve : GoodIn wsX0_ringOf (wsV RX0 61 RX2 yX2_nodeOfValve wsX2_nodeOfValve) := goodIn_app (goodIn_of _ (by decide +kernel)) ggX0_ringOf_X2_nodeOfValve
set_option maxRecDepth 20000 in
theorem ggX0_ringOf_X2_closable : GoodIn wsX0_ringOf wsX2_closable := goodIn_r _ [26, 7, 27, 28, 35, 36, 37, 38, 39, 40, 41, 42, 43, 44, 45, 46] (by decide +kernel) (by decide +kernel)
set_option maxRecDepth 20000 in
theorem gX0_ringOf_X2_closable : GoodIn wsX0_ringOf (wsV RX0 64 RX2 yX2_closable wsX2_closable) := goodIn_app (goodIn_of _ (by decide +kernel)) ggX0_ringOf_X2_closable
theorem dX0_ringOf_0 : decode cX0_ringOf 0 = .ok (.iconst 0, 1) := by decide +kernel
theorem dX0_ringOf_1 : decode cX0_ringOf 1 = .ok (.istore_n 2, 1) := by decide +kernel
theorem dX0_ringOf_2 : decode cX0_ringOf 2 = .ok (.iconst 0, 1) := by decide +kernel
theorem dX0_ringOf_3 : decode cX0_ringOf 3 = .ok (.istore_n 3, 1) := by decide +kernel
theorem dX0_ringOf_4 : decode cX0_ringOf 4 = .ok (.iload_n 3, 1) := by decide +kernel
theorem dX0_ringOf_5 : decode cX0_ringOf 5 = .ok (.aload_n 0, 1) := by decide +kernel
theorem dX0_ringOf_6 : decode cX0_ringOf 6 = .ok (.getfield 27, 3) := by decide +kernel
theorem dX0_ringOf_9 : decode cX0_ringOf 9 = .ok (.invokevirtual 51, 3) := by decide +kernel
theorem dX0_ringOf_12 : decode cX0_ringOf 12 = .ok (.if_icmp .ge 53, 3) := by decide +kernel
theorem dX0_ringOf_15 : decode cX0_ringOf 15 = .ok (.iload_n 1, 1) := by decide +kernel
theorem dX0_ringOf_16 : decode cX0_ringOf 16 = .ok (.aload_n 0, 1) := by decide +kernel
theorem dX0_ringOf_17 : decode cX0_ringOf 17 = .ok (.getfield 27, 3) := by decide +kernel
theorem dX0_ringOf_20 : decode cX0_ringOf 20 = .ok (.iload_n 3, 1) := by decide +kernel
theorem dX0_ringOf_21 : decode cX0_ringOf 21 = .ok (.invokevirtual 54, 3) := by decide +kernel
theorem dX0_ringOf_24 : decode cX0_ringOf 24 = .ok (.invokestatic 31, 3) := by decide +kernel
theorem dX0_ringOf_27 : decode cX0_ringOf 27 = .ok (.invokestatic 57, 3) := by decide +kernel
theorem dX0_ringOf_30 : decode cX0_ringOf 30 = .ok (.istore 4, 2) := by decide +kernel
theorem dX0_ringOf_32 : decode cX0_ringOf 32 = .ok (.iload_n 1, 1) := by decide +kernel
theorem dX0_ringOf_33 : decode cX0_ringOf 33 = .ok (.aload_n 0, 1) := by decide +kernel
theorem dX0_ringOf_34 : decode cX0_ringOf 34 = .ok (.getfield 27, 3) := by decide +kernel
theorem dX0_ringOf_37 : decode cX0_ringOf 37 = .ok (.iload_n 3, 1) := by decide +kernel
theorem dX0_ringOf_38 : decode cX0_ringOf 38 = .ok (.invokevirtual 61, 3) := by decide +kernel
theorem dX0_ringOf_41 : decode cX0_ringOf 41 = .ok (.invokestatic 57, 3) := by decide +kernel
theorem dX0_ringOf_44 : decode cX0_ringOf 44 = .ok (.istore 5, 2) := by decide +kernel
theorem dX0_ringOf_46 : decode cX0_ringOf 46 = .ok (.iload 4, 2) := by decide +kernel
theorem dX0_ringOf_48 : decode cX0_ringOf 48 = .ok (.iload 5, 2) := by decide +kernel
theorem dX0_ringOf_50 : decode cX0_ringOf 50 = .ok (.if_icmp .eq 9, 3) := by decide +kernel
theorem dX0_ringOf_53 : decode cX0_ringOf 53 = .ok (.iload_n 2, 1) := by decide +kernel
theorem dX0_ringOf_54 : decode cX0_ringOf 54 = .ok (.iconst 1, 1) := by decide +kernel
theorem dX0_ringOf_55 : decode cX0_ringOf 55 = .ok (.iload_n 3, 1) := by decide +kernel
theorem dX0_ringOf_56 : decode cX0_ringOf 56 = .ok (.ishl, 1) := by decide +kernel
theorem dX0_ringOf_57 : decode cX0_ringOf 57 = .ok (.ior, 1) := by decide +kernel
theorem dX0_ringOf_58 : decode cX0_ringOf 58 = .ok (.istore_n 2, 1) := by decide +kernel
theorem dX0_ringOf_59 : decode cX0_ringOf 59 = .ok (.iinc 3 1, 3) := by decide +kernel
theorem dX0_ringOf_62 : decode cX0_ringOf 62 = .ok (.goto (-58), 3) := by decide +kernel
theorem dX0_ringOf_65 : decode cX0_ringOf 65 = .ok (.iload_n 2, 1) := by decide +kernel
theorem dX0_ringOf_66 : decode cX0_ringOf 66 = .ok (.aload_n 0, 1) := by decide +kernel
theorem dX0_ringOf_67 : decode cX0_ringOf 67 = .ok (.getfield 27, 3) := by decide +kernel
theorem dX0_ringOf_70 : decode cX0_ringOf 70 = .ok (.invokevirtual 64, 3) := by decide +kernel
theorem dX0_ringOf_73 : decode cX0_ringOf 73 = .ok (.iand, 1) := by decide +kernel
theorem dX0_ringOf_74 : decode cX0_ringOf 74 = .ok (.ireturn, 1) := by decide +kernel
set_option maxRecDepth 20000 in
theorem ggX0_customersLost_X2_wetBehind : GoodIn wsX0_customersLost wsX2_wetBehind := goodIn_r _ [6, 7, 8, 9, 10, 11, 5, 12, 13, 14, 15, 57, 58, 59, 60, 61, 62, 63, 64, 65, 66, 67, 68] (by decide +kernel) (by decide +kernel)
set_option maxRecDepth 20000 in
theorem gX0_customersLost_X2_wetBehind : GoodIn wsX0_customersLost (wsV RX0 67 RX2 yX2_wetBehind wsX2_wetBehind) := goodIn_app (goodIn_of _ (by decide +kernel)) ggX0_customersLost_X2_wetBehind
set_option maxRecDepth 20000 in
theorem ggX0_customersLost_X0_ringOf : GoodIn wsX0_customersLost wsX0_ringOf := goodIn_r _ [20, 1, 21, 22, 23, 5, 24, 25, 26, 27, 28, 29, 30, 31, 32, 33, 34, 35, 36, 37, 38, 39, 40, 41, 42, 43, 44, 8, 45, 51, 52, 53, 54, 55, 56, 57, 58, 59, 60, 61, 62, 63, 64, 65, 66, 67, 68] (by decide +kernel) (by decide +kernel)
set_option maxRecDepth 20000 in
theorem gX0_customersLost_X0_ringOf : GoodIn wsX0_customersLost (wsV RX0 70 RX0 yX0_ringOf wsX0_ringOf) := goodIn_app (goodIn_of _ (by decide +kernel)) ggX0_customersLost_X0_ringOf
set_option maxRecDepth 20000 in
theorem ggX0_customersLost_X2_customersOf : GoodIn wsX0_customersLost wsX2_customersOf := goodIn_r _ [49, 13, 50, 31, 32, 33, 34, 35, 57, 58, 59, 60, 61, 62, 63, 64, 65, 66, 67, 68] (by decide +kernel) (by decide +kernel)
set_option maxRecDepth 20000 in
theorem gX0_customersLost_X2_customersOf : GoodIn wsX0_customersLost (wsV RX0 73 RX2 yX2_customersOf wsX2_customersOf) := goodIn_app (goodIn_of _ (by decide +kernel)) ggX0_customersLost_X2_customersOf
theorem dX0_customersLost_0 : decode cX0_customersLost 0 = .ok (.aload_n 0, 1) := by decide +kernel
theorem dX0_customersLost_1 : decode cX0_customersLost 1 = .ok (.getfield 27, 3) := by decide +kernel
theorem dX0_customersLost_4 : decode cX0_customersLost 4 = .ok (.iconst 0, 1) := by decide +kernel
theorem dX0_customersLost_5 : decode cX0_customersLost 5 = .ok (.invokevirtual 67, 3) := by decide +kernel
theorem dX0_customersLost_8 : decode cX0_customersLost 8 = .ok (.istore_n 2, 1) := by decide +kernel
theorem dX0_customersLost_9 : decode cX0_customersLost 9 = .ok (.aload_n 0, 1) := by decide +kernel
theorem dX0_customersLost_10 : decode cX0_customersLost 10 = .ok (.getfield 27, 3) := by decide +kernel
theorem dX0_customersLost_13 : decode cX0_customersLost 13 = .ok (.aload_n 0, 1) := by decide +kernel
theorem dX0_customersLost_14 : decode cX0_customersLost 14 = .ok (.iload_n 1, 1) := by decide +kernel
theorem dX0_customersLost_15 : decode cX0_customersLost 15 = .ok (.invokevirtual 70, 3) := by decide +kernel
theorem dX0_customersLost_18 : decode cX0_customersLost 18 = .ok (.invokevirtual 67, 3) := by decide +kernel
theorem dX0_customersLost_21 : decode cX0_customersLost 21 = .ok (.istore_n 3, 1) := by decide +kernel
theorem dX0_customersLost_22 : decode cX0_customersLost 22 = .ok (.aload_n 0, 1) := by decide +kernel
theorem dX0_customersLost_23 : decode cX0_customersLost 23 = .ok (.getfield 27, 3) := by decide +kernel
theorem dX0_customersLost_26 : decode cX0_customersLost 26 = .ok (.iload_n 2, 1) := by decide +kernel
theorem dX0_customersLost_27 : decode cX0_customersLost 27 = .ok (.iload_n 3, 1) := by decide +kernel
theorem dX0_customersLost_28 : decode cX0_customersLost 28 = .ok (.iconst (-1), 1) := by decide +kernel
theorem dX0_customersLost_29 : decode cX0_customersLost 29 = .ok (.ixor, 1) := by decide +kernel
theorem dX0_customersLost_30 : decode cX0_customersLost 30 = .ok (.iand, 1) := by decide +kernel
theorem dX0_customersLost_31 : decode cX0_customersLost 31 = .ok (.invokevirtual 73, 3) := by decide +kernel
theorem dX0_customersLost_34 : decode cX0_customersLost 34 = .ok (.ireturn, 1) := by decide +kernel
set_option maxRecDepth 20000 in
theorem ggX0_countWays_X0_regionOf : GoodIn wsX0_countWays wsX0_regionOf := goodIn_r _ [6, 7, 8, 9, 10, 11, 12, 5, 13, 14, 15, 16, 17, 18, 19, 20, 21, 22, 23, 24, 25, 26, 27, 28, 79, 80, 81, 82, 83, 84, 85, 86, 87, 88, 89, 90, 91, 92, 93, 94, 95, 96] (by decide +kernel) (by decide +kernel)
set_option maxRecDepth 20000 in
theorem gX0_countWays_X0_regionOf : GoodIn wsX0_countWays (wsV RX0 76 RX0 yX0_regionOf wsX0_regionOf) := goodIn_app (goodIn_of _ (by decide +kernel)) ggX0_countWays_X0_regionOf
set_option maxRecDepth 20000 in
theorem ggX0_countWays_X0_regionsWithSources : GoodIn wsX0_countWays wsX0_regionsWithSources := goodIn_r _ [32, 14, 33, 34, 35, 18, 36, 37, 15, 16, 17, 19, 20, 21, 22, 23, 24, 25, 26, 27, 28, 79, 80, 81, 82, 83, 84, 85, 86, 87, 88, 89, 90, 91, 92, 93, 94, 95, 96] (by decide +kernel) (by decide +kernel)
set_option maxRecDepth 20000 in
theorem gX0_countWays_X0_regionsWithSources : GoodIn wsX0_countWays (wsV RX0 79 RX0 yX0_regionsWithSources wsX0_regionsWithSources) := goodIn_app (goodIn_of _ (by decide +kernel)) ggX0_countWays_X0_regionsWithSources
set_option maxRecDepth 20000 in
theorem ggX0_countWays_X0_findRegionsOfValves : GoodIn wsX0_countWays wsX0_findRegionsOfValves := goodIn_r _ [41, 14, 42, 43, 44, 45, 46, 18, 47, 48, 49, 50, 51, 52, 53, 2, 3, 4, 5, 6, 7, 8, 9, 10, 11, 12, 13, 15, 16, 17, 19, 20, 21, 22, 23, 24, 25, 26, 27, 28, 54, 55, 56, 57, 58, 79, 80, 81, 82, 83, 84, 85, 86, 87, 88, 89, 90, 91, 92, 93, 94, 95, 96] (by decide +kernel) (by decide +kernel)
set_option maxRecDepth 20000 in
theorem gX0_countWays_X0_findRegionsOfValves : GoodIn wsX0_countWays (wsV RX0 82 RX0 yX0_findRegionsOfValves wsX0_findRegionsOfValves) := goodIn_app (goodIn_of _ (by decide +kernel)) ggX0_countWays_X0_findRegionsOfValves
set_option maxRecDepth 20000 in
theorem ggX0_countWays_X0_addWay : GoodIn wsX0_countWays wsX0_addWay := goodIn_r _ [62, 14, 63, 64, 42, 43, 44, 45, 46, 18, 47, 48, 65, 66, 67, 5, 68, 1, 69, 70, 71, 72, 21, 20, 73, 8, 74, 75, 76, 77, 78, 79, 80, 81, 82, 83, 84, 85, 86, 87, 88, 89, 90, 91, 92, 93, 94, 95, 96] (by decide +kernel) (by decide +kernel)
set_option maxRecDepth 20000 in
theorem gX0_countWays_X0_addWay : GoodIn wsX0_countWays (wsV RX0 85 RX0 yX0_addWay wsX0_addWay) := goodIn_app (goodIn_of _ (by decide +kernel)) ggX0_countWays_X0_addWay
theorem dX0_countWays_0 : decode cX0_countWays 0 = .ok (.aload_n 0, 1) := by decide +kernel
theorem dX0_countWays_1 : decode cX0_countWays 1 = .ok (.iload_n 1, 1) := by decide +kernel
theorem dX0_countWays_2 : decode cX0_countWays 2 = .ok (.invokevirtual 76, 3) := by decide +kernel
theorem dX0_countWays_5 : decode cX0_countWays 5 = .ok (.istore_n 2, 1) := by decide +kernel
theorem dX0_countWays_6 : decode cX0_countWays 6 = .ok (.aload_n 0, 1) := by decide +kernel
theorem dX0_countWays_7 : decode cX0_countWays 7 = .ok (.invokevirtual 79, 3) := by decide +kernel
theorem dX0_countWays_10 : decode cX0_countWays 10 = .ok (.istore_n 3, 1) := by decide +kernel
theorem dX0_countWays_11 : decode cX0_countWays 11 = .ok (.iload_n 3, 1) := by decide +kernel
theorem dX0_countWays_12 : decode cX0_countWays 12 = .ok (.iload_n 2, 1) := by decide +kernel
theorem dX0_countWays_13 : decode cX0_countWays 13 = .ok (.iand, 1) := by decide +kernel
theorem dX0_countWays_14 : decode cX0_countWays 14 = .ok (.ifCond .eq 5, 3) := by decide +kernel
theorem dX0_countWays_17 : decode cX0_countWays 17 = .ok (.iconst (-1), 1) := by decide +kernel
theorem dX0_countWays_18 : decode cX0_countWays 18 = .ok (.ireturn, 1) := by decide +kernel
theorem dX0_countWays_19 : decode cX0_countWays 19 = .ok (.aload_n 0, 1) := by decide +kernel
theorem dX0_countWays_20 : decode cX0_countWays 20 = .ok (.invokevirtual 82, 3) := by decide +kernel
theorem dX0_countWays_23 : decode cX0_countWays 23 = .ok (.iconst 0, 1) := by decide +kernel
theorem dX0_countWays_24 : decode cX0_countWays 24 = .ok (.istore 4, 2) := by decide +kernel
theorem dX0_countWays_26 : decode cX0_countWays 26 = .ok (.iload 4, 2) := by decide +kernel
theorem dX0_countWays_28 : decode cX0_countWays 28 = .ok (.bipush 12, 2) := by decide +kernel
theorem dX0_countWays_30 : decode cX0_countWays 30 = .ok (.if_icmp .ge 17, 3) := by decide +kernel
theorem dX0_countWays_33 : decode cX0_countWays 33 = .ok (.aload_n 0, 1) := by decide +kernel
theorem dX0_countWays_34 : decode cX0_countWays 34 = .ok (.getfield 18, 3) := by decide +kernel
theorem dX0_countWays_37 : decode cX0_countWays 37 = .ok (.iload 4, 2) := by decide +kernel
theorem dX0_countWays_39 : decode cX0_countWays 39 = .ok (.iconst 0, 1) := by decide +kernel
theorem dX0_countWays_40 : decode cX0_countWays 40 = .ok (.iastore, 1) := by decide +kernel
theorem dX0_countWays_41 : decode cX0_countWays 41 = .ok (.iinc 4 1, 3) := by decide +kernel
theorem dX0_countWays_44 : decode cX0_countWays 44 = .ok (.goto (-18), 3) := by decide +kernel
theorem dX0_countWays_47 : decode cX0_countWays 47 = .ok (.iconst 0, 1) := by decide +kernel
theorem dX0_countWays_48 : decode cX0_countWays 48 = .ok (.istore 4, 2) := by decide +kernel
theorem dX0_countWays_50 : decode cX0_countWays 50 = .ok (.iload 4, 2) := by decide +kernel
theorem dX0_countWays_52 : decode cX0_countWays 52 = .ok (.bipush 12, 2) := by decide +kernel
theorem dX0_countWays_54 : decode cX0_countWays 54 = .ok (.if_icmp .ge 21, 3) := by decide +kernel
theorem dX0_countWays_57 : decode cX0_countWays 57 = .ok (.aload_n 0, 1) := by decide +kernel
theorem dX0_countWays_58 : decode cX0_countWays 58 = .ok (.iload_n 3, 1) := by decide +kernel
theorem dX0_countWays_59 : decode cX0_countWays 59 = .ok (.iload_n 2, 1) := by decide +kernel
theorem dX0_countWays_60 : decode cX0_countWays 60 = .ok (.invokevirtual 85, 3) := by decide +kernel
theorem dX0_countWays_63 : decode cX0_countWays 63 = .ok (.ifCond .ne 6, 3) := by decide +kernel
theorem dX0_countWays_66 : decode cX0_countWays 66 = .ok (.iload 4, 2) := by decide +kernel
theorem dX0_countWays_68 : decode cX0_countWays 68 = .ok (.ireturn, 1) := by decide +kernel
theorem dX0_countWays_69 : decode cX0_countWays 69 = .ok (.iinc 4 1, 3) := by decide +kernel
theorem dX0_countWays_72 : decode cX0_countWays 72 = .ok (.goto (-22), 3) := by decide +kernel
theorem dX0_countWays_75 : decode cX0_countWays 75 = .ok (.bipush 12, 2) := by decide +kernel
theorem dX0_countWays_77 : decode cX0_countWays 77 = .ok (.ireturn, 1) := by decide +kernel
set_option maxRecDepth 20000 in
theorem ggX0_findRegionsOfValves_X2_valveCount : GoodIn wsX0_findRegionsOfValves wsX2_valveCount := goodIn_r _ [8, 9, 51, 52, 53, 54, 55, 56, 57, 58, 59, 60, 61, 62] (by decide +kernel) (by decide +kernel)
set_option maxRecDepth 20000 in
theorem gX0_findRegionsOfValves_X2_valveCount : GoodIn wsX0_findRegionsOfValves (wsV RX0 51 RX2 yX2_valveCount wsX2_valveCount) := goodIn_app (goodIn_of _ (by decide +kernel)) ggX0_findRegionsOfValves_X2_valveCount
set_option maxRecDepth 20000 in
theorem ggX0_findRegionsOfValves_X2_pipeOfValve : GoodIn wsX0_findRegionsOfValves wsX2_pipeOfValve := goodIn_r _ [13, 14, 51, 52, 53, 54, 55, 56, 57, 58, 59, 60, 61, 62] (by decide +kernel) (by decide +kernel)
set_option maxRecDepth 20000 in
theorem gX0_findRegionsOfValves_X2_pipeOfValve : GoodIn wsX0_findRegionsOfValves (wsV RX0 54 RX2 yX2_pipeOfValve wsX2_pipeOfValve) := goodIn_app (goodIn_of _ (by decide +kernel)) ggX0_findRegionsOfValves_X2_pipeOfValve
set_option maxRecDepth 20000 in
theorem ggX0_findRegionsOfValves_X0_regionOf : GoodIn wsX0_findRegionsOfValves wsX0_regionOf := goodIn_r _ [19, 20, 21, 22, 23, 24, 25, 18, 26, 1, 27, 28, 29, 7, 30, 31, 32, 33, 34, 35, 36, 37, 38, 39, 45, 46, 47, 48, 49, 50, 51, 52, 53, 54, 55, 56, 57, 58, 59, 60, 61, 62] (by decide +kernel) (by decide +kernel)
set_option maxRecDepth 20000 in
theorem gX0_findRegionsOfValves_X0_regionOf : GoodIn wsX0_findRegionsOfValves (wsV RX0 76 RX0 yX0_regionOf wsX0_regionOf) := goodIn_app (goodIn_of _ (by decide +kernel)) ggX0_findRegionsOfValves_X0_regionOf
set_option maxRecDepth 20000 in
theorem ggX0_findRegionsOfValves_X2_nodeOfValve : GoodIn wsX0_findRegionsOfValves wsX2_nodeOfValve := goodIn_r _ [43, 44, 14, 51, 52, 53, 54, 55, 56, 57, 58, 59, 60, 61, 62] (by decide +kernel) (by decide +kernel)
set_option maxRecDepth 20000 in
theorem gX0_findRegionsOfValves_X2_nodeOfValve : GoodIn wsX0_findRegionsOfValves (wsV RX0 61 RX2 yX2_nodeOfValve wsX2_nodeOfValve) := goodIn_app (goodIn_of _ (by decide +kernel)) ggX0_findRegionsOfValves_X2_nodeOfValve
set_option maxRecDepth 20000 in
theorem ggX0_findRegionsOfValves_X0_regionWith : GoodIn wsX0_findRegionsOfValves wsX0_regionWith := goodIn_r _ [26, 1, 27, 28, 29, 7, 30, 31, 32, 33, 34, 35, 36, 37, 38, 39, 45, 46, 47, 48, 49, 50, 51, 52, 53, 54, 55, 56, 57, 58, 59, 60, 61, 62] (by decide +kernel) (by decide +kernel)
set_option maxRecDepth 20000 in
theorem gX0_findRegionsOfValves_X0_regionWith : GoodIn wsX0_findRegionsOfValves (wsV RX0 35 RX0 yX0_regionWith wsX0_regionWith) := goodIn_app (goodIn_of _ (by decide +kernel)) ggX0_findRegionsOfValves_X0_regionWith
theorem dX0_findRegionsOfValves_0 : decode cX0_findRegionsOfValves 0 = .ok (.iconst 0, 1) := by decide +kernel
theorem dX0_findRegionsOfValves_1 : decode cX0_findRegionsOfValves 1 = .ok (.istore_n 1, 1) := by decide +kernel
theorem dX0_findRegionsOfValves_2 : decode cX0_findRegionsOfValves 2 = .ok (.iload_n 1, 1) := by decide +kernel
theorem dX0_findRegionsOfValves_3 : decode cX0_findRegionsOfValves 3 = .ok (.aload_n 0, 1) := by decide +kernel
theorem dX0_findRegionsOfValves_4 : decode cX0_findRegionsOfValves 4 = .ok (.getfield 27, 3) := by decide +kernel
theorem dX0_findRegionsOfValves_7 : decode cX0_findRegionsOfValves 7 = .ok (.invokevirtual 51, 3) := by decide +kernel
theorem dX0_findRegionsOfValves_10 : decode cX0_findRegionsOfValves 10 = .ok (.if_icmp .ge 45, 3) := by decide +kernel
theorem dX0_findRegionsOfValves_13 : decode cX0_findRegionsOfValves 13 = .ok (.aload_n 0, 1) := by decide +kernel
theorem dX0_findRegionsOfValves_14 : decode cX0_findRegionsOfValves 14 = .ok (.getfield 9, 3) := by decide +kernel
theorem dX0_findRegionsOfValves_17 : decode cX0_findRegionsOfValves 17 = .ok (.iload_n 1, 1) := by decide +kernel
theorem dX0_findRegionsOfValves_18 : decode cX0_findRegionsOfValves 18 = .ok (.aload_n 0, 1) := by decide +kernel
theorem dX0_findRegionsOfValves_19 : decode cX0_findRegionsOfValves 19 = .ok (.aload_n 0, 1) := by decide +kernel
theorem dX0_findRegionsOfValves_20 : decode cX0_findRegionsOfValves 20 = .ok (.getfield 27, 3) := by decide +kernel
theorem dX0_findRegionsOfValves_23 : decode cX0_findRegionsOfValves 23 = .ok (.iload_n 1, 1) := by decide +kernel
theorem dX0_findRegionsOfValves_24 : decode cX0_findRegionsOfValves 24 = .ok (.invokevirtual 54, 3) := by decide +kernel
theorem dX0_findRegionsOfValves_27 : decode cX0_findRegionsOfValves 27 = .ok (.invokevirtual 76, 3) := by decide +kernel
theorem dX0_findRegionsOfValves_30 : decode cX0_findRegionsOfValves 30 = .ok (.iastore, 1) := by decide +kernel
theorem dX0_findRegionsOfValves_31 : decode cX0_findRegionsOfValves 31 = .ok (.aload_n 0, 1) := by decide +kernel
theorem dX0_findRegionsOfValves_32 : decode cX0_findRegionsOfValves 32 = .ok (.getfield 15, 3) := by decide +kernel
theorem dX0_findRegionsOfValves_35 : decode cX0_findRegionsOfValves 35 = .ok (.iload_n 1, 1) := by decide +kernel
theorem dX0_findRegionsOfValves_36 : decode cX0_findRegionsOfValves 36 = .ok (.aload_n 0, 1) := by decide +kernel
theorem dX0_findRegionsOfValves_37 : decode cX0_findRegionsOfValves 37 = .ok (.aload_n 0, 1) := by decide +kernel
theorem dX0_findRegionsOfValves_38 : decode cX0_findRegionsOfValves 38 = .ok (.getfield 27, 3) := by decide +kernel
theorem dX0_findRegionsOfValves_41 : decode cX0_findRegionsOfValves 41 = .ok (.iload_n 1, 1) := by decide +kernel
theorem dX0_findRegionsOfValves_42 : decode cX0_findRegionsOfValves 42 = .ok (.invokevirtual 61, 3) := by decide +kernel
theorem dX0_findRegionsOfValves_45 : decode cX0_findRegionsOfValves 45 = .ok (.invokevirtual 35, 3) := by decide +kernel
theorem dX0_findRegionsOfValves_48 : decode cX0_findRegionsOfValves 48 = .ok (.iastore, 1) := by decide +kernel
theorem dX0_findRegionsOfValves_49 : decode cX0_findRegionsOfValves 49 = .ok (.iinc 1 1, 3) := by decide +kernel
theorem dX0_findRegionsOfValves_52 : decode cX0_findRegionsOfValves 52 = .ok (.goto (-50), 3) := by decide +kernel
theorem dX0_findRegionsOfValves_55 : decode cX0_findRegionsOfValves 55 = .ok (.return_, 1) := by decide +kernel
set_option maxRecDepth 20000 in
theorem ggX0_addWay_X2_valveCount : GoodIn wsX0_addWay wsX2_valveCount := goodIn_r _ [10, 11, 37, 38, 39, 40, 41, 42, 43, 44, 45, 46, 47, 48] (by decide +kernel) (by decide +kernel)
set_option maxRecDepth 20000 in
theorem gX0_addWay_X2_valveCount : GoodIn wsX0_addWay (wsV RX0 51 RX2 yX2_valveCount wsX2_valveCount) := goodIn_app (goodIn_of _ (by decide +kernel)) ggX0_addWay_X2_valveCount
set_option maxRecDepth 20000 in
theorem ggX0_addWay_X0_directionAcross : GoodIn wsX0_addWay wsX0_directionAcross := goodIn_r _ [16, 4, 5, 1, 17, 18, 19, 20, 9, 21, 11, 22, 23, 24, 25, 26, 31, 32, 33, 34, 35, 36, 37, 38, 39, 40, 41, 42, 43, 44, 45, 46, 47, 48] (by decide +kernel) (by decide +kernel)
set_option maxRecDepth 20000 in
theorem gX0_addWay_X0_directionAcross : GoodIn wsX0_addWay (wsV RX0 88 RX0 yX0_directionAcross wsX0_directionAcross) := goodIn_app (goodIn_of _ (by decide +kernel)) ggX0_addWay_X0_directionAcross
set_option maxRecDepth 20000 in
theorem ggX0_addWay_X0_keepWayTo : GoodIn wsX0_addWay wsX0_keepWayTo := goodIn_r _ [30, 2, 3, 5, 4, 17, 31, 32, 33, 34, 35, 36] (by decide +kernel) (by decide +kernel)
set_option maxRecDepth 20000 in
theorem gX0_addWay_X0_keepWayTo : GoodIn wsX0_addWay (wsV RX0 91 RX0 yX0_keepWayTo wsX0_keepWayTo) := goodIn_app (goodIn_of _ (by decide +kernel)) ggX0_addWay_X0_keepWayTo
theorem dX0_addWay_0 : decode cX0_addWay 0 = .ok (.iload_n 1, 1) := by decide +kernel
theorem dX0_addWay_1 : decode cX0_addWay 1 = .ok (.istore_n 3, 1) := by decide +kernel
theorem dX0_addWay_2 : decode cX0_addWay 2 = .ok (.iconst 0, 1) := by decide +kernel
theorem dX0_addWay_3 : decode cX0_addWay 3 = .ok (.istore 4, 2) := by decide +kernel
theorem dX0_addWay_5 : decode cX0_addWay 5 = .ok (.iconst 0, 1) := by decide +kernel
theorem dX0_addWay_6 : decode cX0_addWay 6 = .ok (.istore 5, 2) := by decide +kernel
theorem dX0_addWay_8 : decode cX0_addWay 8 = .ok (.iload 5, 2) := by decide +kernel
theorem dX0_addWay_10 : decode cX0_addWay 10 = .ok (.bipush 12, 2) := by decide +kernel
theorem dX0_addWay_12 : decode cX0_addWay 12 = .ok (.if_icmp .ge 102, 3) := by decide +kernel
theorem dX0_addWay_15 : decode cX0_addWay 15 = .ok (.iload_n 3, 1) := by decide +kernel
theorem dX0_addWay_16 : decode cX0_addWay 16 = .ok (.istore 6, 2) := by decide +kernel
theorem dX0_addWay_18 : decode cX0_addWay 18 = .ok (.iconst 0, 1) := by decide +kernel
theorem dX0_addWay_19 : decode cX0_addWay 19 = .ok (.istore 7, 2) := by decide +kernel
theorem dX0_addWay_21 : decode cX0_addWay 21 = .ok (.iload 7, 2) := by decide +kernel
theorem dX0_addWay_23 : decode cX0_addWay 23 = .ok (.aload_n 0, 1) := by decide +kernel
theorem dX0_addWay_24 : decode cX0_addWay 24 = .ok (.getfield 27, 3) := by decide +kernel
theorem dX0_addWay_27 : decode cX0_addWay 27 = .ok (.invokevirtual 51, 3) := by decide +kernel
theorem dX0_addWay_30 : decode cX0_addWay 30 = .ok (.if_icmp .ge 69, 3) := by decide +kernel
theorem dX0_addWay_33 : decode cX0_addWay 33 = .ok (.aload_n 0, 1) := by decide +kernel
theorem dX0_addWay_34 : decode cX0_addWay 34 = .ok (.iload 7, 2) := by decide +kernel
theorem dX0_addWay_36 : decode cX0_addWay 36 = .ok (.iload_n 3, 1) := by decide +kernel
theorem dX0_addWay_37 : decode cX0_addWay 37 = .ok (.invokevirtual 88, 3) := by decide +kernel
theorem dX0_addWay_40 : decode cX0_addWay 40 = .ok (.istore 8, 2) := by decide +kernel
theorem dX0_addWay_42 : decode cX0_addWay 42 = .ok (.iload 8, 2) := by decide +kernel
theorem dX0_addWay_44 : decode cX0_addWay 44 = .ok (.ifCond .eq 49, 3) := by decide +kernel
theorem dX0_addWay_47 : decode cX0_addWay 47 = .ok (.iload 4, 2) := by decide +kernel
theorem dX0_addWay_49 : decode cX0_addWay 49 = .ok (.bipush 12, 2) := by decide +kernel
theorem dX0_addWay_51 : decode cX0_addWay 51 = .ok (.if_icmp .ge 42, 3) := by decide +kernel
theorem dX0_addWay_54 : decode cX0_addWay 54 = .ok (.aload_n 0, 1) := by decide +kernel
theorem dX0_addWay_55 : decode cX0_addWay 55 = .ok (.getfield 21, 3) := by decide +kernel
theorem dX0_addWay_58 : decode cX0_addWay 58 = .ok (.iload 4, 2) := by decide +kernel
theorem dX0_addWay_60 : decode cX0_addWay 60 = .ok (.iload 7, 2) := by decide +kernel
theorem dX0_addWay_62 : decode cX0_addWay 62 = .ok (.iastore, 1) := by decide +kernel
theorem dX0_addWay_63 : decode cX0_addWay 63 = .ok (.aload_n 0, 1) := by decide +kernel
theorem dX0_addWay_64 : decode cX0_addWay 64 = .ok (.getfield 24, 3) := by decide +kernel
theorem dX0_addWay_67 : decode cX0_addWay 67 = .ok (.iload 7, 2) := by decide +kernel
theorem dX0_addWay_69 : decode cX0_addWay 69 = .ok (.iload 8, 2) := by decide +kernel
theorem dX0_addWay_71 : decode cX0_addWay 71 = .ok (.iastore, 1) := by decide +kernel
theorem dX0_addWay_72 : decode cX0_addWay 72 = .ok (.iinc 4 1, 3) := by decide +kernel
theorem dX0_addWay_75 : decode cX0_addWay 75 = .ok (.iload_n 3, 1) := by decide +kernel
theorem dX0_addWay_76 : decode cX0_addWay 76 = .ok (.aload_n 0, 1) := by decide +kernel
theorem dX0_addWay_77 : decode cX0_addWay 77 = .ok (.getfield 9, 3) := by decide +kernel
theorem dX0_addWay_80 : decode cX0_addWay 80 = .ok (.iload 7, 2) := by decide +kernel
theorem dX0_addWay_82 : decode cX0_addWay 82 = .ok (.iaload, 1) := by decide +kernel
theorem dX0_addWay_83 : decode cX0_addWay 83 = .ok (.aload_n 0, 1) := by decide +kernel
theorem dX0_addWay_84 : decode cX0_addWay 84 = .ok (.getfield 15, 3) := by decide +kernel
theorem dX0_addWay_87 : decode cX0_addWay 87 = .ok (.iload 7, 2) := by decide +kernel
theorem dX0_addWay_89 : decode cX0_addWay 89 = .ok (.iaload, 1) := by decide +kernel
theorem dX0_addWay_90 : decode cX0_addWay 90 = .ok (.ior, 1) := by decide +kernel
theorem dX0_addWay_91 : decode cX0_addWay 91 = .ok (.ior, 1) := by decide +kernel
theorem dX0_addWay_92 : decode cX0_addWay 92 = .ok (.istore_n 3, 1) := by decide +kernel
theorem dX0_addWay_93 : decode cX0_addWay 93 = .ok (.iinc 7 1, 3) := by decide +kernel
theorem dX0_addWay_96 : decode cX0_addWay 96 = .ok (.goto (-75), 3) := by decide +kernel
theorem dX0_addWay_99 : decode cX0_addWay 99 = .ok (.iload_n 3, 1) := by decide +kernel
theorem dX0_addWay_100 : decode cX0_addWay 100 = .ok (.iload 6, 2) := by decide +kernel
theorem dX0_addWay_102 : decode cX0_addWay 102 = .ok (.if_icmp .ne 6, 3) := by decide +kernel
theorem dX0_addWay_105 : decode cX0_addWay 105 = .ok (.goto 9, 3) := by decide +kernel
theorem dX0_addWay_108 : decode cX0_addWay 108 = .ok (.iinc 5 1, 3) := by decide +kernel
theorem dX0_addWay_111 : decode cX0_addWay 111 = .ok (.goto (-103), 3) := by decide +kernel
theorem dX0_addWay_114 : decode cX0_addWay 114 = .ok (.iload_n 3, 1) := by decide +kernel
theorem dX0_addWay_115 : decode cX0_addWay 115 = .ok (.iload_n 2, 1) := by decide +kernel
theorem dX0_addWay_116 : decode cX0_addWay 116 = .ok (.iand, 1) := by decide +kernel
theorem dX0_addWay_117 : decode cX0_addWay 117 = .ok (.ifCond .ne 5, 3) := by decide +kernel
theorem dX0_addWay_120 : decode cX0_addWay 120 = .ok (.iconst 0, 1) := by decide +kernel
theorem dX0_addWay_121 : decode cX0_addWay 121 = .ok (.ireturn, 1) := by decide +kernel
theorem dX0_addWay_122 : decode cX0_addWay 122 = .ok (.aload_n 0, 1) := by decide +kernel
theorem dX0_addWay_123 : decode cX0_addWay 123 = .ok (.iload_n 2, 1) := by decide +kernel
theorem dX0_addWay_124 : decode cX0_addWay 124 = .ok (.iload 4, 2) := by decide +kernel
theorem dX0_addWay_126 : decode cX0_addWay 126 = .ok (.invokevirtual 91, 3) := by decide +kernel
theorem dX0_addWay_129 : decode cX0_addWay 129 = .ok (.iconst 1, 1) := by decide +kernel
theorem dX0_addWay_130 : decode cX0_addWay 130 = .ok (.ireturn, 1) := by decide +kernel
set_option maxRecDepth 20000 in
theorem ggX0_directionAcross_X2_closable : GoodIn wsX0_directionAcross wsX2_closable := goodIn_r _ [9, 10, 11, 12, 22, 23, 24, 25, 26, 27, 28, 29, 30, 31, 32, 33] (by decide +kernel) (by decide +kernel)
set_option maxRecDepth 20000 in
theorem gX0_directionAcross_X2_closable : GoodIn wsX0_directionAcross (wsV RX0 64 RX2 yX2_closable wsX2_closable) := goodIn_app (goodIn_of _ (by decide +kernel)) ggX0_directionAcross_X2_closable
set_option maxRecDepth 20000 in
theorem ggX0_directionAcross_X5_hasBit : GoodIn wsX0_directionAcross wsX5_hasBit := goodIn_r _ [15] (by decide +kernel) (by decide +kernel)
set_option maxRecDepth 20000 in
theorem gX0_directionAcross_X5_hasBit_n57 : GoodIn wsX0_directionAcross (wsX5_hasBit) := ggX0_directionAcross_X5_hasBit
theorem dX0_directionAcross_0 : decode cX0_directionAcross 0 = .ok (.iload_n 2, 1) := by decide +kernel
theorem dX0_directionAcross_1 : decode cX0_directionAcross 1 = .ok (.aload_n 0, 1) := by decide +kernel
theorem dX0_directionAcross_2 : decode cX0_directionAcross 2 = .ok (.getfield 9, 3) := by decide +kernel
theorem dX0_directionAcross_5 : decode cX0_directionAcross 5 = .ok (.iload_n 1, 1) := by decide +kernel
theorem dX0_directionAcross_6 : decode cX0_directionAcross 6 = .ok (.iaload, 1) := by decide +kernel
theorem dX0_directionAcross_7 : decode cX0_directionAcross 7 = .ok (.iand, 1) := by decide +kernel
theorem dX0_directionAcross_8 : decode cX0_directionAcross 8 = .ok (.ifCond .eq 7, 3) := by decide +kernel
theorem dX0_directionAcross_11 : decode cX0_directionAcross 11 = .ok (.iconst 1, 1) := by decide +kernel
theorem dX0_directionAcross_12 : decode cX0_directionAcross 12 = .ok (.goto 4, 3) := by decide +kernel
theorem dX0_directionAcross_15 : decode cX0_directionAcross 15 = .ok (.iconst 0, 1) := by decide +kernel
theorem dX0_directionAcross_16 : decode cX0_directionAcross 16 = .ok (.istore_n 3, 1) := by decide +kernel
theorem dX0_directionAcross_17 : decode cX0_directionAcross 17 = .ok (.iload_n 2, 1) := by decide +kernel
theorem dX0_directionAcross_18 : decode cX0_directionAcross 18 = .ok (.aload_n 0, 1) := by decide +kernel
theorem dX0_directionAcross_19 : decode cX0_directionAcross 19 = .ok (.getfield 15, 3) := by decide +kernel
theorem dX0_directionAcross_22 : decode cX0_directionAcross 22 = .ok (.iload_n 1, 1) := by decide +kernel
theorem dX0_directionAcross_23 : decode cX0_directionAcross 23 = .ok (.iaload, 1) := by decide +kernel
theorem dX0_directionAcross_24 : decode cX0_directionAcross 24 = .ok (.iand, 1) := by decide +kernel
theorem dX0_directionAcross_25 : decode cX0_directionAcross 25 = .ok (.ifCond .eq 7, 3) := by decide +kernel
theorem dX0_directionAcross_28 : decode cX0_directionAcross 28 = .ok (.iconst 1, 1) := by decide +kernel
theorem dX0_directionAcross_29 : decode cX0_directionAcross 29 = .ok (.goto 4, 3) := by decide +kernel
theorem dX0_directionAcross_32 : decode cX0_directionAcross 32 = .ok (.iconst 0, 1) := by decide +kernel
theorem dX0_directionAcross_33 : decode cX0_directionAcross 33 = .ok (.istore 4, 2) := by decide +kernel
theorem dX0_directionAcross_35 : decode cX0_directionAcross 35 = .ok (.iload_n 3, 1) := by decide +kernel
theorem dX0_directionAcross_36 : decode cX0_directionAcross 36 = .ok (.iload 4, 2) := by decide +kernel
theorem dX0_directionAcross_38 : decode cX0_directionAcross 38 = .ok (.if_icmp .eq 17, 3) := by decide +kernel
theorem dX0_directionAcross_41 : decode cX0_directionAcross 41 = .ok (.aload_n 0, 1) := by decide +kernel
theorem dX0_directionAcross_42 : decode cX0_directionAcross 42 = .ok (.getfield 27, 3) := by decide +kernel
theorem dX0_directionAcross_45 : decode cX0_directionAcross 45 = .ok (.invokevirtual 64, 3) := by decide +kernel
theorem dX0_directionAcross_48 : decode cX0_directionAcross 48 = .ok (.iload_n 1, 1) := by decide +kernel
theorem dX0_directionAcross_49 : decode cX0_directionAcross 49 = .ok (.invokestatic 57, 3) := by decide +kernel
theorem dX0_directionAcross_52 : decode cX0_directionAcross 52 = .ok (.ifCond .ne 5, 3) := by decide +kernel
theorem dX0_directionAcross_55 : decode cX0_directionAcross 55 = .ok (.iconst 0, 1) := by decide +kernel
theorem dX0_directionAcross_56 : decode cX0_directionAcross 56 = .ok (.ireturn, 1) := by decide +kernel
theorem dX0_directionAcross_57 : decode cX0_directionAcross 57 = .ok (.iload_n 3, 1) := by decide +kernel
theorem dX0_directionAcross_58 : decode cX0_directionAcross 58 = .ok (.ifCond .eq 7, 3) := by decide +kernel
theorem dX0_directionAcross_61 : decode cX0_directionAcross 61 = .ok (.iconst 1, 1) := by decide +kernel
theorem dX0_directionAcross_62 : decode cX0_directionAcross 62 = .ok (.goto 4, 3) := by decide +kernel
theorem dX0_directionAcross_65 : decode cX0_directionAcross 65 = .ok (.iconst (-1), 1) := by decide +kernel
theorem dX0_directionAcross_66 : decode cX0_directionAcross 66 = .ok (.istore 5, 2) := by decide +kernel
theorem dX0_directionAcross_68 : decode cX0_directionAcross 68 = .ok (.aload_n 0, 1) := by decide +kernel
theorem dX0_directionAcross_69 : decode cX0_directionAcross 69 = .ok (.getfield 18, 3) := by decide +kernel
theorem dX0_directionAcross_72 : decode cX0_directionAcross 72 = .ok (.iload_n 1, 1) := by decide +kernel
theorem dX0_directionAcross_73 : decode cX0_directionAcross 73 = .ok (.iaload, 1) := by decide +kernel
theorem dX0_directionAcross_74 : decode cX0_directionAcross 74 = .ok (.iload 5, 2) := by decide +kernel
theorem dX0_directionAcross_76 : decode cX0_directionAcross 76 = .ok (.if_icmp .ne 7, 3) := by decide +kernel
theorem dX0_directionAcross_79 : decode cX0_directionAcross 79 = .ok (.iconst 0, 1) := by decide +kernel
theorem dX0_directionAcross_80 : decode cX0_directionAcross 80 = .ok (.goto 5, 3) := by decide +kernel
theorem dX0_directionAcross_83 : decode cX0_directionAcross 83 = .ok (.iload 5, 2) := by decide +kernel
theorem dX0_directionAcross_85 : decode cX0_directionAcross 85 = .ok (.ireturn, 1) := by decide +kernel
theorem dX0_keepWayTo_0 : decode cX0_keepWayTo 0 = .ok (.iload_n 1, 1) := by decide +kernel
theorem dX0_keepWayTo_1 : decode cX0_keepWayTo 1 = .ok (.istore_n 3, 1) := by decide +kernel
theorem dX0_keepWayTo_2 : decode cX0_keepWayTo 2 = .ok (.iload_n 2, 1) := by decide +kernel
theorem dX0_keepWayTo_3 : decode cX0_keepWayTo 3 = .ok (.iconst 1, 1) := by decide +kernel
theorem dX0_keepWayTo_4 : decode cX0_keepWayTo 4 = .ok (.isub, 1) := by decide +kernel
theorem dX0_keepWayTo_5 : decode cX0_keepWayTo 5 = .ok (.istore 4, 2) := by decide +kernel
theorem dX0_keepWayTo_7 : decode cX0_keepWayTo 7 = .ok (.iload 4, 2) := by decide +kernel
theorem dX0_keepWayTo_9 : decode cX0_keepWayTo 9 = .ok (.ifCond .lt 105, 3) := by decide +kernel
theorem dX0_keepWayTo_12 : decode cX0_keepWayTo 12 = .ok (.aload_n 0, 1) := by decide +kernel
theorem dX0_keepWayTo_13 : decode cX0_keepWayTo 13 = .ok (.getfield 21, 3) := by decide +kernel
theorem dX0_keepWayTo_16 : decode cX0_keepWayTo 16 = .ok (.iload 4, 2) := by decide +kernel
theorem dX0_keepWayTo_18 : decode cX0_keepWayTo 18 = .ok (.iaload, 1) := by decide +kernel
theorem dX0_keepWayTo_19 : decode cX0_keepWayTo 19 = .ok (.istore 5, 2) := by decide +kernel
theorem dX0_keepWayTo_21 : decode cX0_keepWayTo 21 = .ok (.aload_n 0, 1) := by decide +kernel
theorem dX0_keepWayTo_22 : decode cX0_keepWayTo 22 = .ok (.getfield 24, 3) := by decide +kernel
theorem dX0_keepWayTo_25 : decode cX0_keepWayTo 25 = .ok (.iload 5, 2) := by decide +kernel
theorem dX0_keepWayTo_27 : decode cX0_keepWayTo 27 = .ok (.iaload, 1) := by decide +kernel
theorem dX0_keepWayTo_28 : decode cX0_keepWayTo 28 = .ok (.ifCond .le 7, 3) := by decide +kernel
theorem dX0_keepWayTo_31 : decode cX0_keepWayTo 31 = .ok (.iconst 1, 1) := by decide +kernel
theorem dX0_keepWayTo_32 : decode cX0_keepWayTo 32 = .ok (.goto 4, 3) := by decide +kernel
theorem dX0_keepWayTo_35 : decode cX0_keepWayTo 35 = .ok (.iconst 0, 1) := by decide +kernel
theorem dX0_keepWayTo_36 : decode cX0_keepWayTo 36 = .ok (.istore 6, 2) := by decide +kernel
theorem dX0_keepWayTo_38 : decode cX0_keepWayTo 38 = .ok (.iload 6, 2) := by decide +kernel
theorem dX0_keepWayTo_40 : decode cX0_keepWayTo 40 = .ok (.ifCond .eq 13, 3) := by decide +kernel
theorem dX0_keepWayTo_43 : decode cX0_keepWayTo 43 = .ok (.aload_n 0, 1) := by decide +kernel
theorem dX0_keepWayTo_44 : decode cX0_keepWayTo 44 = .ok (.getfield 15, 3) := by decide +kernel
theorem dX0_keepWayTo_47 : decode cX0_keepWayTo 47 = .ok (.iload 5, 2) := by decide +kernel
theorem dX0_keepWayTo_49 : decode cX0_keepWayTo 49 = .ok (.iaload, 1) := by decide +kernel
theorem dX0_keepWayTo_50 : decode cX0_keepWayTo 50 = .ok (.goto 10, 3) := by decide +kernel
theorem dX0_keepWayTo_53 : decode cX0_keepWayTo 53 = .ok (.aload_n 0, 1) := by decide +kernel
theorem dX0_keepWayTo_54 : decode cX0_keepWayTo 54 = .ok (.getfield 9, 3) := by decide +kernel
theorem dX0_keepWayTo_57 : decode cX0_keepWayTo 57 = .ok (.iload 5, 2) := by decide +kernel
theorem dX0_keepWayTo_59 : decode cX0_keepWayTo 59 = .ok (.iaload, 1) := by decide +kernel
theorem dX0_keepWayTo_60 : decode cX0_keepWayTo 60 = .ok (.istore 7, 2) := by decide +kernel
theorem dX0_keepWayTo_62 : decode cX0_keepWayTo 62 = .ok (.iload 7, 2) := by decide +kernel
theorem dX0_keepWayTo_64 : decode cX0_keepWayTo 64 = .ok (.iload_n 3, 1) := by decide +kernel
theorem dX0_keepWayTo_65 : decode cX0_keepWayTo 65 = .ok (.if_icmp .ne 43, 3) := by decide +kernel
theorem dX0_keepWayTo_68 : decode cX0_keepWayTo 68 = .ok (.aload_n 0, 1) := by decide +kernel
theorem dX0_keepWayTo_69 : decode cX0_keepWayTo 69 = .ok (.getfield 18, 3) := by decide +kernel
theorem dX0_keepWayTo_72 : decode cX0_keepWayTo 72 = .ok (.iload 5, 2) := by decide +kernel
theorem dX0_keepWayTo_74 : decode cX0_keepWayTo 74 = .ok (.dup2, 1) := by decide +kernel
theorem dX0_keepWayTo_75 : decode cX0_keepWayTo 75 = .ok (.iaload, 1) := by decide +kernel
theorem dX0_keepWayTo_76 : decode cX0_keepWayTo 76 = .ok (.aload_n 0, 1) := by decide +kernel
theorem dX0_keepWayTo_77 : decode cX0_keepWayTo 77 = .ok (.getfield 24, 3) := by decide +kernel
theorem dX0_keepWayTo_80 : decode cX0_keepWayTo 80 = .ok (.iload 5, 2) := by decide +kernel
theorem dX0_keepWayTo_82 : decode cX0_keepWayTo 82 = .ok (.iaload, 1) := by decide +kernel
theorem dX0_keepWayTo_83 : decode cX0_keepWayTo 83 = .ok (.iadd, 1) := by decide +kernel
theorem dX0_keepWayTo_84 : decode cX0_keepWayTo 84 = .ok (.iastore, 1) := by decide +kernel
theorem dX0_keepWayTo_85 : decode cX0_keepWayTo 85 = .ok (.iload 6, 2) := by decide +kernel
theorem dX0_keepWayTo_87 : decode cX0_keepWayTo 87 = .ok (.ifCond .eq 13, 3) := by decide +kernel
theorem dX0_keepWayTo_90 : decode cX0_keepWayTo 90 = .ok (.aload_n 0, 1) := by decide +kernel
theorem dX0_keepWayTo_91 : decode cX0_keepWayTo 91 = .ok (.getfield 9, 3) := by decide +kernel
theorem dX0_keepWayTo_94 : decode cX0_keepWayTo 94 = .ok (.iload 5, 2) := by decide +kernel
theorem dX0_keepWayTo_96 : decode cX0_keepWayTo 96 = .ok (.iaload, 1) := by decide +kernel
theorem dX0_keepWayTo_97 : decode cX0_keepWayTo 97 = .ok (.goto 10, 3) := by decide +kernel
theorem dX0_keepWayTo_100 : decode cX0_keepWayTo 100 = .ok (.aload_n 0, 1) := by decide +kernel
theorem dX0_keepWayTo_101 : decode cX0_keepWayTo 101 = .ok (.getfield 15, 3) := by decide +kernel
theorem dX0_keepWayTo_104 : decode cX0_keepWayTo 104 = .ok (.iload 5, 2) := by decide +kernel
theorem dX0_keepWayTo_106 : decode cX0_keepWayTo 106 = .ok (.iaload, 1) := by decide +kernel
theorem dX0_keepWayTo_107 : decode cX0_keepWayTo 107 = .ok (.istore_n 3, 1) := by decide +kernel
theorem dX0_keepWayTo_108 : decode cX0_keepWayTo 108 = .ok (.iinc 4 (-1), 3) := by decide +kernel
theorem dX0_keepWayTo_111 : decode cX0_keepWayTo 111 = .ok (.goto (-104), 3) := by decide +kernel
theorem dX0_keepWayTo_114 : decode cX0_keepWayTo 114 = .ok (.return_, 1) := by decide +kernel
set_option maxRecDepth 20000 in
theorem ggX0_trySets_X0_regionOf : GoodIn wsX0_trySets wsX0_regionOf := goodIn_r _ [6, 7, 8, 9, 10, 11, 12, 5, 13, 1, 14, 15, 16, 17, 18, 19, 20, 21, 22, 23, 24, 25, 26, 27, 78, 79, 80, 81, 82, 83, 84, 85, 86, 87, 88, 89, 90, 91, 92, 93, 94, 95] (by decide +kernel) (by decide +kernel)
set_option maxRecDepth 20000 in
theorem gX0_trySets_X0_regionOf : GoodIn wsX0_trySets (wsV RX0 76 RX0 yX0_regionOf wsX0_regionOf) := goodIn_app (goodIn_of _ (by decide +kernel)) ggX0_trySets_X0_regionOf
set_option maxRecDepth 20000 in
theorem ggX0_trySets_X0_regionsWithSources : GoodIn wsX0_trySets wsX0_regionsWithSources := goodIn_r _ [31, 1, 32, 33, 34, 17, 35, 36, 14, 15, 16, 18, 19, 20, 21, 22, 23, 24, 25, 26, 27, 78, 79, 80, 81, 82, 83, 84, 85, 86, 87, 88, 89, 90, 91, 92, 93, 94, 95] (by decide +kernel) (by decide +kernel)
set_option maxRecDepth 20000 in
theorem gX0_trySets_X0_regionsWithSources : GoodIn wsX0_trySets (wsV RX0 79 RX0 yX0_regionsWithSources wsX0_regionsWithSources) := goodIn_app (goodIn_of _ (by decide +kernel)) ggX0_trySets_X0_regionsWithSources
set_option maxRecDepth 20000 in
theorem ggX0_trySets_X0_findRegionsOfValves : GoodIn wsX0_trySets wsX0_findRegionsOfValves := goodIn_r _ [40, 1, 41, 42, 43, 44, 45, 17, 46, 47, 48, 49, 50, 51, 52, 2, 3, 4, 5, 6, 7, 8, 9, 10, 11, 12, 13, 14, 15, 16, 18, 19, 20, 21, 22, 23, 24, 25, 26, 27, 53, 54, 55, 56, 57, 78, 79, 80, 81, 82, 83, 84, 85, 86, 87, 88, 89, 90, 91, 92, 93, 94, 95] (by decide +kernel) (by decide +kernel)
set_option maxRecDepth 20000 in
theorem gX0_trySets_X0_findRegionsOfValves : GoodIn wsX0_trySets (wsV RX0 82 RX0 yX0_findRegionsOfValves wsX0_findRegionsOfValves) := goodIn_app (goodIn_of _ (by decide +kernel)) ggX0_trySets_X0_findRegionsOfValves
set_option maxRecDepth 20000 in
theorem ggX0_trySets_X2_closable : GoodIn wsX0_trySets wsX2_closable := goodIn_r _ [61, 47, 20, 19, 84, 85, 86, 87, 88, 89, 90, 91, 92, 93, 94, 95] (by decide +kernel) (by decide +kernel)
set_option maxRecDepth 20000 in
theorem gX0_trySets_X2_closable : GoodIn wsX0_trySets (wsV RX0 64 RX2 yX2_closable wsX2_closable) := goodIn_app (goodIn_of _ (by decide +kernel)) ggX0_trySets_X2_closable
set_option maxRecDepth 20000 in
theorem ggX0_trySets_X2_valveCount : GoodIn wsX0_trySets wsX2_valveCount := goodIn_r _ [46, 47, 84, 85, 86, 87, 88, 89, 90, 91, 92, 93, 94, 95] (by decide +kernel) (by decide +kernel)
set_option maxRecDepth 20000 in
theorem gX0_trySets_X2_valveCount : GoodIn wsX0_trySets (wsV RX0 51 RX2 yX2_valveCount wsX2_valveCount) := goodIn_app (goodIn_of _ (by decide +kernel)) ggX0_trySets_X2_valveCount
set_option maxRecDepth 20000 in
theorem ggX0_trySets_X0_wetOver : GoodIn wsX0_trySets wsX0_wetOver := goodIn_r _ [65, 1, 41, 42, 43, 44, 45, 17, 46, 47, 66, 8, 67, 78, 79, 80, 81, 82, 83, 84, 85, 86, 87, 88, 89, 90, 91, 92, 93, 94, 95] (by decide +kernel) (by decide +kernel)
set_option maxRecDepth 20000 in
theorem gX0_trySets_X0_wetOver : GoodIn wsX0_trySets (wsV RX0 95 RX0 yX0_wetOver wsX0_wetOver) := goodIn_app (goodIn_of _ (by decide +kernel)) ggX0_trySets_X0_wetOver
set_option maxRecDepth 20000 in
theorem ggX0_trySets_X0_setBehind : GoodIn wsX0_trySets wsX0_setBehind := goodIn_r _ [70, 71, 72, 73, 74, 75, 76, 77] (by decide +kernel) (by decide +kernel)
set_option maxRecDepth 20000 in
theorem gX0_trySets_X0_setBehind : GoodIn wsX0_trySets (va_wsS RX0 98 yX0_setBehind wsX0_setBehind) := goodIn_app (goodIn_of _ (by decide +kernel)) ggX0_trySets_X0_setBehind
theorem dX0_trySets_0 : decode cX0_trySets 0 = .ok (.aload_n 0, 1) := by decide +kernel
theorem dX0_trySets_1 : decode cX0_trySets 1 = .ok (.iload_n 1, 1) := by decide +kernel
theorem dX0_trySets_2 : decode cX0_trySets 2 = .ok (.invokevirtual 76, 3) := by decide +kernel
theorem dX0_trySets_5 : decode cX0_trySets 5 = .ok (.istore_n 2, 1) := by decide +kernel
theorem dX0_trySets_6 : decode cX0_trySets 6 = .ok (.aload_n 0, 1) := by decide +kernel
theorem dX0_trySets_7 : decode cX0_trySets 7 = .ok (.invokevirtual 79, 3) := by decide +kernel
theorem dX0_trySets_10 : decode cX0_trySets 10 = .ok (.istore_n 3, 1) := by decide +kernel
theorem dX0_trySets_11 : decode cX0_trySets 11 = .ok (.iload_n 3, 1) := by decide +kernel
theorem dX0_trySets_12 : decode cX0_trySets 12 = .ok (.iload_n 2, 1) := by decide +kernel
theorem dX0_trySets_13 : decode cX0_trySets 13 = .ok (.iand, 1) := by decide +kernel
theorem dX0_trySets_14 : decode cX0_trySets 14 = .ok (.ifCond .eq 5, 3) := by decide +kernel
theorem dX0_trySets_17 : decode cX0_trySets 17 = .ok (.iconst (-1), 1) := by decide +kernel
theorem dX0_trySets_18 : decode cX0_trySets 18 = .ok (.ireturn, 1) := by decide +kernel
theorem dX0_trySets_19 : decode cX0_trySets 19 = .ok (.aload_n 0, 1) := by decide +kernel
theorem dX0_trySets_20 : decode cX0_trySets 20 = .ok (.invokevirtual 82, 3) := by decide +kernel
theorem dX0_trySets_23 : decode cX0_trySets 23 = .ok (.aload_n 0, 1) := by decide +kernel
theorem dX0_trySets_24 : decode cX0_trySets 24 = .ok (.getfield 27, 3) := by decide +kernel
theorem dX0_trySets_27 : decode cX0_trySets 27 = .ok (.invokevirtual 64, 3) := by decide +kernel
theorem dX0_trySets_30 : decode cX0_trySets 30 = .ok (.istore 4, 2) := by decide +kernel
theorem dX0_trySets_32 : decode cX0_trySets 32 = .ok (.iconst 1, 1) := by decide +kernel
theorem dX0_trySets_33 : decode cX0_trySets 33 = .ok (.aload_n 0, 1) := by decide +kernel
theorem dX0_trySets_34 : decode cX0_trySets 34 = .ok (.getfield 27, 3) := by decide +kernel
theorem dX0_trySets_37 : decode cX0_trySets 37 = .ok (.invokevirtual 51, 3) := by decide +kernel
theorem dX0_trySets_40 : decode cX0_trySets 40 = .ok (.ishl, 1) := by decide +kernel
theorem dX0_trySets_41 : decode cX0_trySets 41 = .ok (.istore 5, 2) := by decide +kernel
theorem dX0_trySets_43 : decode cX0_trySets 43 = .ok (.iconst 0, 1) := by decide +kernel
theorem dX0_trySets_44 : decode cX0_trySets 44 = .ok (.istore 6, 2) := by decide +kernel
theorem dX0_trySets_46 : decode cX0_trySets 46 = .ok (.iconst 0, 1) := by decide +kernel
theorem dX0_trySets_47 : decode cX0_trySets 47 = .ok (.istore 7, 2) := by decide +kernel
theorem dX0_trySets_49 : decode cX0_trySets 49 = .ok (.iload 7, 2) := by decide +kernel
theorem dX0_trySets_51 : decode cX0_trySets 51 = .ok (.iload 5, 2) := by decide +kernel
theorem dX0_trySets_53 : decode cX0_trySets 53 = .ok (.if_icmp .ge 60, 3) := by decide +kernel
theorem dX0_trySets_56 : decode cX0_trySets 56 = .ok (.iload 6, 2) := by decide +kernel
theorem dX0_trySets_58 : decode cX0_trySets 58 = .ok (.iload 4, 2) := by decide +kernel
theorem dX0_trySets_60 : decode cX0_trySets 60 = .ok (.iconst (-1), 1) := by decide +kernel
theorem dX0_trySets_61 : decode cX0_trySets 61 = .ok (.ixor, 1) := by decide +kernel
theorem dX0_trySets_62 : decode cX0_trySets 62 = .ok (.iand, 1) := by decide +kernel
theorem dX0_trySets_63 : decode cX0_trySets 63 = .ok (.ifCond .ne 7, 3) := by decide +kernel
theorem dX0_trySets_66 : decode cX0_trySets 66 = .ok (.iconst 1, 1) := by decide +kernel
theorem dX0_trySets_67 : decode cX0_trySets 67 = .ok (.goto 4, 3) := by decide +kernel
theorem dX0_trySets_70 : decode cX0_trySets 70 = .ok (.iconst 0, 1) := by decide +kernel
theorem dX0_trySets_71 : decode cX0_trySets 71 = .ok (.istore 8, 2) := by decide +kernel
theorem dX0_trySets_73 : decode cX0_trySets 73 = .ok (.iload 8, 2) := by decide +kernel
theorem dX0_trySets_75 : decode cX0_trySets 75 = .ok (.ifCond .eq 23, 3) := by decide +kernel
theorem dX0_trySets_78 : decode cX0_trySets 78 = .ok (.aload_n 0, 1) := by decide +kernel
theorem dX0_trySets_79 : decode cX0_trySets 79 = .ok (.iload 4, 2) := by decide +kernel
theorem dX0_trySets_81 : decode cX0_trySets 81 = .ok (.iload 6, 2) := by decide +kernel
theorem dX0_trySets_83 : decode cX0_trySets 83 = .ok (.iconst (-1), 1) := by decide +kernel
theorem dX0_trySets_84 : decode cX0_trySets 84 = .ok (.ixor, 1) := by decide +kernel
theorem dX0_trySets_85 : decode cX0_trySets 85 = .ok (.iand, 1) := by decide +kernel
theorem dX0_trySets_86 : decode cX0_trySets 86 = .ok (.iload_n 3, 1) := by decide +kernel
theorem dX0_trySets_87 : decode cX0_trySets 87 = .ok (.invokevirtual 95, 3) := by decide +kernel
theorem dX0_trySets_90 : decode cX0_trySets 90 = .ok (.iload_n 2, 1) := by decide +kernel
theorem dX0_trySets_91 : decode cX0_trySets 91 = .ok (.iand, 1) := by decide +kernel
theorem dX0_trySets_92 : decode cX0_trySets 92 = .ok (.ifCond .ne 6, 3) := by decide +kernel
theorem dX0_trySets_95 : decode cX0_trySets 95 = .ok (.iload 6, 2) := by decide +kernel
theorem dX0_trySets_97 : decode cX0_trySets 97 = .ok (.ireturn, 1) := by decide +kernel
theorem dX0_trySets_98 : decode cX0_trySets 98 = .ok (.iload 6, 2) := by decide +kernel
theorem dX0_trySets_100 : decode cX0_trySets 100 = .ok (.iload 5, 2) := by decide +kernel
theorem dX0_trySets_102 : decode cX0_trySets 102 = .ok (.invokestatic 98, 3) := by decide +kernel
theorem dX0_trySets_105 : decode cX0_trySets 105 = .ok (.istore 6, 2) := by decide +kernel
theorem dX0_trySets_107 : decode cX0_trySets 107 = .ok (.iinc 7 1, 3) := by decide +kernel
theorem dX0_trySets_110 : decode cX0_trySets 110 = .ok (.goto (-61), 3) := by decide +kernel
theorem dX0_trySets_113 : decode cX0_trySets 113 = .ok (.iconst (-1), 1) := by decide +kernel
theorem dX0_trySets_114 : decode cX0_trySets 114 = .ok (.ireturn, 1) := by decide +kernel
set_option maxRecDepth 20000 in
theorem ggX0_wetOver_X2_valveCount : GoodIn wsX0_wetOver wsX2_valveCount := goodIn_r _ [8, 9, 19, 20, 21, 22, 23, 24, 25, 26, 27, 28, 29, 30] (by decide +kernel) (by decide +kernel)
set_option maxRecDepth 20000 in
theorem gX0_wetOver_X2_valveCount : GoodIn wsX0_wetOver (wsV RX0 51 RX2 yX2_valveCount wsX2_valveCount) := goodIn_app (goodIn_of _ (by decide +kernel)) ggX0_wetOver_X2_valveCount
set_option maxRecDepth 20000 in
theorem ggX0_wetOver_X5_hasBit : GoodIn wsX0_wetOver wsX5_hasBit := goodIn_r _ [12] (by decide +kernel) (by decide +kernel)
set_option maxRecDepth 20000 in
theorem gX0_wetOver_X5_hasBit_n57 : GoodIn wsX0_wetOver (wsX5_hasBit) := ggX0_wetOver_X5_hasBit
theorem dX0_wetOver_0 : decode cX0_wetOver 0 = .ok (.iload_n 2, 1) := by decide +kernel
theorem dX0_wetOver_1 : decode cX0_wetOver 1 = .ok (.istore_n 3, 1) := by decide +kernel
theorem dX0_wetOver_2 : decode cX0_wetOver 2 = .ok (.iconst 0, 1) := by decide +kernel
theorem dX0_wetOver_3 : decode cX0_wetOver 3 = .ok (.istore 4, 2) := by decide +kernel
theorem dX0_wetOver_5 : decode cX0_wetOver 5 = .ok (.iload 4, 2) := by decide +kernel
theorem dX0_wetOver_7 : decode cX0_wetOver 7 = .ok (.bipush 12, 2) := by decide +kernel
theorem dX0_wetOver_9 : decode cX0_wetOver 9 = .ok (.if_icmp .ge 80, 3) := by decide +kernel
theorem dX0_wetOver_12 : decode cX0_wetOver 12 = .ok (.iload_n 3, 1) := by decide +kernel
theorem dX0_wetOver_13 : decode cX0_wetOver 13 = .ok (.istore 5, 2) := by decide +kernel
theorem dX0_wetOver_15 : decode cX0_wetOver 15 = .ok (.iconst 0, 1) := by decide +kernel
theorem dX0_wetOver_16 : decode cX0_wetOver 16 = .ok (.istore 6, 2) := by decide +kernel
theorem dX0_wetOver_18 : decode cX0_wetOver 18 = .ok (.iload 6, 2) := by decide +kernel
theorem dX0_wetOver_20 : decode cX0_wetOver 20 = .ok (.aload_n 0, 1) := by decide +kernel
theorem dX0_wetOver_21 : decode cX0_wetOver 21 = .ok (.getfield 27, 3) := by decide +kernel
theorem dX0_wetOver_24 : decode cX0_wetOver 24 = .ok (.invokevirtual 51, 3) := by decide +kernel
theorem dX0_wetOver_27 : decode cX0_wetOver 27 = .ok (.if_icmp .ge 47, 3) := by decide +kernel
theorem dX0_wetOver_30 : decode cX0_wetOver 30 = .ok (.aload_n 0, 1) := by decide +kernel
theorem dX0_wetOver_31 : decode cX0_wetOver 31 = .ok (.getfield 9, 3) := by decide +kernel
theorem dX0_wetOver_34 : decode cX0_wetOver 34 = .ok (.iload 6, 2) := by decide +kernel
theorem dX0_wetOver_36 : decode cX0_wetOver 36 = .ok (.iaload, 1) := by decide +kernel
theorem dX0_wetOver_37 : decode cX0_wetOver 37 = .ok (.aload_n 0, 1) := by decide +kernel
theorem dX0_wetOver_38 : decode cX0_wetOver 38 = .ok (.getfield 15, 3) := by decide +kernel
theorem dX0_wetOver_41 : decode cX0_wetOver 41 = .ok (.iload 6, 2) := by decide +kernel
theorem dX0_wetOver_43 : decode cX0_wetOver 43 = .ok (.iaload, 1) := by decide +kernel
theorem dX0_wetOver_44 : decode cX0_wetOver 44 = .ok (.ior, 1) := by decide +kernel
theorem dX0_wetOver_45 : decode cX0_wetOver 45 = .ok (.istore 7, 2) := by decide +kernel
theorem dX0_wetOver_47 : decode cX0_wetOver 47 = .ok (.iload_n 1, 1) := by decide +kernel
theorem dX0_wetOver_48 : decode cX0_wetOver 48 = .ok (.iload 6, 2) := by decide +kernel
theorem dX0_wetOver_50 : decode cX0_wetOver 50 = .ok (.invokestatic 57, 3) := by decide +kernel
theorem dX0_wetOver_53 : decode cX0_wetOver 53 = .ok (.ifCond .eq 15, 3) := by decide +kernel
theorem dX0_wetOver_56 : decode cX0_wetOver 56 = .ok (.iload_n 3, 1) := by decide +kernel
theorem dX0_wetOver_57 : decode cX0_wetOver 57 = .ok (.iload 7, 2) := by decide +kernel
theorem dX0_wetOver_59 : decode cX0_wetOver 59 = .ok (.iand, 1) := by decide +kernel
theorem dX0_wetOver_60 : decode cX0_wetOver 60 = .ok (.ifCond .eq 8, 3) := by decide +kernel
theorem dX0_wetOver_63 : decode cX0_wetOver 63 = .ok (.iload_n 3, 1) := by decide +kernel
theorem dX0_wetOver_64 : decode cX0_wetOver 64 = .ok (.iload 7, 2) := by decide +kernel
theorem dX0_wetOver_66 : decode cX0_wetOver 66 = .ok (.ior, 1) := by decide +kernel
theorem dX0_wetOver_67 : decode cX0_wetOver 67 = .ok (.istore_n 3, 1) := by decide +kernel
theorem dX0_wetOver_68 : decode cX0_wetOver 68 = .ok (.iinc 6 1, 3) := by decide +kernel
theorem dX0_wetOver_71 : decode cX0_wetOver 71 = .ok (.goto (-53), 3) := by decide +kernel
theorem dX0_wetOver_74 : decode cX0_wetOver 74 = .ok (.iload_n 3, 1) := by decide +kernel
theorem dX0_wetOver_75 : decode cX0_wetOver 75 = .ok (.iload 5, 2) := by decide +kernel
theorem dX0_wetOver_77 : decode cX0_wetOver 77 = .ok (.if_icmp .ne 6, 3) := by decide +kernel
theorem dX0_wetOver_80 : decode cX0_wetOver 80 = .ok (.goto 9, 3) := by decide +kernel
theorem dX0_wetOver_83 : decode cX0_wetOver 83 = .ok (.iinc 4 1, 3) := by decide +kernel
theorem dX0_wetOver_86 : decode cX0_wetOver 86 = .ok (.goto (-81), 3) := by decide +kernel
theorem dX0_wetOver_89 : decode cX0_wetOver 89 = .ok (.iload_n 3, 1) := by decide +kernel
theorem dX0_wetOver_90 : decode cX0_wetOver 90 = .ok (.ireturn, 1) := by decide +kernel
set_option maxRecDepth 20000 in
theorem ggX0_setBehind_J6_bitCount_0f7a4 : GoodIn wsX0_setBehind wsJ6_bitCount_0f7a4 := goodIn_r _ [4, 5, 6, 7] (by decide +kernel) (by decide +kernel)
set_option maxRecDepth 20000 in
theorem gX0_setBehind_J6_bitCount_0f7a4 : GoodIn wsX0_setBehind (va_wsS RX0 101 yJ6_bitCount_0f7a4 wsJ6_bitCount_0f7a4) := goodIn_app (goodIn_of _ (by decide +kernel)) ggX0_setBehind_J6_bitCount_0f7a4
theorem dX0_setBehind_0 : decode cX0_setBehind 0 = .ok (.iload_n 0, 1) := by decide +kernel
theorem dX0_setBehind_1 : decode cX0_setBehind 1 = .ok (.iload_n 0, 1) := by decide +kernel
theorem dX0_setBehind_2 : decode cX0_setBehind 2 = .ok (.ineg, 1) := by decide +kernel
theorem dX0_setBehind_3 : decode cX0_setBehind 3 = .ok (.iand, 1) := by decide +kernel
theorem dX0_setBehind_4 : decode cX0_setBehind 4 = .ok (.istore_n 2, 1) := by decide +kernel
theorem dX0_setBehind_5 : decode cX0_setBehind 5 = .ok (.iload_n 2, 1) := by decide +kernel
theorem dX0_setBehind_6 : decode cX0_setBehind 6 = .ok (.ifCond .ne 5, 3) := by decide +kernel
theorem dX0_setBehind_9 : decode cX0_setBehind 9 = .ok (.iconst 1, 1) := by decide +kernel
theorem dX0_setBehind_10 : decode cX0_setBehind 10 = .ok (.ireturn, 1) := by decide +kernel
theorem dX0_setBehind_11 : decode cX0_setBehind 11 = .ok (.iload_n 0, 1) := by decide +kernel
theorem dX0_setBehind_12 : decode cX0_setBehind 12 = .ok (.iload_n 2, 1) := by decide +kernel
theorem dX0_setBehind_13 : decode cX0_setBehind 13 = .ok (.iadd, 1) := by decide +kernel
theorem dX0_setBehind_14 : decode cX0_setBehind 14 = .ok (.istore_n 3, 1) := by decide +kernel
theorem dX0_setBehind_15 : decode cX0_setBehind 15 = .ok (.iload_n 3, 1) := by decide +kernel
theorem dX0_setBehind_16 : decode cX0_setBehind 16 = .ok (.iload_n 0, 1) := by decide +kernel
theorem dX0_setBehind_17 : decode cX0_setBehind 17 = .ok (.iload_n 3, 1) := by decide +kernel
theorem dX0_setBehind_18 : decode cX0_setBehind 18 = .ok (.ixor, 1) := by decide +kernel
theorem dX0_setBehind_19 : decode cX0_setBehind 19 = .ok (.iload_n 2, 1) := by decide +kernel
theorem dX0_setBehind_20 : decode cX0_setBehind 20 = .ok (.idiv, 1) := by decide +kernel
theorem dX0_setBehind_21 : decode cX0_setBehind 21 = .ok (.iconst 2, 1) := by decide +kernel
theorem dX0_setBehind_22 : decode cX0_setBehind 22 = .ok (.ishr, 1) := by decide +kernel
theorem dX0_setBehind_23 : decode cX0_setBehind 23 = .ok (.ior, 1) := by decide +kernel
theorem dX0_setBehind_24 : decode cX0_setBehind 24 = .ok (.istore 4, 2) := by decide +kernel
theorem dX0_setBehind_26 : decode cX0_setBehind 26 = .ok (.iload 4, 2) := by decide +kernel
theorem dX0_setBehind_28 : decode cX0_setBehind 28 = .ok (.iload_n 1, 1) := by decide +kernel
theorem dX0_setBehind_29 : decode cX0_setBehind 29 = .ok (.if_icmp .ge 8, 3) := by decide +kernel
theorem dX0_setBehind_32 : decode cX0_setBehind 32 = .ok (.iload 4, 2) := by decide +kernel
theorem dX0_setBehind_34 : decode cX0_setBehind 34 = .ok (.goto 11, 3) := by decide +kernel
theorem dX0_setBehind_37 : decode cX0_setBehind 37 = .ok (.iconst 2, 1) := by decide +kernel
theorem dX0_setBehind_38 : decode cX0_setBehind 38 = .ok (.iload_n 0, 1) := by decide +kernel
theorem dX0_setBehind_39 : decode cX0_setBehind 39 = .ok (.invokestatic 101, 3) := by decide +kernel
theorem dX0_setBehind_42 : decode cX0_setBehind 42 = .ok (.ishl, 1) := by decide +kernel
theorem dX0_setBehind_43 : decode cX0_setBehind 43 = .ok (.iconst 1, 1) := by decide +kernel
theorem dX0_setBehind_44 : decode cX0_setBehind 44 = .ok (.isub, 1) := by decide +kernel
theorem dX0_setBehind_45 : decode cX0_setBehind 45 = .ok (.ireturn, 1) := by decide +kernel
theorem dX1_init_0 : decode cX1_init 0 = .ok (.aload_n 0, 1) := by decide +kernel
theorem dX1_init_1 : decode cX1_init 1 = .ok (.invokespecial 3, 3) := by decide +kernel
theorem dX1_init_4 : decode cX1_init 4 = .ok (.aload_n 0, 1) := by decide +kernel
theorem dX1_init_5 : decode cX1_init 5 = .ok (.bipush 12, 2) := by decide +kernel
theorem dX1_init_7 : decode cX1_init 7 = .ok (.newarray .int, 2) := by decide +kernel
theorem dX1_init_9 : decode cX1_init 9 = .ok (.putfield 9, 3) := by decide +kernel
theorem dX1_init_12 : decode cX1_init 12 = .ok (.aload_n 0, 1) := by decide +kernel
theorem dX1_init_13 : decode cX1_init 13 = .ok (.aload_n 1, 1) := by decide +kernel
theorem dX1_init_14 : decode cX1_init 14 = .ok (.putfield 15, 3) := by decide +kernel
theorem dX1_init_17 : decode cX1_init 17 = .ok (.return_, 1) := by decide +kernel
set_option maxRecDepth 20000 in
theorem ggX1_distanceOf_X1_measure : GoodIn wsX1_distanceOf wsX1_measure := goodIn_r _ [7, 1, 8, 2, 9, 10, 11, 12, 13, 14, 15, 16, 17, 18, 19, 20, 21, 22, 23, 24, 25, 26, 27, 28, 29, 30, 31, 32, 33, 34, 35, 36, 37, 38, 39, 40, 6, 41, 42, 43, 44, 45, 46, 47, 48, 49, 50, 51, 52, 53, 54, 55, 56, 57, 58, 59, 60, 61, 62, 63, 64, 65, 66, 67, 68, 69] (by decide +kernel) (by decide +kernel)
set_option maxRecDepth 20000 in
theorem gX1_distanceOf_X1_measure : GoodIn wsX1_distanceOf (wsV RX1 19 RX1 yX1_measure wsX1_measure) := goodIn_app (goodIn_of _ (by decide +kernel)) ggX1_distanceOf_X1_measure
theorem dX1_distanceOf_0 : decode cX1_distanceOf 0 = .ok (.aload_n 0, 1) := by decide +kernel
theorem dX1_distanceOf_1 : decode cX1_distanceOf 1 = .ok (.invokevirtual 19, 3) := by decide +kernel
theorem dX1_distanceOf_4 : decode cX1_distanceOf 4 = .ok (.aload_n 0, 1) := by decide +kernel
theorem dX1_distanceOf_5 : decode cX1_distanceOf 5 = .ok (.getfield 9, 3) := by decide +kernel
theorem dX1_distanceOf_8 : decode cX1_distanceOf 8 = .ok (.iload_n 1, 1) := by decide +kernel
theorem dX1_distanceOf_9 : decode cX1_distanceOf 9 = .ok (.iaload, 1) := by decide +kernel
theorem dX1_distanceOf_10 : decode cX1_distanceOf 10 = .ok (.ldc 22, 2) := by decide +kernel
theorem dX1_distanceOf_12 : decode cX1_distanceOf 12 = .ok (.if_icmp .ge 12, 3) := by decide +kernel
theorem dX1_distanceOf_15 : decode cX1_distanceOf 15 = .ok (.aload_n 0, 1) := by decide +kernel
theorem dX1_distanceOf_16 : decode cX1_distanceOf 16 = .ok (.getfield 9, 3) := by decide +kernel
theorem dX1_distanceOf_19 : decode cX1_distanceOf 19 = .ok (.iload_n 1, 1) := by decide +kernel
theorem dX1_distanceOf_20 : decode cX1_distanceOf 20 = .ok (.iaload, 1) := by decide +kernel
theorem dX1_distanceOf_21 : decode cX1_distanceOf 21 = .ok (.goto 4, 3) := by decide +kernel
theorem dX1_distanceOf_24 : decode cX1_distanceOf 24 = .ok (.iconst (-1), 1) := by decide +kernel
theorem dX1_distanceOf_25 : decode cX1_distanceOf 25 = .ok (.ireturn, 1) := by decide +kernel
set_option maxRecDepth 20000 in
theorem ggX1_measure_X2_sources : GoodIn wsX1_measure wsX2_sources := goodIn_r _ [8, 9, 54, 55, 56, 57, 58, 59, 60, 61, 62, 63, 64, 65] (by decide +kernel) (by decide +kernel)
set_option maxRecDepth 20000 in
theorem gX1_measure_X2_sources : GoodIn wsX1_measure (wsV RX1 23 RX2 yX2_sources wsX2_sources) := goodIn_app (goodIn_of _ (by decide +kernel)) ggX1_measure_X2_sources
set_option maxRecDepth 20000 in
theorem ggX1_measure_X5_hasBit : GoodIn wsX1_measure wsX5_hasBit := goodIn_r _ [12] (by decide +kernel) (by decide +kernel)
set_option maxRecDepth 20000 in
theorem gX1_measure_X5_hasBit_n29 : GoodIn wsX1_measure (wsX5_hasBit) := ggX1_measure_X5_hasBit
set_option maxRecDepth 20000 in
theorem ggX1_measure_X2_nodeCount : GoodIn wsX1_measure wsX2_nodeCount := goodIn_r _ [16, 17, 54, 55, 56, 57, 58, 59, 60, 61, 62, 63, 64, 65] (by decide +kernel) (by decide +kernel)
set_option maxRecDepth 20000 in
theorem gX1_measure_X2_nodeCount : GoodIn wsX1_measure (wsV RX1 33 RX2 yX2_nodeCount wsX2_nodeCount) := goodIn_app (goodIn_of _ (by decide +kernel)) ggX1_measure_X2_nodeCount
set_option maxRecDepth 20000 in
theorem ggX1_measure_X2_pipeCount : GoodIn wsX1_measure wsX2_pipeCount := goodIn_r _ [21, 22, 54, 55, 56, 57, 58, 59, 60, 61, 62, 63, 64, 65] (by decide +kernel) (by decide +kernel)
set_option maxRecDepth 20000 in
theorem gX1_measure_X2_pipeCount : GoodIn wsX1_measure (wsV RX1 36 RX2 yX2_pipeCount wsX2_pipeCount) := goodIn_app (goodIn_of _ (by decide +kernel)) ggX1_measure_X2_pipeCount
set_option maxRecDepth 20000 in
theorem ggX1_measure_X2_isShutAt : GoodIn wsX1_measure wsX2_isShutAt := goodIn_r _ [26, 27, 28, 29, 30, 7, 31, 32, 54, 55, 56, 57, 58, 59, 60, 61, 62, 63, 64, 65] (by decide +kernel) (by decide +kernel)
set_option maxRecDepth 20000 in
theorem gX1_measure_X2_isShutAt : GoodIn wsX1_measure (wsV RX1 39 RX2 yX2_isShutAt wsX2_isShutAt) := goodIn_app (goodIn_of _ (by decide +kernel)) ggX1_measure_X2_isShutAt
set_option maxRecDepth 20000 in
theorem ggX1_measure_X1_shorten : GoodIn wsX1_measure wsX1_shorten := goodIn_r _ [37, 2, 1, 38, 39, 40, 41, 42, 43, 44, 7, 45, 46, 47, 48, 49, 50, 51, 52, 53, 54, 55, 56, 57, 58, 59, 60, 61, 62, 63, 64, 65] (by decide +kernel) (by decide +kernel)
set_option maxRecDepth 20000 in
theorem gX1_measure_X1_shorten : GoodIn wsX1_measure (wsV RX1 42 RX1 yX1_shorten wsX1_shorten) := goodIn_app (goodIn_of _ (by decide +kernel)) ggX1_measure_X1_shorten
theorem dX1_measure_0 : decode cX1_measure 0 = .ok (.iconst 0, 1) := by decide +kernel
theorem dX1_measure_1 : decode cX1_measure 1 = .ok (.istore_n 1, 1) := by decide +kernel
theorem dX1_measure_2 : decode cX1_measure 2 = .ok (.iload_n 1, 1) := by decide +kernel
theorem dX1_measure_3 : decode cX1_measure 3 = .ok (.bipush 12, 2) := by decide +kernel
theorem dX1_measure_5 : decode cX1_measure 5 = .ok (.if_icmp .ge 35, 3) := by decide +kernel
theorem dX1_measure_8 : decode cX1_measure 8 = .ok (.aload_n 0, 1) := by decide +kernel
theorem dX1_measure_9 : decode cX1_measure 9 = .ok (.getfield 9, 3) := by decide +kernel
theorem dX1_measure_12 : decode cX1_measure 12 = .ok (.iload_n 1, 1) := by decide +kernel
theorem dX1_measure_13 : decode cX1_measure 13 = .ok (.aload_n 0, 1) := by decide +kernel
theorem dX1_measure_14 : decode cX1_measure 14 = .ok (.getfield 15, 3) := by decide +kernel
theorem dX1_measure_17 : decode cX1_measure 17 = .ok (.invokevirtual 23, 3) := by decide +kernel
theorem dX1_measure_20 : decode cX1_measure 20 = .ok (.iload_n 1, 1) := by decide +kernel
theorem dX1_measure_21 : decode cX1_measure 21 = .ok (.invokestatic 29, 3) := by decide +kernel
theorem dX1_measure_24 : decode cX1_measure 24 = .ok (.ifCond .eq 7, 3) := by decide +kernel
theorem dX1_measure_27 : decode cX1_measure 27 = .ok (.iconst 0, 1) := by decide +kernel
theorem dX1_measure_28 : decode cX1_measure 28 = .ok (.goto 5, 3) := by decide +kernel
theorem dX1_measure_31 : decode cX1_measure 31 = .ok (.ldc 22, 2) := by decide +kernel
theorem dX1_measure_33 : decode cX1_measure 33 = .ok (.iastore, 1) := by decide +kernel
theorem dX1_measure_34 : decode cX1_measure 34 = .ok (.iinc 1 1, 3) := by decide +kernel
theorem dX1_measure_37 : decode cX1_measure 37 = .ok (.goto (-35), 3) := by decide +kernel
theorem dX1_measure_40 : decode cX1_measure 40 = .ok (.iconst 1, 1) := by decide +kernel
theorem dX1_measure_41 : decode cX1_measure 41 = .ok (.istore_n 1, 1) := by decide +kernel
theorem dX1_measure_42 : decode cX1_measure 42 = .ok (.iload_n 1, 1) := by decide +kernel
theorem dX1_measure_43 : decode cX1_measure 43 = .ok (.aload_n 0, 1) := by decide +kernel
theorem dX1_measure_44 : decode cX1_measure 44 = .ok (.getfield 15, 3) := by decide +kernel
theorem dX1_measure_47 : decode cX1_measure 47 = .ok (.invokevirtual 33, 3) := by decide +kernel
theorem dX1_measure_50 : decode cX1_measure 50 = .ok (.if_icmp .ge 57, 3) := by decide +kernel
theorem dX1_measure_53 : decode cX1_measure 53 = .ok (.iconst 0, 1) := by decide +kernel
theorem dX1_measure_54 : decode cX1_measure 54 = .ok (.istore_n 2, 1) := by decide +kernel
theorem dX1_measure_55 : decode cX1_measure 55 = .ok (.iload_n 2, 1) := by decide +kernel
theorem dX1_measure_56 : decode cX1_measure 56 = .ok (.aload_n 0, 1) := by decide +kernel
theorem dX1_measure_57 : decode cX1_measure 57 = .ok (.getfield 15, 3) := by decide +kernel
theorem dX1_measure_60 : decode cX1_measure 60 = .ok (.invokevirtual 36, 3) := by decide +kernel
theorem dX1_measure_63 : decode cX1_measure 63 = .ok (.if_icmp .ge 38, 3) := by decide +kernel
theorem dX1_measure_66 : decode cX1_measure 66 = .ok (.aload_n 0, 1) := by decide +kernel
theorem dX1_measure_67 : decode cX1_measure 67 = .ok (.getfield 15, 3) := by decide +kernel
theorem dX1_measure_70 : decode cX1_measure 70 = .ok (.iload_n 2, 1) := by decide +kernel
theorem dX1_measure_71 : decode cX1_measure 71 = .ok (.iconst 0, 1) := by decide +kernel
theorem dX1_measure_72 : decode cX1_measure 72 = .ok (.invokevirtual 39, 3) := by decide +kernel
theorem dX1_measure_75 : decode cX1_measure 75 = .ok (.ifCond .ne 20, 3) := by decide +kernel
theorem dX1_measure_78 : decode cX1_measure 78 = .ok (.aload_n 0, 1) := by decide +kernel
theorem dX1_measure_79 : decode cX1_measure 79 = .ok (.getfield 15, 3) := by decide +kernel
theorem dX1_measure_82 : decode cX1_measure 82 = .ok (.iload_n 2, 1) := by decide +kernel
theorem dX1_measure_83 : decode cX1_measure 83 = .ok (.iconst 1, 1) := by decide +kernel
theorem dX1_measure_84 : decode cX1_measure 84 = .ok (.invokevirtual 39, 3) := by decide +kernel
theorem dX1_measure_87 : decode cX1_measure 87 = .ok (.ifCond .ne 8, 3) := by decide +kernel
theorem dX1_measure_90 : decode cX1_measure 90 = .ok (.aload_n 0, 1) := by decide +kernel
theorem dX1_measure_91 : decode cX1_measure 91 = .ok (.iload_n 2, 1) := by decide +kernel
theorem dX1_measure_92 : decode cX1_measure 92 = .ok (.invokevirtual 42, 3) := by decide +kernel
theorem dX1_measure_95 : decode cX1_measure 95 = .ok (.iinc 2 1, 3) := by decide +kernel
theorem dX1_measure_98 : decode cX1_measure 98 = .ok (.goto (-43), 3) := by decide +kernel
theorem dX1_measure_101 : decode cX1_measure 101 = .ok (.iinc 1 1, 3) := by decide +kernel
theorem dX1_measure_104 : decode cX1_measure 104 = .ok (.goto (-62), 3) := by decide +kernel
theorem dX1_measure_107 : decode cX1_measure 107 = .ok (.return_, 1) := by decide +kernel
set_option maxRecDepth 20000 in
theorem ggX1_shorten_X2_nodeAt : GoodIn wsX1_shorten wsX2_nodeAt := goodIn_r _ [11, 12, 20, 21, 22, 23, 24, 25, 26, 27, 28, 29, 30, 31] (by decide +kernel) (by decide +kernel)
set_option maxRecDepth 20000 in
theorem gX1_shorten_X2_nodeAt : GoodIn wsX1_shorten (wsV RX1 46 RX2 yX2_nodeAt wsX2_nodeAt) := goodIn_app (goodIn_of _ (by decide +kernel)) ggX1_shorten_X2_nodeAt
set_option maxRecDepth 20000 in
theorem ggX1_shorten_X2_lengthOf : GoodIn wsX1_shorten wsX2_lengthOf := goodIn_r _ [16, 17, 20, 21, 22, 23, 24, 25, 26, 27, 28, 29, 30, 31] (by decide +kernel) (by decide +kernel)
set_option maxRecDepth 20000 in
theorem gX1_shorten_X2_lengthOf : GoodIn wsX1_shorten (wsV RX1 50 RX2 yX2_lengthOf wsX2_lengthOf) := goodIn_app (goodIn_of _ (by decide +kernel)) ggX1_shorten_X2_lengthOf
theorem dX1_shorten_0 : decode cX1_shorten 0 = .ok (.aload_n 0, 1) := by decide +kernel
theorem dX1_shorten_1 : decode cX1_shorten 1 = .ok (.getfield 15, 3) := by decide +kernel
theorem dX1_shorten_4 : decode cX1_shorten 4 = .ok (.iload_n 1, 1) := by decide +kernel
theorem dX1_shorten_5 : decode cX1_shorten 5 = .ok (.iconst 0, 1) := by decide +kernel
theorem dX1_shorten_6 : decode cX1_shorten 6 = .ok (.invokevirtual 46, 3) := by decide +kernel
theorem dX1_shorten_9 : decode cX1_shorten 9 = .ok (.istore_n 2, 1) := by decide +kernel
theorem dX1_shorten_10 : decode cX1_shorten 10 = .ok (.aload_n 0, 1) := by decide +kernel
theorem dX1_shorten_11 : decode cX1_shorten 11 = .ok (.getfield 15, 3) := by decide +kernel
theorem dX1_shorten_14 : decode cX1_shorten 14 = .ok (.iload_n 1, 1) := by decide +kernel
theorem dX1_shorten_15 : decode cX1_shorten 15 = .ok (.iconst 1, 1) := by decide +kernel
theorem dX1_shorten_16 : decode cX1_shorten 16 = .ok (.invokevirtual 46, 3) := by decide +kernel
theorem dX1_shorten_19 : decode cX1_shorten 19 = .ok (.istore_n 3, 1) := by decide +kernel
theorem dX1_shorten_20 : decode cX1_shorten 20 = .ok (.aload_n 0, 1) := by decide +kernel
theorem dX1_shorten_21 : decode cX1_shorten 21 = .ok (.getfield 15, 3) := by decide +kernel
theorem dX1_shorten_24 : decode cX1_shorten 24 = .ok (.iload_n 1, 1) := by decide +kernel
theorem dX1_shorten_25 : decode cX1_shorten 25 = .ok (.invokevirtual 50, 3) := by decide +kernel
theorem dX1_shorten_28 : decode cX1_shorten 28 = .ok (.istore 4, 2) := by decide +kernel
theorem dX1_shorten_30 : decode cX1_shorten 30 = .ok (.aload_n 0, 1) := by decide +kernel
theorem dX1_shorten_31 : decode cX1_shorten 31 = .ok (.getfield 9, 3) := by decide +kernel
theorem dX1_shorten_34 : decode cX1_shorten 34 = .ok (.iload_n 3, 1) := by decide +kernel
theorem dX1_shorten_35 : decode cX1_shorten 35 = .ok (.aload_n 0, 1) := by decide +kernel
theorem dX1_shorten_36 : decode cX1_shorten 36 = .ok (.getfield 9, 3) := by decide +kernel
theorem dX1_shorten_39 : decode cX1_shorten 39 = .ok (.iload_n 3, 1) := by decide +kernel
theorem dX1_shorten_40 : decode cX1_shorten 40 = .ok (.iaload, 1) := by decide +kernel
theorem dX1_shorten_41 : decode cX1_shorten 41 = .ok (.aload_n 0, 1) := by decide +kernel
theorem dX1_shorten_42 : decode cX1_shorten 42 = .ok (.getfield 9, 3) := by decide +kernel
theorem dX1_shorten_45 : decode cX1_shorten 45 = .ok (.iload_n 2, 1) := by decide +kernel
theorem dX1_shorten_46 : decode cX1_shorten 46 = .ok (.iaload, 1) := by decide +kernel
theorem dX1_shorten_47 : decode cX1_shorten 47 = .ok (.iload 4, 2) := by decide +kernel
theorem dX1_shorten_49 : decode cX1_shorten 49 = .ok (.iadd, 1) := by decide +kernel
theorem dX1_shorten_50 : decode cX1_shorten 50 = .ok (.invokestatic 54, 3) := by decide +kernel
theorem dX1_shorten_53 : decode cX1_shorten 53 = .ok (.iastore, 1) := by decide +kernel
theorem dX1_shorten_54 : decode cX1_shorten 54 = .ok (.aload_n 0, 1) := by decide +kernel
theorem dX1_shorten_55 : decode cX1_shorten 55 = .ok (.getfield 9, 3) := by decide +kernel
theorem dX1_shorten_58 : decode cX1_shorten 58 = .ok (.iload_n 2, 1) := by decide +kernel
theorem dX1_shorten_59 : decode cX1_shorten 59 = .ok (.aload_n 0, 1) := by decide +kernel
theorem dX1_shorten_60 : decode cX1_shorten 60 = .ok (.getfield 9, 3) := by decide +kernel
theorem dX1_shorten_63 : decode cX1_shorten 63 = .ok (.iload_n 2, 1) := by decide +kernel
theorem dX1_shorten_64 : decode cX1_shorten 64 = .ok (.iaload, 1) := by decide +kernel
theorem dX1_shorten_65 : decode cX1_shorten 65 = .ok (.aload_n 0, 1) := by decide +kernel
theorem dX1_shorten_66 : decode cX1_shorten 66 = .ok (.getfield 9, 3) := by decide +kernel
theorem dX1_shorten_69 : decode cX1_shorten 69 = .ok (.iload_n 3, 1) := by decide +kernel
theorem dX1_shorten_70 : decode cX1_shorten 70 = .ok (.iaload, 1) := by decide +kernel
theorem dX1_shorten_71 : decode cX1_shorten 71 = .ok (.iload 4, 2) := by decide +kernel
theorem dX1_shorten_73 : decode cX1_shorten 73 = .ok (.iadd, 1) := by decide +kernel
theorem dX1_shorten_74 : decode cX1_shorten 74 = .ok (.invokestatic 54, 3) := by decide +kernel
theorem dX1_shorten_77 : decode cX1_shorten 77 = .ok (.iastore, 1) := by decide +kernel
theorem dX1_shorten_78 : decode cX1_shorten 78 = .ok (.return_, 1) := by decide +kernel
set_option maxRecDepth 20000 in
theorem ggX1_pipeAndEndAt_X1_measure : GoodIn wsX1_pipeAndEndAt wsX1_measure := goodIn_r _ [6, 7, 1, 8, 9, 10, 11, 12, 13, 14, 15, 16, 17, 18, 19, 20, 21, 22, 23, 24, 25, 26, 27, 28, 29, 30, 31, 32, 33, 34, 35, 36, 37, 38, 39, 40, 5, 41, 42, 43, 44, 45, 46, 47, 48, 49, 50, 51, 52, 53, 54, 55, 76, 77, 78, 79, 80, 81, 82, 83, 84, 85, 86, 87, 88, 89] (by decide +kernel) (by decide +kernel)
set_option maxRecDepth 20000 in
theorem gX1_pipeAndEndAt_X1_measure : GoodIn wsX1_pipeAndEndAt (wsV RX1 19 RX1 yX1_measure wsX1_measure) := goodIn_app (goodIn_of _ (by decide +kernel)) ggX1_pipeAndEndAt_X1_measure
set_option maxRecDepth 20000 in
theorem ggX1_pipeAndEndAt_X2_pipeCount : GoodIn wsX1_pipeAndEndAt wsX2_pipeCount := goodIn_r _ [26, 27, 78, 79, 80, 81, 82, 83, 84, 85, 86, 87, 88, 89] (by decide +kernel) (by decide +kernel)
set_option maxRecDepth 20000 in
theorem gX1_pipeAndEndAt_X2_pipeCount : GoodIn wsX1_pipeAndEndAt (wsV RX1 36 RX2 yX2_pipeCount wsX2_pipeCount) := goodIn_app (goodIn_of _ (by decide +kernel)) ggX1_pipeAndEndAt_X2_pipeCount
set_option maxRecDepth 20000 in
theorem ggX1_pipeAndEndAt_X1_isFlushed : GoodIn wsX1_pipeAndEndAt wsX1_isFlushed := goodIn_r _ [59, 8, 60, 61, 62, 5, 63, 64, 65, 66, 67, 1, 7, 28, 29, 30, 12, 31, 32, 33, 34, 35, 36, 37, 46, 47, 48, 49, 50, 76, 77, 78, 79, 80, 81, 82, 83, 84, 85, 86, 87, 88, 89] (by decide +kernel) (by decide +kernel)
set_option maxRecDepth 20000 in
theorem gX1_pipeAndEndAt_X1_isFlushed : GoodIn wsX1_pipeAndEndAt (wsV RX1 59 RX1 yX1_isFlushed wsX1_isFlushed) := goodIn_app (goodIn_of _ (by decide +kernel)) ggX1_pipeAndEndAt_X1_isFlushed
set_option maxRecDepth 20000 in
theorem ggX1_pipeAndEndAt_X1_placeOf : GoodIn wsX1_pipeAndEndAt wsX1_placeOf := goodIn_r _ [71, 1, 23, 24, 25, 12, 26, 27, 72, 73, 74, 5, 75, 60, 61, 62, 63, 64, 65, 66, 67, 8, 7, 28, 29, 30, 31, 32, 33, 34, 35, 36, 37, 46, 47, 48, 49, 50, 76, 77, 78, 79, 80, 81, 82, 83, 84, 85, 86, 87, 88, 89] (by decide +kernel) (by decide +kernel)
set_option maxRecDepth 20000 in
theorem gX1_pipeAndEndAt_X1_placeOf : GoodIn wsX1_pipeAndEndAt (wsV RX1 63 RX1 yX1_placeOf wsX1_placeOf) := goodIn_app (goodIn_of _ (by decide +kernel)) ggX1_pipeAndEndAt_X1_placeOf
set_option maxRecDepth 20000 in
theorem ggX1_pipeAndEndAt_X1_endOf : GoodIn wsX1_pipeAndEndAt wsX1_endOf := goodIn_r _ [63, 64, 65, 66, 5, 67, 1, 8, 7, 28, 29, 30, 12, 31, 32, 33, 34, 35, 36, 37, 46, 47, 48, 49, 50, 76, 77, 78, 79, 80, 81, 82, 83, 84, 85, 86, 87, 88, 89] (by decide +kernel) (by decide +kernel)
set_option maxRecDepth 20000 in
theorem gX1_pipeAndEndAt_X1_endOf : GoodIn wsX1_pipeAndEndAt (wsV RX1 66 RX1 yX1_endOf wsX1_endOf) := goodIn_app (goodIn_of _ (by decide +kernel)) ggX1_pipeAndEndAt_X1_endOf
theorem dX1_pipeAndEndAt_0 : decode cX1_pipeAndEndAt 0 = .ok (.aload_n 0, 1) := by decide +kernel
theorem dX1_pipeAndEndAt_1 : decode cX1_pipeAndEndAt 1 = .ok (.invokevirtual 19, 3) := by decide +kernel
theorem dX1_pipeAndEndAt_4 : decode cX1_pipeAndEndAt 4 = .ok (.iconst 0, 1) := by decide +kernel
theorem dX1_pipeAndEndAt_5 : decode cX1_pipeAndEndAt 5 = .ok (.istore_n 2, 1) := by decide +kernel
theorem dX1_pipeAndEndAt_6 : decode cX1_pipeAndEndAt 6 = .ok (.iload_n 2, 1) := by decide +kernel
theorem dX1_pipeAndEndAt_7 : decode cX1_pipeAndEndAt 7 = .ok (.aload_n 0, 1) := by decide +kernel
theorem dX1_pipeAndEndAt_8 : decode cX1_pipeAndEndAt 8 = .ok (.getfield 15, 3) := by decide +kernel
theorem dX1_pipeAndEndAt_11 : decode cX1_pipeAndEndAt 11 = .ok (.invokevirtual 36, 3) := by decide +kernel
theorem dX1_pipeAndEndAt_14 : decode cX1_pipeAndEndAt 14 = .ok (.if_icmp .ge 36, 3) := by decide +kernel
theorem dX1_pipeAndEndAt_17 : decode cX1_pipeAndEndAt 17 = .ok (.aload_n 0, 1) := by decide +kernel
theorem dX1_pipeAndEndAt_18 : decode cX1_pipeAndEndAt 18 = .ok (.iload_n 2, 1) := by decide +kernel
theorem dX1_pipeAndEndAt_19 : decode cX1_pipeAndEndAt 19 = .ok (.invokevirtual 59, 3) := by decide +kernel
theorem dX1_pipeAndEndAt_22 : decode cX1_pipeAndEndAt 22 = .ok (.ifCond .eq 22, 3) := by decide +kernel
theorem dX1_pipeAndEndAt_25 : decode cX1_pipeAndEndAt 25 = .ok (.aload_n 0, 1) := by decide +kernel
theorem dX1_pipeAndEndAt_26 : decode cX1_pipeAndEndAt 26 = .ok (.iload_n 2, 1) := by decide +kernel
theorem dX1_pipeAndEndAt_27 : decode cX1_pipeAndEndAt 27 = .ok (.invokevirtual 63, 3) := by decide +kernel
theorem dX1_pipeAndEndAt_30 : decode cX1_pipeAndEndAt 30 = .ok (.iload_n 1, 1) := by decide +kernel
theorem dX1_pipeAndEndAt_31 : decode cX1_pipeAndEndAt 31 = .ok (.if_icmp .ne 13, 3) := by decide +kernel
theorem dX1_pipeAndEndAt_34 : decode cX1_pipeAndEndAt 34 = .ok (.iconst 2, 1) := by decide +kernel
theorem dX1_pipeAndEndAt_35 : decode cX1_pipeAndEndAt 35 = .ok (.iload_n 2, 1) := by decide +kernel
theorem dX1_pipeAndEndAt_36 : decode cX1_pipeAndEndAt 36 = .ok (.imul, 1) := by decide +kernel
theorem dX1_pipeAndEndAt_37 : decode cX1_pipeAndEndAt 37 = .ok (.aload_n 0, 1) := by decide +kernel
theorem dX1_pipeAndEndAt_38 : decode cX1_pipeAndEndAt 38 = .ok (.iload_n 2, 1) := by decide +kernel
theorem dX1_pipeAndEndAt_39 : decode cX1_pipeAndEndAt 39 = .ok (.invokevirtual 66, 3) := by decide +kernel
theorem dX1_pipeAndEndAt_42 : decode cX1_pipeAndEndAt 42 = .ok (.iadd, 1) := by decide +kernel
theorem dX1_pipeAndEndAt_43 : decode cX1_pipeAndEndAt 43 = .ok (.ireturn, 1) := by decide +kernel
theorem dX1_pipeAndEndAt_44 : decode cX1_pipeAndEndAt 44 = .ok (.iinc 2 1, 3) := by decide +kernel
theorem dX1_pipeAndEndAt_47 : decode cX1_pipeAndEndAt 47 = .ok (.goto (-41), 3) := by decide +kernel
theorem dX1_pipeAndEndAt_50 : decode cX1_pipeAndEndAt 50 = .ok (.iconst (-1), 1) := by decide +kernel
theorem dX1_pipeAndEndAt_51 : decode cX1_pipeAndEndAt 51 = .ok (.ireturn, 1) := by decide +kernel
set_option maxRecDepth 20000 in
theorem ggX1_placeOf_X2_pipeCount : GoodIn wsX1_placeOf wsX2_pipeCount := goodIn_r _ [6, 7, 40, 41, 42, 43, 44, 45, 46, 47, 48, 49, 50, 51] (by decide +kernel) (by decide +kernel)
set_option maxRecDepth 20000 in
theorem gX1_placeOf_X2_pipeCount : GoodIn wsX1_placeOf (wsV RX1 36 RX2 yX2_pipeCount wsX2_pipeCount) := goodIn_app (goodIn_of _ (by decide +kernel)) ggX1_placeOf_X2_pipeCount
set_option maxRecDepth 20000 in
theorem ggX1_placeOf_X1_isAhead : GoodIn wsX1_placeOf wsX1_isAhead := goodIn_r _ [12, 13, 14, 15, 11, 16, 17, 18, 19, 20, 1, 21, 22, 23, 24, 25, 5, 26, 27, 28, 29, 30, 31, 32, 33, 34, 35, 36, 37, 38, 39, 40, 41, 42, 43, 44, 45, 46, 47, 48, 49, 50, 51] (by decide +kernel) (by decide +kernel)
set_option maxRecDepth 20000 in
theorem gX1_placeOf_X1_isAhead : GoodIn wsX1_placeOf (wsV RX1 69 RX1 yX1_isAhead wsX1_isAhead) := goodIn_app (goodIn_of _ (by decide +kernel)) ggX1_placeOf_X1_isAhead
theorem dX1_placeOf_0 : decode cX1_placeOf 0 = .ok (.iconst 0, 1) := by decide +kernel
theorem dX1_placeOf_1 : decode cX1_placeOf 1 = .ok (.istore_n 2, 1) := by decide +kernel
theorem dX1_placeOf_2 : decode cX1_placeOf 2 = .ok (.iconst 0, 1) := by decide +kernel
theorem dX1_placeOf_3 : decode cX1_placeOf 3 = .ok (.istore_n 3, 1) := by decide +kernel
theorem dX1_placeOf_4 : decode cX1_placeOf 4 = .ok (.iload_n 3, 1) := by decide +kernel
theorem dX1_placeOf_5 : decode cX1_placeOf 5 = .ok (.aload_n 0, 1) := by decide +kernel
theorem dX1_placeOf_6 : decode cX1_placeOf 6 = .ok (.getfield 15, 3) := by decide +kernel
theorem dX1_placeOf_9 : decode cX1_placeOf 9 = .ok (.invokevirtual 36, 3) := by decide +kernel
theorem dX1_placeOf_12 : decode cX1_placeOf 12 = .ok (.if_icmp .ge 21, 3) := by decide +kernel
theorem dX1_placeOf_15 : decode cX1_placeOf 15 = .ok (.aload_n 0, 1) := by decide +kernel
theorem dX1_placeOf_16 : decode cX1_placeOf 16 = .ok (.iload_n 3, 1) := by decide +kernel
theorem dX1_placeOf_17 : decode cX1_placeOf 17 = .ok (.iload_n 1, 1) := by decide +kernel
theorem dX1_placeOf_18 : decode cX1_placeOf 18 = .ok (.invokevirtual 69, 3) := by decide +kernel
theorem dX1_placeOf_21 : decode cX1_placeOf 21 = .ok (.ifCond .eq 6, 3) := by decide +kernel
theorem dX1_placeOf_24 : decode cX1_placeOf 24 = .ok (.iinc 2 1, 3) := by decide +kernel
theorem dX1_placeOf_27 : decode cX1_placeOf 27 = .ok (.iinc 3 1, 3) := by decide +kernel
theorem dX1_placeOf_30 : decode cX1_placeOf 30 = .ok (.goto (-26), 3) := by decide +kernel
theorem dX1_placeOf_33 : decode cX1_placeOf 33 = .ok (.iload_n 2, 1) := by decide +kernel
theorem dX1_placeOf_34 : decode cX1_placeOf 34 = .ok (.ireturn, 1) := by decide +kernel
set_option maxRecDepth 20000 in
theorem ggX1_isAhead_X1_endOf : GoodIn wsX1_isAhead wsX1_endOf := goodIn_r _ [5, 6, 7, 8, 4, 9, 10, 11, 12, 13, 14, 15, 16, 17, 18, 19, 20, 21, 22, 23, 24, 25, 26, 27, 28, 29, 30, 31, 32, 33, 34, 35, 36, 37, 38, 39, 40, 41, 42] (by decide +kernel) (by decide +kernel)
set_option maxRecDepth 20000 in
theorem gX1_isAhead_X1_endOf : GoodIn wsX1_isAhead (wsV RX1 66 RX1 yX1_endOf wsX1_endOf) := goodIn_app (goodIn_of _ (by decide +kernel)) ggX1_isAhead_X1_endOf
set_option maxRecDepth 20000 in
theorem ggX1_isAhead_X1_distanceAt : GoodIn wsX1_isAhead wsX1_distanceAt := goodIn_r _ [9, 10, 11, 12, 13, 14, 15, 16, 17, 18, 19, 20, 21, 22, 23, 24, 25, 26, 27, 28, 29, 30, 31, 32, 33, 34, 35, 36, 37, 38, 39, 40, 41, 42] (by decide +kernel) (by decide +kernel)
set_option maxRecDepth 20000 in
theorem gX1_isAhead_X1_distanceAt : GoodIn wsX1_isAhead (wsV RX1 72 RX1 yX1_distanceAt wsX1_distanceAt) := goodIn_app (goodIn_of _ (by decide +kernel)) ggX1_isAhead_X1_distanceAt
theorem dX1_isAhead_0 : decode cX1_isAhead 0 = .ok (.aload_n 0, 1) := by decide +kernel
theorem dX1_isAhead_1 : decode cX1_isAhead 1 = .ok (.iload_n 1, 1) := by decide +kernel
theorem dX1_isAhead_2 : decode cX1_isAhead 2 = .ok (.aload_n 0, 1) := by decide +kernel
theorem dX1_isAhead_3 : decode cX1_isAhead 3 = .ok (.iload_n 1, 1) := by decide +kernel
theorem dX1_isAhead_4 : decode cX1_isAhead 4 = .ok (.invokevirtual 66, 3) := by decide +kernel
theorem dX1_isAhead_7 : decode cX1_isAhead 7 = .ok (.invokevirtual 72, 3) := by decide +kernel
theorem dX1_isAhead_10 : decode cX1_isAhead 10 = .ok (.aload_n 0, 1) := by decide +kernel
theorem dX1_isAhead_11 : decode cX1_isAhead 11 = .ok (.iload_n 2, 1) := by decide +kernel
theorem dX1_isAhead_12 : decode cX1_isAhead 12 = .ok (.aload_n 0, 1) := by decide +kernel
theorem dX1_isAhead_13 : decode cX1_isAhead 13 = .ok (.iload_n 2, 1) := by decide +kernel
theorem dX1_isAhead_14 : decode cX1_isAhead 14 = .ok (.invokevirtual 66, 3) := by decide +kernel
theorem dX1_isAhead_17 : decode cX1_isAhead 17 = .ok (.invokevirtual 72, 3) := by decide +kernel
theorem dX1_isAhead_20 : decode cX1_isAhead 20 = .ok (.isub, 1) := by decide +kernel
theorem dX1_isAhead_21 : decode cX1_isAhead 21 = .ok (.istore_n 3, 1) := by decide +kernel
theorem dX1_isAhead_22 : decode cX1_isAhead 22 = .ok (.iload_n 3, 1) := by decide +kernel
theorem dX1_isAhead_23 : decode cX1_isAhead 23 = .ok (.ifCond .lt 12, 3) := by decide +kernel
theorem dX1_isAhead_26 : decode cX1_isAhead 26 = .ok (.iload_n 3, 1) := by decide +kernel
theorem dX1_isAhead_27 : decode cX1_isAhead 27 = .ok (.ifCond .ne 12, 3) := by decide +kernel
theorem dX1_isAhead_30 : decode cX1_isAhead 30 = .ok (.iload_n 1, 1) := by decide +kernel
theorem dX1_isAhead_31 : decode cX1_isAhead 31 = .ok (.iload_n 2, 1) := by decide +kernel
theorem dX1_isAhead_32 : decode cX1_isAhead 32 = .ok (.if_icmp .ge 7, 3) := by decide +kernel
theorem dX1_isAhead_35 : decode cX1_isAhead 35 = .ok (.iconst 1, 1) := by decide +kernel
theorem dX1_isAhead_36 : decode cX1_isAhead 36 = .ok (.goto 4, 3) := by decide +kernel
theorem dX1_isAhead_39 : decode cX1_isAhead 39 = .ok (.iconst 0, 1) := by decide +kernel
theorem dX1_isAhead_40 : decode cX1_isAhead 40 = .ok (.ireturn, 1) := by decide +kernel
set_option maxRecDepth 20000 in
theorem ggX1_isFlushed_X1_endOf : GoodIn wsX1_isFlushed wsX1_endOf := goodIn_r _ [6, 7, 8, 9, 5, 10, 11, 1, 12, 13, 14, 15, 16, 17, 18, 19, 20, 21, 22, 23, 24, 25, 26, 27, 28, 29, 30, 31, 32, 33, 34, 35, 36, 37, 38, 39, 40, 41, 42] (by decide +kernel) (by decide +kernel)
set_option maxRecDepth 20000 in
theorem gX1_isFlushed_X1_endOf : GoodIn wsX1_isFlushed (wsV RX1 66 RX1 yX1_endOf wsX1_endOf) := goodIn_app (goodIn_of _ (by decide +kernel)) ggX1_isFlushed_X1_endOf
set_option maxRecDepth 20000 in
theorem ggX1_isFlushed_X1_distanceAt : GoodIn wsX1_isFlushed wsX1_distanceAt := goodIn_r _ [10, 11, 1, 12, 13, 14, 15, 16, 17, 18, 19, 20, 21, 22, 23, 24, 25, 26, 27, 28, 29, 30, 31, 32, 33, 34, 35, 36, 37, 38, 39, 40, 41, 42] (by decide +kernel) (by decide +kernel)
set_option maxRecDepth 20000 in
theorem gX1_isFlushed_X1_distanceAt : GoodIn wsX1_isFlushed (wsV RX1 72 RX1 yX1_distanceAt wsX1_distanceAt) := goodIn_app (goodIn_of _ (by decide +kernel)) ggX1_isFlushed_X1_distanceAt
theorem dX1_isFlushed_0 : decode cX1_isFlushed 0 = .ok (.aload_n 0, 1) := by decide +kernel
theorem dX1_isFlushed_1 : decode cX1_isFlushed 1 = .ok (.iload_n 1, 1) := by decide +kernel
theorem dX1_isFlushed_2 : decode cX1_isFlushed 2 = .ok (.aload_n 0, 1) := by decide +kernel
theorem dX1_isFlushed_3 : decode cX1_isFlushed 3 = .ok (.iload_n 1, 1) := by decide +kernel
theorem dX1_isFlushed_4 : decode cX1_isFlushed 4 = .ok (.invokevirtual 66, 3) := by decide +kernel
theorem dX1_isFlushed_7 : decode cX1_isFlushed 7 = .ok (.invokevirtual 72, 3) := by decide +kernel
theorem dX1_isFlushed_10 : decode cX1_isFlushed 10 = .ok (.ldc 22, 2) := by decide +kernel
theorem dX1_isFlushed_12 : decode cX1_isFlushed 12 = .ok (.if_icmp .ge 7, 3) := by decide +kernel
theorem dX1_isFlushed_15 : decode cX1_isFlushed 15 = .ok (.iconst 1, 1) := by decide +kernel
theorem dX1_isFlushed_16 : decode cX1_isFlushed 16 = .ok (.goto 4, 3) := by decide +kernel
theorem dX1_isFlushed_19 : decode cX1_isFlushed 19 = .ok (.iconst 0, 1) := by decide +kernel
theorem dX1_isFlushed_20 : decode cX1_isFlushed 20 = .ok (.ireturn, 1) := by decide +kernel
set_option maxRecDepth 20000 in
theorem ggX1_endOf_X1_distanceAt : GoodIn wsX1_endOf wsX1_distanceAt := goodIn_r _ [5, 6, 7, 8, 9, 10, 11, 12, 13, 14, 15, 16, 17, 18, 19, 20, 21, 22, 23, 24, 25, 26, 27, 28, 29, 30, 31, 32, 33, 34, 35, 36, 37, 38] (by decide +kernel) (by decide +kernel)
set_option maxRecDepth 20000 in
theorem gX1_endOf_X1_distanceAt : GoodIn wsX1_endOf (wsV RX1 72 RX1 yX1_distanceAt wsX1_distanceAt) := goodIn_app (goodIn_of _ (by decide +kernel)) ggX1_endOf_X1_distanceAt
theorem dX1_endOf_0 : decode cX1_endOf 0 = .ok (.aload_n 0, 1) := by decide +kernel
theorem dX1_endOf_1 : decode cX1_endOf 1 = .ok (.iload_n 1, 1) := by decide +kernel
theorem dX1_endOf_2 : decode cX1_endOf 2 = .ok (.iconst 0, 1) := by decide +kernel
theorem dX1_endOf_3 : decode cX1_endOf 3 = .ok (.invokevirtual 72, 3) := by decide +kernel
theorem dX1_endOf_6 : decode cX1_endOf 6 = .ok (.aload_n 0, 1) := by decide +kernel
theorem dX1_endOf_7 : decode cX1_endOf 7 = .ok (.iload_n 1, 1) := by decide +kernel
theorem dX1_endOf_8 : decode cX1_endOf 8 = .ok (.iconst 1, 1) := by decide +kernel
theorem dX1_endOf_9 : decode cX1_endOf 9 = .ok (.invokevirtual 72, 3) := by decide +kernel
theorem dX1_endOf_12 : decode cX1_endOf 12 = .ok (.if_icmp .gt 7, 3) := by decide +kernel
theorem dX1_endOf_15 : decode cX1_endOf 15 = .ok (.iconst 0, 1) := by decide +kernel
theorem dX1_endOf_16 : decode cX1_endOf 16 = .ok (.goto 4, 3) := by decide +kernel
theorem dX1_endOf_19 : decode cX1_endOf 19 = .ok (.iconst 1, 1) := by decide +kernel
theorem dX1_endOf_20 : decode cX1_endOf 20 = .ok (.ireturn, 1) := by decide +kernel
set_option maxRecDepth 20000 in
theorem ggX1_distanceAt_X2_isShutAt : GoodIn wsX1_distanceAt wsX2_isShutAt := goodIn_r _ [8, 9, 10, 11, 12, 7, 13, 14, 22, 23, 24, 25, 26, 27, 28, 29, 30, 31, 32, 33] (by decide +kernel) (by decide +kernel)
set_option maxRecDepth 20000 in
theorem gX1_distanceAt_X2_isShutAt : GoodIn wsX1_distanceAt (wsV RX1 39 RX2 yX2_isShutAt wsX2_isShutAt) := goodIn_app (goodIn_of _ (by decide +kernel)) ggX1_distanceAt_X2_isShutAt
set_option maxRecDepth 20000 in
theorem ggX1_distanceAt_X2_nodeAt : GoodIn wsX1_distanceAt wsX2_nodeAt := goodIn_r _ [18, 19, 22, 23, 24, 25, 26, 27, 28, 29, 30, 31, 32, 33] (by decide +kernel) (by decide +kernel)
set_option maxRecDepth 20000 in
theorem gX1_distanceAt_X2_nodeAt : GoodIn wsX1_distanceAt (wsV RX1 46 RX2 yX2_nodeAt wsX2_nodeAt) := goodIn_app (goodIn_of _ (by decide +kernel)) ggX1_distanceAt_X2_nodeAt
theorem dX1_distanceAt_0 : decode cX1_distanceAt 0 = .ok (.aload_n 0, 1) := by decide +kernel
theorem dX1_distanceAt_1 : decode cX1_distanceAt 1 = .ok (.getfield 15, 3) := by decide +kernel
theorem dX1_distanceAt_4 : decode cX1_distanceAt 4 = .ok (.iload_n 1, 1) := by decide +kernel
theorem dX1_distanceAt_5 : decode cX1_distanceAt 5 = .ok (.iload_n 2, 1) := by decide +kernel
theorem dX1_distanceAt_6 : decode cX1_distanceAt 6 = .ok (.invokevirtual 39, 3) := by decide +kernel
theorem dX1_distanceAt_9 : decode cX1_distanceAt 9 = .ok (.ifCond .eq 8, 3) := by decide +kernel
theorem dX1_distanceAt_12 : decode cX1_distanceAt 12 = .ok (.ldc 22, 2) := by decide +kernel
theorem dX1_distanceAt_14 : decode cX1_distanceAt 14 = .ok (.goto 17, 3) := by decide +kernel
theorem dX1_distanceAt_17 : decode cX1_distanceAt 17 = .ok (.aload_n 0, 1) := by decide +kernel
theorem dX1_distanceAt_18 : decode cX1_distanceAt 18 = .ok (.getfield 9, 3) := by decide +kernel
theorem dX1_distanceAt_21 : decode cX1_distanceAt 21 = .ok (.aload_n 0, 1) := by decide +kernel
theorem dX1_distanceAt_22 : decode cX1_distanceAt 22 = .ok (.getfield 15, 3) := by decide +kernel
theorem dX1_distanceAt_25 : decode cX1_distanceAt 25 = .ok (.iload_n 1, 1) := by decide +kernel
theorem dX1_distanceAt_26 : decode cX1_distanceAt 26 = .ok (.iload_n 2, 1) := by decide +kernel
theorem dX1_distanceAt_27 : decode cX1_distanceAt 27 = .ok (.invokevirtual 46, 3) := by decide +kernel
theorem dX1_distanceAt_30 : decode cX1_distanceAt 30 = .ok (.iaload, 1) := by decide +kernel
theorem dX1_distanceAt_31 : decode cX1_distanceAt 31 = .ok (.ireturn, 1) := by decide +kernel
end
section
theorem dX2_init_0 : decode cX2_init 0 = .ok (.aload_n 0, 1) := by decide +kernel
theorem dX2_init_1 : decode cX2_init 1 = .ok (.invokespecial 3, 3) := by decide +kernel
theorem dX2_init_4 : decode cX2_init 4 = .ok (.aload_n 0, 1) := by decide +kernel
theorem dX2_init_5 : decode cX2_init 5 = .ok (.bipush 16, 2) := by decide +kernel
theorem dX2_init_7 : decode cX2_init 7 = .ok (.newarray .int, 2) := by decide +kernel
theorem dX2_init_9 : decode cX2_init 9 = .ok (.putfield 9, 3) := by decide +kernel
theorem dX2_init_12 : decode cX2_init 12 = .ok (.aload_n 0, 1) := by decide +kernel
theorem dX2_init_13 : decode cX2_init 13 = .ok (.bipush 16, 2) := by decide +kernel
theorem dX2_init_15 : decode cX2_init 15 = .ok (.newarray .int, 2) := by decide +kernel
theorem dX2_init_17 : decode cX2_init 17 = .ok (.putfield 15, 3) := by decide +kernel
theorem dX2_init_20 : decode cX2_init 20 = .ok (.aload_n 0, 1) := by decide +kernel
theorem dX2_init_21 : decode cX2_init 21 = .ok (.bipush 32, 2) := by decide +kernel
theorem dX2_init_23 : decode cX2_init 23 = .ok (.newarray .int, 2) := by decide +kernel
theorem dX2_init_25 : decode cX2_init 25 = .ok (.putfield 18, 3) := by decide +kernel
theorem dX2_init_28 : decode cX2_init 28 = .ok (.aload_n 0, 1) := by decide +kernel
theorem dX2_init_29 : decode cX2_init 29 = .ok (.bipush 32, 2) := by decide +kernel
theorem dX2_init_31 : decode cX2_init 31 = .ok (.newarray .int, 2) := by decide +kernel
theorem dX2_init_33 : decode cX2_init 33 = .ok (.putfield 21, 3) := by decide +kernel
theorem dX2_init_36 : decode cX2_init 36 = .ok (.aload_n 0, 1) := by decide +kernel
theorem dX2_init_37 : decode cX2_init 37 = .ok (.bipush 32, 2) := by decide +kernel
theorem dX2_init_39 : decode cX2_init 39 = .ok (.newarray .int, 2) := by decide +kernel
theorem dX2_init_41 : decode cX2_init 41 = .ok (.putfield 24, 3) := by decide +kernel
theorem dX2_init_44 : decode cX2_init 44 = .ok (.aload_n 0, 1) := by decide +kernel
theorem dX2_init_45 : decode cX2_init 45 = .ok (.bipush 12, 2) := by decide +kernel
theorem dX2_init_47 : decode cX2_init 47 = .ok (.newarray .int, 2) := by decide +kernel
theorem dX2_init_49 : decode cX2_init 49 = .ok (.putfield 27, 3) := by decide +kernel
theorem dX2_init_52 : decode cX2_init 52 = .ok (.return_, 1) := by decide +kernel
theorem dX2_nodeCount_0 : decode cX2_nodeCount 0 = .ok (.aload_n 0, 1) := by decide +kernel
theorem dX2_nodeCount_1 : decode cX2_nodeCount 1 = .ok (.getfield 30, 3) := by decide +kernel
theorem dX2_nodeCount_4 : decode cX2_nodeCount 4 = .ok (.ireturn, 1) := by decide +kernel
theorem dX2_pipeCount_0 : decode cX2_pipeCount 0 = .ok (.aload_n 0, 1) := by decide +kernel
theorem dX2_pipeCount_1 : decode cX2_pipeCount 1 = .ok (.getfield 34, 3) := by decide +kernel
theorem dX2_pipeCount_4 : decode cX2_pipeCount 4 = .ok (.ireturn, 1) := by decide +kernel
theorem dX2_valveCount_0 : decode cX2_valveCount 0 = .ok (.aload_n 0, 1) := by decide +kernel
theorem dX2_valveCount_1 : decode cX2_valveCount 1 = .ok (.getfield 37, 3) := by decide +kernel
theorem dX2_valveCount_4 : decode cX2_valveCount 4 = .ok (.ireturn, 1) := by decide +kernel
theorem dX2_sources_0 : decode cX2_sources 0 = .ok (.aload_n 0, 1) := by decide +kernel
theorem dX2_sources_1 : decode cX2_sources 1 = .ok (.getfield 40, 3) := by decide +kernel
theorem dX2_sources_4 : decode cX2_sources 4 = .ok (.ireturn, 1) := by decide +kernel
set_option maxRecDepth 20000 in
theorem ggX2_putNode_X2_markSource : GoodIn wsX2_putNode wsX2_markSource := goodIn_r _ [6, 7, 8, 9, 10, 11, 12, 13, 14, 15, 16, 17, 18, 19, 20, 21, 22, 23, 24] (by decide +kernel) (by decide +kernel)
set_option maxRecDepth 20000 in
theorem gX2_putNode_X2_markSource : GoodIn wsX2_putNode (wsV RX2 43 RX2 yX2_markSource wsX2_markSource) := goodIn_app (goodIn_of _ (by decide +kernel)) ggX2_putNode_X2_markSource
theorem dX2_putNode_0 : decode cX2_putNode 0 = .ok (.aload_n 0, 1) := by decide +kernel
theorem dX2_putNode_1 : decode cX2_putNode 1 = .ok (.getfield 30, 3) := by decide +kernel
theorem dX2_putNode_4 : decode cX2_putNode 4 = .ok (.istore_n 2, 1) := by decide +kernel
theorem dX2_putNode_5 : decode cX2_putNode 5 = .ok (.aload_n 0, 1) := by decide +kernel
theorem dX2_putNode_6 : decode cX2_putNode 6 = .ok (.dup, 1) := by decide +kernel
theorem dX2_putNode_7 : decode cX2_putNode 7 = .ok (.getfield 30, 3) := by decide +kernel
theorem dX2_putNode_10 : decode cX2_putNode 10 = .ok (.iconst 1, 1) := by decide +kernel
theorem dX2_putNode_11 : decode cX2_putNode 11 = .ok (.iadd, 1) := by decide +kernel
theorem dX2_putNode_12 : decode cX2_putNode 12 = .ok (.putfield 30, 3) := by decide +kernel
theorem dX2_putNode_15 : decode cX2_putNode 15 = .ok (.aload_n 0, 1) := by decide +kernel
theorem dX2_putNode_16 : decode cX2_putNode 16 = .ok (.iload_n 2, 1) := by decide +kernel
theorem dX2_putNode_17 : decode cX2_putNode 17 = .ok (.iload_n 1, 1) := by decide +kernel
theorem dX2_putNode_18 : decode cX2_putNode 18 = .ok (.invokevirtual 43, 3) := by decide +kernel
theorem dX2_putNode_21 : decode cX2_putNode 21 = .ok (.pop, 1) := by decide +kernel
theorem dX2_putNode_22 : decode cX2_putNode 22 = .ok (.iload_n 2, 1) := by decide +kernel
theorem dX2_putNode_23 : decode cX2_putNode 23 = .ok (.ireturn, 1) := by decide +kernel
set_option maxRecDepth 20000 in
theorem ggX2_putPipe_X2_join : GoodIn wsX2_putPipe wsX2_join := goodIn_r _ [8, 9, 10, 11, 12, 13, 14, 15, 16, 17, 18, 19, 20, 21, 22, 23, 24, 25] (by decide +kernel) (by decide +kernel)
set_option maxRecDepth 20000 in
theorem gX2_putPipe_X2_join : GoodIn wsX2_putPipe (wsV RX2 47 RX2 yX2_join wsX2_join) := goodIn_app (goodIn_of _ (by decide +kernel)) ggX2_putPipe_X2_join
theorem dX2_putPipe_0 : decode cX2_putPipe 0 = .ok (.aload_n 0, 1) := by decide +kernel
theorem dX2_putPipe_1 : decode cX2_putPipe 1 = .ok (.getfield 34, 3) := by decide +kernel
theorem dX2_putPipe_4 : decode cX2_putPipe 4 = .ok (.istore 5, 2) := by decide +kernel
theorem dX2_putPipe_6 : decode cX2_putPipe 6 = .ok (.aload_n 0, 1) := by decide +kernel
theorem dX2_putPipe_7 : decode cX2_putPipe 7 = .ok (.dup, 1) := by decide +kernel
theorem dX2_putPipe_8 : decode cX2_putPipe 8 = .ok (.getfield 34, 3) := by decide +kernel
theorem dX2_putPipe_11 : decode cX2_putPipe 11 = .ok (.iconst 1, 1) := by decide +kernel
theorem dX2_putPipe_12 : decode cX2_putPipe 12 = .ok (.iadd, 1) := by decide +kernel
theorem dX2_putPipe_13 : decode cX2_putPipe 13 = .ok (.putfield 34, 3) := by decide +kernel
theorem dX2_putPipe_16 : decode cX2_putPipe 16 = .ok (.aload_n 0, 1) := by decide +kernel
theorem dX2_putPipe_17 : decode cX2_putPipe 17 = .ok (.getfield 9, 3) := by decide +kernel
theorem dX2_putPipe_20 : decode cX2_putPipe 20 = .ok (.iload 5, 2) := by decide +kernel
theorem dX2_putPipe_22 : decode cX2_putPipe 22 = .ok (.iload_n 3, 1) := by decide +kernel
theorem dX2_putPipe_23 : decode cX2_putPipe 23 = .ok (.iastore, 1) := by decide +kernel
theorem dX2_putPipe_24 : decode cX2_putPipe 24 = .ok (.aload_n 0, 1) := by decide +kernel
theorem dX2_putPipe_25 : decode cX2_putPipe 25 = .ok (.getfield 15, 3) := by decide +kernel
theorem dX2_putPipe_28 : decode cX2_putPipe 28 = .ok (.iload 5, 2) := by decide +kernel
theorem dX2_putPipe_30 : decode cX2_putPipe 30 = .ok (.iload 4, 2) := by decide +kernel
theorem dX2_putPipe_32 : decode cX2_putPipe 32 = .ok (.iastore, 1) := by decide +kernel
theorem dX2_putPipe_33 : decode cX2_putPipe 33 = .ok (.aload_n 0, 1) := by decide +kernel
theorem dX2_putPipe_34 : decode cX2_putPipe 34 = .ok (.iload 5, 2) := by decide +kernel
theorem dX2_putPipe_36 : decode cX2_putPipe 36 = .ok (.iconst 0, 1) := by decide +kernel
theorem dX2_putPipe_37 : decode cX2_putPipe 37 = .ok (.iload_n 1, 1) := by decide +kernel
theorem dX2_putPipe_38 : decode cX2_putPipe 38 = .ok (.invokevirtual 47, 3) := by decide +kernel
theorem dX2_putPipe_41 : decode cX2_putPipe 41 = .ok (.aload_n 0, 1) := by decide +kernel
theorem dX2_putPipe_42 : decode cX2_putPipe 42 = .ok (.iload 5, 2) := by decide +kernel
theorem dX2_putPipe_44 : decode cX2_putPipe 44 = .ok (.iconst 1, 1) := by decide +kernel
theorem dX2_putPipe_45 : decode cX2_putPipe 45 = .ok (.iload_n 2, 1) := by decide +kernel
theorem dX2_putPipe_46 : decode cX2_putPipe 46 = .ok (.invokevirtual 47, 3) := by decide +kernel
theorem dX2_putPipe_49 : decode cX2_putPipe 49 = .ok (.iload 5, 2) := by decide +kernel
theorem dX2_putPipe_51 : decode cX2_putPipe 51 = .ok (.ireturn, 1) := by decide +kernel
set_option maxRecDepth 20000 in
theorem ggX2_join_X5_partOfPipe : GoodIn wsX2_join wsX5_partOfPipe := goodIn_r _ [5] (by decide +kernel) (by decide +kernel)
set_option maxRecDepth 20000 in
theorem gX2_join_X5_partOfPipe_n51 : GoodIn wsX2_join (wsX5_partOfPipe) := ggX2_join_X5_partOfPipe
theorem dX2_join_0 : decode cX2_join 0 = .ok (.iconst 2, 1) := by decide +kernel
theorem dX2_join_1 : decode cX2_join 1 = .ok (.iload_n 1, 1) := by decide +kernel
theorem dX2_join_2 : decode cX2_join 2 = .ok (.imul, 1) := by decide +kernel
theorem dX2_join_3 : decode cX2_join 3 = .ok (.iload_n 2, 1) := by decide +kernel
theorem dX2_join_4 : decode cX2_join 4 = .ok (.iadd, 1) := by decide +kernel
theorem dX2_join_5 : decode cX2_join 5 = .ok (.istore 4, 2) := by decide +kernel
theorem dX2_join_7 : decode cX2_join 7 = .ok (.aload_n 0, 1) := by decide +kernel
theorem dX2_join_8 : decode cX2_join 8 = .ok (.getfield 18, 3) := by decide +kernel
theorem dX2_join_11 : decode cX2_join 11 = .ok (.iload 4, 2) := by decide +kernel
theorem dX2_join_13 : decode cX2_join 13 = .ok (.iload_n 3, 1) := by decide +kernel
theorem dX2_join_14 : decode cX2_join 14 = .ok (.iastore, 1) := by decide +kernel
theorem dX2_join_15 : decode cX2_join 15 = .ok (.aload_n 0, 1) := by decide +kernel
theorem dX2_join_16 : decode cX2_join 16 = .ok (.getfield 24, 3) := by decide +kernel
theorem dX2_join_19 : decode cX2_join 19 = .ok (.iload 4, 2) := by decide +kernel
theorem dX2_join_21 : decode cX2_join 21 = .ok (.iconst 1, 1) := by decide +kernel
theorem dX2_join_22 : decode cX2_join 22 = .ok (.iload_n 3, 1) := by decide +kernel
theorem dX2_join_23 : decode cX2_join 23 = .ok (.ishl, 1) := by decide +kernel
theorem dX2_join_24 : decode cX2_join 24 = .ok (.iconst 1, 1) := by decide +kernel
theorem dX2_join_25 : decode cX2_join 25 = .ok (.iload_n 1, 1) := by decide +kernel
theorem dX2_join_26 : decode cX2_join 26 = .ok (.invokestatic 51, 3) := by decide +kernel
theorem dX2_join_29 : decode cX2_join 29 = .ok (.ishl, 1) := by decide +kernel
theorem dX2_join_30 : decode cX2_join 30 = .ok (.ior, 1) := by decide +kernel
theorem dX2_join_31 : decode cX2_join 31 = .ok (.iastore, 1) := by decide +kernel
theorem dX2_join_32 : decode cX2_join 32 = .ok (.return_, 1) := by decide +kernel
theorem dX2_putValve_0 : decode cX2_putValve 0 = .ok (.aload_n 0, 1) := by decide +kernel
theorem dX2_putValve_1 : decode cX2_putValve 1 = .ok (.getfield 37, 3) := by decide +kernel
theorem dX2_putValve_4 : decode cX2_putValve 4 = .ok (.istore_n 3, 1) := by decide +kernel
theorem dX2_putValve_5 : decode cX2_putValve 5 = .ok (.aload_n 0, 1) := by decide +kernel
theorem dX2_putValve_6 : decode cX2_putValve 6 = .ok (.dup, 1) := by decide +kernel
theorem dX2_putValve_7 : decode cX2_putValve 7 = .ok (.getfield 37, 3) := by decide +kernel
theorem dX2_putValve_10 : decode cX2_putValve 10 = .ok (.iconst 1, 1) := by decide +kernel
theorem dX2_putValve_11 : decode cX2_putValve 11 = .ok (.iadd, 1) := by decide +kernel
theorem dX2_putValve_12 : decode cX2_putValve 12 = .ok (.putfield 37, 3) := by decide +kernel
theorem dX2_putValve_15 : decode cX2_putValve 15 = .ok (.iconst 2, 1) := by decide +kernel
theorem dX2_putValve_16 : decode cX2_putValve 16 = .ok (.iload_n 1, 1) := by decide +kernel
theorem dX2_putValve_17 : decode cX2_putValve 17 = .ok (.imul, 1) := by decide +kernel
theorem dX2_putValve_18 : decode cX2_putValve 18 = .ok (.iload_n 2, 1) := by decide +kernel
theorem dX2_putValve_19 : decode cX2_putValve 19 = .ok (.iadd, 1) := by decide +kernel
theorem dX2_putValve_20 : decode cX2_putValve 20 = .ok (.istore 4, 2) := by decide +kernel
theorem dX2_putValve_22 : decode cX2_putValve 22 = .ok (.aload_n 0, 1) := by decide +kernel
theorem dX2_putValve_23 : decode cX2_putValve 23 = .ok (.getfield 21, 3) := by decide +kernel
theorem dX2_putValve_26 : decode cX2_putValve 26 = .ok (.iload 4, 2) := by decide +kernel
theorem dX2_putValve_28 : decode cX2_putValve 28 = .ok (.iconst 1, 1) := by decide +kernel
theorem dX2_putValve_29 : decode cX2_putValve 29 = .ok (.iload_n 3, 1) := by decide +kernel
theorem dX2_putValve_30 : decode cX2_putValve 30 = .ok (.ishl, 1) := by decide +kernel
theorem dX2_putValve_31 : decode cX2_putValve 31 = .ok (.iastore, 1) := by decide +kernel
theorem dX2_putValve_32 : decode cX2_putValve 32 = .ok (.aload_n 0, 1) := by decide +kernel
theorem dX2_putValve_33 : decode cX2_putValve 33 = .ok (.getfield 27, 3) := by decide +kernel
theorem dX2_putValve_36 : decode cX2_putValve 36 = .ok (.iload_n 3, 1) := by decide +kernel
theorem dX2_putValve_37 : decode cX2_putValve 37 = .ok (.iload 4, 2) := by decide +kernel
theorem dX2_putValve_39 : decode cX2_putValve 39 = .ok (.iastore, 1) := by decide +kernel
theorem dX2_putValve_40 : decode cX2_putValve 40 = .ok (.iload_n 3, 1) := by decide +kernel
theorem dX2_putValve_41 : decode cX2_putValve 41 = .ok (.ireturn, 1) := by decide +kernel
set_option maxRecDepth 20000 in
theorem ggX2_markSource_X5_hasBit : GoodIn wsX2_markSource wsX5_hasBit := goodIn_r _ [4] (by decide +kernel) (by decide +kernel)
set_option maxRecDepth 20000 in
theorem gX2_markSource_X5_hasBit_n55 : GoodIn wsX2_markSource (wsX5_hasBit) := ggX2_markSource_X5_hasBit
set_option maxRecDepth 20000 in
theorem ggX2_markSource_X5_withBit : GoodIn wsX2_markSource wsX5_withBit := goodIn_r _ [6] (by decide +kernel) (by decide +kernel)
set_option maxRecDepth 20000 in
theorem gX2_markSource_X5_withBit_n59 : GoodIn wsX2_markSource (wsX5_withBit) := ggX2_markSource_X5_withBit
theorem dX2_markSource_0 : decode cX2_markSource 0 = .ok (.aload_n 0, 1) := by decide +kernel
theorem dX2_markSource_1 : decode cX2_markSource 1 = .ok (.getfield 40, 3) := by decide +kernel
theorem dX2_markSource_4 : decode cX2_markSource 4 = .ok (.iload_n 1, 1) := by decide +kernel
theorem dX2_markSource_5 : decode cX2_markSource 5 = .ok (.invokestatic 55, 3) := by decide +kernel
theorem dX2_markSource_8 : decode cX2_markSource 8 = .ok (.istore_n 3, 1) := by decide +kernel
theorem dX2_markSource_9 : decode cX2_markSource 9 = .ok (.aload_n 0, 1) := by decide +kernel
theorem dX2_markSource_10 : decode cX2_markSource 10 = .ok (.aload_n 0, 1) := by decide +kernel
theorem dX2_markSource_11 : decode cX2_markSource 11 = .ok (.getfield 40, 3) := by decide +kernel
theorem dX2_markSource_14 : decode cX2_markSource 14 = .ok (.iload_n 1, 1) := by decide +kernel
theorem dX2_markSource_15 : decode cX2_markSource 15 = .ok (.iload_n 2, 1) := by decide +kernel
theorem dX2_markSource_16 : decode cX2_markSource 16 = .ok (.invokestatic 59, 3) := by decide +kernel
theorem dX2_markSource_19 : decode cX2_markSource 19 = .ok (.putfield 40, 3) := by decide +kernel
theorem dX2_markSource_22 : decode cX2_markSource 22 = .ok (.iload_n 3, 1) := by decide +kernel
theorem dX2_markSource_23 : decode cX2_markSource 23 = .ok (.ireturn, 1) := by decide +kernel
set_option maxRecDepth 20000 in
theorem ggX2_markStuck_X5_hasBit : GoodIn wsX2_markStuck wsX5_hasBit := goodIn_r _ [4] (by decide +kernel) (by decide +kernel)
set_option maxRecDepth 20000 in
theorem gX2_markStuck_X5_hasBit_n55 : GoodIn wsX2_markStuck (wsX5_hasBit) := ggX2_markStuck_X5_hasBit
set_option maxRecDepth 20000 in
theorem ggX2_markStuck_X5_withBit : GoodIn wsX2_markStuck wsX5_withBit := goodIn_r _ [6] (by decide +kernel) (by decide +kernel)
set_option maxRecDepth 20000 in
theorem gX2_markStuck_X5_withBit_n59 : GoodIn wsX2_markStuck (wsX5_withBit) := ggX2_markStuck_X5_withBit
theorem dX2_markStuck_0 : decode cX2_markStuck 0 = .ok (.aload_n 0, 1) := by decide +kernel
theorem dX2_markStuck_1 : decode cX2_markStuck 1 = .ok (.getfield 63, 3) := by decide +kernel
theorem dX2_markStuck_4 : decode cX2_markStuck 4 = .ok (.iload_n 1, 1) := by decide +kernel
theorem dX2_markStuck_5 : decode cX2_markStuck 5 = .ok (.invokestatic 55, 3) := by decide +kernel
theorem dX2_markStuck_8 : decode cX2_markStuck 8 = .ok (.istore_n 3, 1) := by decide +kernel
theorem dX2_markStuck_9 : decode cX2_markStuck 9 = .ok (.aload_n 0, 1) := by decide +kernel
theorem dX2_markStuck_10 : decode cX2_markStuck 10 = .ok (.aload_n 0, 1) := by decide +kernel
theorem dX2_markStuck_11 : decode cX2_markStuck 11 = .ok (.getfield 63, 3) := by decide +kernel
theorem dX2_markStuck_14 : decode cX2_markStuck 14 = .ok (.iload_n 1, 1) := by decide +kernel
theorem dX2_markStuck_15 : decode cX2_markStuck 15 = .ok (.iload_n 2, 1) := by decide +kernel
theorem dX2_markStuck_16 : decode cX2_markStuck 16 = .ok (.invokestatic 59, 3) := by decide +kernel
theorem dX2_markStuck_19 : decode cX2_markStuck 19 = .ok (.putfield 63, 3) := by decide +kernel
theorem dX2_markStuck_22 : decode cX2_markStuck 22 = .ok (.iload_n 3, 1) := by decide +kernel
theorem dX2_markStuck_23 : decode cX2_markStuck 23 = .ok (.ireturn, 1) := by decide +kernel
set_option maxRecDepth 20000 in
theorem ggX2_markShut_X5_hasBit : GoodIn wsX2_markShut wsX5_hasBit := goodIn_r _ [4] (by decide +kernel) (by decide +kernel)
set_option maxRecDepth 20000 in
theorem gX2_markShut_X5_hasBit_n55 : GoodIn wsX2_markShut (wsX5_hasBit) := ggX2_markShut_X5_hasBit
set_option maxRecDepth 20000 in
theorem ggX2_markShut_X5_withBit : GoodIn wsX2_markShut wsX5_withBit := goodIn_r _ [6] (by decide +kernel) (by decide +kernel)
set_option maxRecDepth 20000 in
theorem gX2_markShut_X5_withBit_n59 : GoodIn wsX2_markShut (wsX5_withBit) := ggX2_markShut_X5_withBit
theorem dX2_markShut_0 : decode cX2_markShut 0 = .ok (.aload_n 0, 1) := by decide +kernel
theorem dX2_markShut_1 : decode cX2_markShut 1 = .ok (.getfield 66, 3) := by decide +kernel
theorem dX2_markShut_4 : decode cX2_markShut 4 = .ok (.iload_n 1, 1) := by decide +kernel
theorem dX2_markShut_5 : decode cX2_markShut 5 = .ok (.invokestatic 55, 3) := by decide +kernel
theorem dX2_markShut_8 : decode cX2_markShut 8 = .ok (.istore_n 3, 1) := by decide +kernel
theorem dX2_markShut_9 : decode cX2_markShut 9 = .ok (.aload_n 0, 1) := by decide +kernel
theorem dX2_markShut_10 : decode cX2_markShut 10 = .ok (.aload_n 0, 1) := by decide +kernel
theorem dX2_markShut_11 : decode cX2_markShut 11 = .ok (.getfield 66, 3) := by decide +kernel
theorem dX2_markShut_14 : decode cX2_markShut 14 = .ok (.iload_n 1, 1) := by decide +kernel
theorem dX2_markShut_15 : decode cX2_markShut 15 = .ok (.iload_n 2, 1) := by decide +kernel
theorem dX2_markShut_16 : decode cX2_markShut 16 = .ok (.invokestatic 59, 3) := by decide +kernel
theorem dX2_markShut_19 : decode cX2_markShut 19 = .ok (.putfield 66, 3) := by decide +kernel
theorem dX2_markShut_22 : decode cX2_markShut 22 = .ok (.iload_n 3, 1) := by decide +kernel
theorem dX2_markShut_23 : decode cX2_markShut 23 = .ok (.ireturn, 1) := by decide +kernel
set_option maxRecDepth 20000 in
theorem ggX2_isStuck_X5_hasBit : GoodIn wsX2_isStuck wsX5_hasBit := goodIn_r _ [4] (by decide +kernel) (by decide +kernel)
set_option maxRecDepth 20000 in
theorem gX2_isStuck_X5_hasBit_n55 : GoodIn wsX2_isStuck (wsX5_hasBit) := ggX2_isStuck_X5_hasBit
theorem dX2_isStuck_0 : decode cX2_isStuck 0 = .ok (.aload_n 0, 1) := by decide +kernel
theorem dX2_isStuck_1 : decode cX2_isStuck 1 = .ok (.getfield 63, 3) := by decide +kernel
theorem dX2_isStuck_4 : decode cX2_isStuck 4 = .ok (.iload_n 1, 1) := by decide +kernel
theorem dX2_isStuck_5 : decode cX2_isStuck 5 = .ok (.invokestatic 55, 3) := by decide +kernel
theorem dX2_isStuck_8 : decode cX2_isStuck 8 = .ok (.ireturn, 1) := by decide +kernel
set_option maxRecDepth 20000 in
theorem ggX2_hasPart_X5_partOfPipe : GoodIn wsX2_hasPart wsX5_partOfPipe := goodIn_r _ [5] (by decide +kernel) (by decide +kernel)
set_option maxRecDepth 20000 in
theorem gX2_hasPart_X5_partOfPipe_n51 : GoodIn wsX2_hasPart (wsX5_partOfPipe) := ggX2_hasPart_X5_partOfPipe
theorem dX2_hasPart_0 : decode cX2_hasPart 0 = .ok (.iload_n 1, 1) := by decide +kernel
theorem dX2_hasPart_1 : decode cX2_hasPart 1 = .ok (.bipush 12, 2) := by decide +kernel
theorem dX2_hasPart_3 : decode cX2_hasPart 3 = .ok (.if_icmp .ge 19, 3) := by decide +kernel
theorem dX2_hasPart_6 : decode cX2_hasPart 6 = .ok (.iload_n 1, 1) := by decide +kernel
theorem dX2_hasPart_7 : decode cX2_hasPart 7 = .ok (.aload_n 0, 1) := by decide +kernel
theorem dX2_hasPart_8 : decode cX2_hasPart 8 = .ok (.getfield 30, 3) := by decide +kernel
theorem dX2_hasPart_11 : decode cX2_hasPart 11 = .ok (.if_icmp .ge 7, 3) := by decide +kernel
theorem dX2_hasPart_14 : decode cX2_hasPart 14 = .ok (.iconst 1, 1) := by decide +kernel
theorem dX2_hasPart_15 : decode cX2_hasPart 15 = .ok (.goto 23, 3) := by decide +kernel
theorem dX2_hasPart_18 : decode cX2_hasPart 18 = .ok (.iconst 0, 1) := by decide +kernel
theorem dX2_hasPart_19 : decode cX2_hasPart 19 = .ok (.goto 19, 3) := by decide +kernel
theorem dX2_hasPart_22 : decode cX2_hasPart 22 = .ok (.iload_n 1, 1) := by decide +kernel
theorem dX2_hasPart_23 : decode cX2_hasPart 23 = .ok (.aload_n 0, 1) := by decide +kernel
theorem dX2_hasPart_24 : decode cX2_hasPart 24 = .ok (.getfield 34, 3) := by decide +kernel
theorem dX2_hasPart_27 : decode cX2_hasPart 27 = .ok (.invokestatic 51, 3) := by decide +kernel
theorem dX2_hasPart_30 : decode cX2_hasPart 30 = .ok (.if_icmp .ge 7, 3) := by decide +kernel
theorem dX2_hasPart_33 : decode cX2_hasPart 33 = .ok (.iconst 1, 1) := by decide +kernel
theorem dX2_hasPart_34 : decode cX2_hasPart 34 = .ok (.goto 4, 3) := by decide +kernel
theorem dX2_hasPart_37 : decode cX2_hasPart 37 = .ok (.iconst 0, 1) := by decide +kernel
theorem dX2_hasPart_38 : decode cX2_hasPart 38 = .ok (.ireturn, 1) := by decide +kernel
theorem dX2_lengthOf_0 : decode cX2_lengthOf 0 = .ok (.aload_n 0, 1) := by decide +kernel
theorem dX2_lengthOf_1 : decode cX2_lengthOf 1 = .ok (.getfield 9, 3) := by decide +kernel
theorem dX2_lengthOf_4 : decode cX2_lengthOf 4 = .ok (.iload_n 1, 1) := by decide +kernel
theorem dX2_lengthOf_5 : decode cX2_lengthOf 5 = .ok (.iaload, 1) := by decide +kernel
theorem dX2_lengthOf_6 : decode cX2_lengthOf 6 = .ok (.ireturn, 1) := by decide +kernel
theorem dX2_nodeAt_0 : decode cX2_nodeAt 0 = .ok (.aload_n 0, 1) := by decide +kernel
theorem dX2_nodeAt_1 : decode cX2_nodeAt 1 = .ok (.getfield 18, 3) := by decide +kernel
theorem dX2_nodeAt_4 : decode cX2_nodeAt 4 = .ok (.iconst 2, 1) := by decide +kernel
theorem dX2_nodeAt_5 : decode cX2_nodeAt 5 = .ok (.iload_n 1, 1) := by decide +kernel
theorem dX2_nodeAt_6 : decode cX2_nodeAt 6 = .ok (.imul, 1) := by decide +kernel
theorem dX2_nodeAt_7 : decode cX2_nodeAt 7 = .ok (.iload_n 2, 1) := by decide +kernel
theorem dX2_nodeAt_8 : decode cX2_nodeAt 8 = .ok (.iadd, 1) := by decide +kernel
theorem dX2_nodeAt_9 : decode cX2_nodeAt 9 = .ok (.iaload, 1) := by decide +kernel
theorem dX2_nodeAt_10 : decode cX2_nodeAt 10 = .ok (.ireturn, 1) := by decide +kernel
theorem dX2_valveBitAt_0 : decode cX2_valveBitAt 0 = .ok (.aload_n 0, 1) := by decide +kernel
theorem dX2_valveBitAt_1 : decode cX2_valveBitAt 1 = .ok (.getfield 21, 3) := by decide +kernel
theorem dX2_valveBitAt_4 : decode cX2_valveBitAt 4 = .ok (.iconst 2, 1) := by decide +kernel
theorem dX2_valveBitAt_5 : decode cX2_valveBitAt 5 = .ok (.iload_n 1, 1) := by decide +kernel
theorem dX2_valveBitAt_6 : decode cX2_valveBitAt 6 = .ok (.imul, 1) := by decide +kernel
theorem dX2_valveBitAt_7 : decode cX2_valveBitAt 7 = .ok (.iload_n 2, 1) := by decide +kernel
theorem dX2_valveBitAt_8 : decode cX2_valveBitAt 8 = .ok (.iadd, 1) := by decide +kernel
theorem dX2_valveBitAt_9 : decode cX2_valveBitAt 9 = .ok (.iaload, 1) := by decide +kernel
theorem dX2_valveBitAt_10 : decode cX2_valveBitAt 10 = .ok (.ireturn, 1) := by decide +kernel
set_option maxRecDepth 20000 in
theorem ggX2_isShutAt_X2_valveBitAt : GoodIn wsX2_isShutAt wsX2_valveBitAt := goodIn_r _ [6, 7, 8, 9, 10, 11, 12, 13, 14, 15, 16, 17, 18, 19] (by decide +kernel) (by decide +kernel)
set_option maxRecDepth 20000 in
theorem gX2_isShutAt_X2_valveBitAt : GoodIn wsX2_isShutAt (wsV RX2 69 RX2 yX2_valveBitAt wsX2_valveBitAt) := goodIn_app (goodIn_of _ (by decide +kernel)) ggX2_isShutAt_X2_valveBitAt
theorem dX2_isShutAt_0 : decode cX2_isShutAt 0 = .ok (.aload_n 0, 1) := by decide +kernel
theorem dX2_isShutAt_1 : decode cX2_isShutAt 1 = .ok (.iload_n 1, 1) := by decide +kernel
theorem dX2_isShutAt_2 : decode cX2_isShutAt 2 = .ok (.iload_n 2, 1) := by decide +kernel
theorem dX2_isShutAt_3 : decode cX2_isShutAt 3 = .ok (.invokevirtual 69, 3) := by decide +kernel
theorem dX2_isShutAt_6 : decode cX2_isShutAt 6 = .ok (.aload_n 0, 1) := by decide +kernel
theorem dX2_isShutAt_7 : decode cX2_isShutAt 7 = .ok (.getfield 66, 3) := by decide +kernel
theorem dX2_isShutAt_10 : decode cX2_isShutAt 10 = .ok (.iand, 1) := by decide +kernel
theorem dX2_isShutAt_11 : decode cX2_isShutAt 11 = .ok (.ifCond .eq 7, 3) := by decide +kernel
theorem dX2_isShutAt_14 : decode cX2_isShutAt 14 = .ok (.iconst 1, 1) := by decide +kernel
theorem dX2_isShutAt_15 : decode cX2_isShutAt 15 = .ok (.goto 4, 3) := by decide +kernel
theorem dX2_isShutAt_18 : decode cX2_isShutAt 18 = .ok (.iconst 0, 1) := by decide +kernel
theorem dX2_isShutAt_19 : decode cX2_isShutAt 19 = .ok (.ireturn, 1) := by decide +kernel
theorem dX2_pipeOfValve_0 : decode cX2_pipeOfValve 0 = .ok (.aload_n 0, 1) := by decide +kernel
theorem dX2_pipeOfValve_1 : decode cX2_pipeOfValve 1 = .ok (.getfield 27, 3) := by decide +kernel
theorem dX2_pipeOfValve_4 : decode cX2_pipeOfValve 4 = .ok (.iload_n 1, 1) := by decide +kernel
theorem dX2_pipeOfValve_5 : decode cX2_pipeOfValve 5 = .ok (.iaload, 1) := by decide +kernel
theorem dX2_pipeOfValve_6 : decode cX2_pipeOfValve 6 = .ok (.iconst 2, 1) := by decide +kernel
theorem dX2_pipeOfValve_7 : decode cX2_pipeOfValve 7 = .ok (.idiv, 1) := by decide +kernel
theorem dX2_pipeOfValve_8 : decode cX2_pipeOfValve 8 = .ok (.ireturn, 1) := by decide +kernel
theorem dX2_nodeOfValve_0 : decode cX2_nodeOfValve 0 = .ok (.aload_n 0, 1) := by decide +kernel
theorem dX2_nodeOfValve_1 : decode cX2_nodeOfValve 1 = .ok (.getfield 18, 3) := by decide +kernel
theorem dX2_nodeOfValve_4 : decode cX2_nodeOfValve 4 = .ok (.aload_n 0, 1) := by decide +kernel
theorem dX2_nodeOfValve_5 : decode cX2_nodeOfValve 5 = .ok (.getfield 27, 3) := by decide +kernel
theorem dX2_nodeOfValve_8 : decode cX2_nodeOfValve 8 = .ok (.iload_n 1, 1) := by decide +kernel
theorem dX2_nodeOfValve_9 : decode cX2_nodeOfValve 9 = .ok (.iaload, 1) := by decide +kernel
theorem dX2_nodeOfValve_10 : decode cX2_nodeOfValve 10 = .ok (.iaload, 1) := by decide +kernel
theorem dX2_nodeOfValve_11 : decode cX2_nodeOfValve 11 = .ok (.ireturn, 1) := by decide +kernel
theorem dX2_closable_0 : decode cX2_closable 0 = .ok (.iconst 1, 1) := by decide +kernel
theorem dX2_closable_1 : decode cX2_closable 1 = .ok (.aload_n 0, 1) := by decide +kernel
theorem dX2_closable_2 : decode cX2_closable 2 = .ok (.getfield 37, 3) := by decide +kernel
theorem dX2_closable_5 : decode cX2_closable 5 = .ok (.ishl, 1) := by decide +kernel
theorem dX2_closable_6 : decode cX2_closable 6 = .ok (.iconst 1, 1) := by decide +kernel
theorem dX2_closable_7 : decode cX2_closable 7 = .ok (.isub, 1) := by decide +kernel
theorem dX2_closable_8 : decode cX2_closable 8 = .ok (.aload_n 0, 1) := by decide +kernel
theorem dX2_closable_9 : decode cX2_closable 9 = .ok (.getfield 66, 3) := by decide +kernel
theorem dX2_closable_12 : decode cX2_closable 12 = .ok (.iconst (-1), 1) := by decide +kernel
theorem dX2_closable_13 : decode cX2_closable 13 = .ok (.ixor, 1) := by decide +kernel
theorem dX2_closable_14 : decode cX2_closable 14 = .ok (.iand, 1) := by decide +kernel
theorem dX2_closable_15 : decode cX2_closable 15 = .ok (.aload_n 0, 1) := by decide +kernel
theorem dX2_closable_16 : decode cX2_closable 16 = .ok (.getfield 63, 3) := by decide +kernel
theorem dX2_closable_19 : decode cX2_closable 19 = .ok (.iconst (-1), 1) := by decide +kernel
theorem dX2_closable_20 : decode cX2_closable 20 = .ok (.ixor, 1) := by decide +kernel
theorem dX2_closable_21 : decode cX2_closable 21 = .ok (.iand, 1) := by decide +kernel
theorem dX2_closable_22 : decode cX2_closable 22 = .ok (.ireturn, 1) := by decide +kernel
theorem dX2_bounding_0 : decode cX2_bounding 0 = .ok (.sipush 4095, 3) := by decide +kernel
theorem dX2_bounding_3 : decode cX2_bounding 3 = .ok (.aload_n 0, 1) := by decide +kernel
theorem dX2_bounding_4 : decode cX2_bounding 4 = .ok (.getfield 63, 3) := by decide +kernel
theorem dX2_bounding_7 : decode cX2_bounding 7 = .ok (.aload_n 0, 1) := by decide +kernel
theorem dX2_bounding_8 : decode cX2_bounding 8 = .ok (.getfield 66, 3) := by decide +kernel
theorem dX2_bounding_11 : decode cX2_bounding 11 = .ok (.iconst (-1), 1) := by decide +kernel
theorem dX2_bounding_12 : decode cX2_bounding 12 = .ok (.ixor, 1) := by decide +kernel
theorem dX2_bounding_13 : decode cX2_bounding 13 = .ok (.iand, 1) := by decide +kernel
theorem dX2_bounding_14 : decode cX2_bounding 14 = .ok (.iconst (-1), 1) := by decide +kernel
theorem dX2_bounding_15 : decode cX2_bounding 15 = .ok (.ixor, 1) := by decide +kernel
theorem dX2_bounding_16 : decode cX2_bounding 16 = .ok (.iand, 1) := by decide +kernel
theorem dX2_bounding_17 : decode cX2_bounding 17 = .ok (.ireturn, 1) := by decide +kernel
theorem dX2_reach_0 : decode cX2_reach 0 = .ok (.iload_n 1, 1) := by decide +kernel
theorem dX2_reach_1 : decode cX2_reach 1 = .ok (.istore_n 3, 1) := by decide +kernel
theorem dX2_reach_2 : decode cX2_reach 2 = .ok (.iconst 0, 1) := by decide +kernel
theorem dX2_reach_3 : decode cX2_reach 3 = .ok (.istore 4, 2) := by decide +kernel
theorem dX2_reach_5 : decode cX2_reach 5 = .ok (.iload 4, 2) := by decide +kernel
theorem dX2_reach_7 : decode cX2_reach 7 = .ok (.bipush 28, 2) := by decide +kernel
theorem dX2_reach_9 : decode cX2_reach 9 = .ok (.if_icmp .ge 87, 3) := by decide +kernel
theorem dX2_reach_12 : decode cX2_reach 12 = .ok (.iload_n 3, 1) := by decide +kernel
theorem dX2_reach_13 : decode cX2_reach 13 = .ok (.istore 5, 2) := by decide +kernel
theorem dX2_reach_15 : decode cX2_reach 15 = .ok (.iconst 0, 1) := by decide +kernel
theorem dX2_reach_16 : decode cX2_reach 16 = .ok (.istore 6, 2) := by decide +kernel
theorem dX2_reach_18 : decode cX2_reach 18 = .ok (.iload 6, 2) := by decide +kernel
theorem dX2_reach_20 : decode cX2_reach 20 = .ok (.iconst 2, 1) := by decide +kernel
theorem dX2_reach_21 : decode cX2_reach 21 = .ok (.aload_n 0, 1) := by decide +kernel
theorem dX2_reach_22 : decode cX2_reach 22 = .ok (.getfield 34, 3) := by decide +kernel
theorem dX2_reach_25 : decode cX2_reach 25 = .ok (.imul, 1) := by decide +kernel
theorem dX2_reach_26 : decode cX2_reach 26 = .ok (.if_icmp .ge 55, 3) := by decide +kernel
theorem dX2_reach_29 : decode cX2_reach 29 = .ok (.aload_n 0, 1) := by decide +kernel
theorem dX2_reach_30 : decode cX2_reach 30 = .ok (.getfield 21, 3) := by decide +kernel
theorem dX2_reach_33 : decode cX2_reach 33 = .ok (.iload 6, 2) := by decide +kernel
theorem dX2_reach_35 : decode cX2_reach 35 = .ok (.iaload, 1) := by decide +kernel
theorem dX2_reach_36 : decode cX2_reach 36 = .ok (.iload_n 2, 1) := by decide +kernel
theorem dX2_reach_37 : decode cX2_reach 37 = .ok (.iand, 1) := by decide +kernel
theorem dX2_reach_38 : decode cX2_reach 38 = .ok (.ifCond .ne 7, 3) := by decide +kernel
theorem dX2_reach_41 : decode cX2_reach 41 = .ok (.iconst 1, 1) := by decide +kernel
theorem dX2_reach_42 : decode cX2_reach 42 = .ok (.goto 4, 3) := by decide +kernel
theorem dX2_reach_45 : decode cX2_reach 45 = .ok (.iconst 0, 1) := by decide +kernel
theorem dX2_reach_46 : decode cX2_reach 46 = .ok (.istore 7, 2) := by decide +kernel
theorem dX2_reach_48 : decode cX2_reach 48 = .ok (.iload 7, 2) := by decide +kernel
theorem dX2_reach_50 : decode cX2_reach 50 = .ok (.ifCond .eq 25, 3) := by decide +kernel
theorem dX2_reach_53 : decode cX2_reach 53 = .ok (.iload_n 3, 1) := by decide +kernel
theorem dX2_reach_54 : decode cX2_reach 54 = .ok (.aload_n 0, 1) := by decide +kernel
theorem dX2_reach_55 : decode cX2_reach 55 = .ok (.getfield 24, 3) := by decide +kernel
theorem dX2_reach_58 : decode cX2_reach 58 = .ok (.iload 6, 2) := by decide +kernel
theorem dX2_reach_60 : decode cX2_reach 60 = .ok (.iaload, 1) := by decide +kernel
theorem dX2_reach_61 : decode cX2_reach 61 = .ok (.iand, 1) := by decide +kernel
theorem dX2_reach_62 : decode cX2_reach 62 = .ok (.ifCond .eq 13, 3) := by decide +kernel
theorem dX2_reach_65 : decode cX2_reach 65 = .ok (.iload_n 3, 1) := by decide +kernel
theorem dX2_reach_66 : decode cX2_reach 66 = .ok (.aload_n 0, 1) := by decide +kernel
theorem dX2_reach_67 : decode cX2_reach 67 = .ok (.getfield 24, 3) := by decide +kernel
theorem dX2_reach_70 : decode cX2_reach 70 = .ok (.iload 6, 2) := by decide +kernel
theorem dX2_reach_72 : decode cX2_reach 72 = .ok (.iaload, 1) := by decide +kernel
theorem dX2_reach_73 : decode cX2_reach 73 = .ok (.ior, 1) := by decide +kernel
theorem dX2_reach_74 : decode cX2_reach 74 = .ok (.istore_n 3, 1) := by decide +kernel
theorem dX2_reach_75 : decode cX2_reach 75 = .ok (.iinc 6 1, 3) := by decide +kernel
theorem dX2_reach_78 : decode cX2_reach 78 = .ok (.goto (-60), 3) := by decide +kernel
theorem dX2_reach_81 : decode cX2_reach 81 = .ok (.iload_n 3, 1) := by decide +kernel
theorem dX2_reach_82 : decode cX2_reach 82 = .ok (.iload 5, 2) := by decide +kernel
theorem dX2_reach_84 : decode cX2_reach 84 = .ok (.if_icmp .ne 6, 3) := by decide +kernel
theorem dX2_reach_87 : decode cX2_reach 87 = .ok (.goto 9, 3) := by decide +kernel
theorem dX2_reach_90 : decode cX2_reach 90 = .ok (.iinc 4 1, 3) := by decide +kernel
theorem dX2_reach_93 : decode cX2_reach 93 = .ok (.goto (-88), 3) := by decide +kernel
theorem dX2_reach_96 : decode cX2_reach 96 = .ok (.iload_n 3, 1) := by decide +kernel
theorem dX2_reach_97 : decode cX2_reach 97 = .ok (.ireturn, 1) := by decide +kernel
set_option maxRecDepth 20000 in
theorem ggX2_wetBehind_X2_reach : GoodIn wsX2_wetBehind wsX2_reach := goodIn_r _ [7, 8, 9, 10, 11, 12, 13, 14, 15, 16, 17, 18, 19, 20, 21, 22] (by decide +kernel) (by decide +kernel)
set_option maxRecDepth 20000 in
theorem gX2_wetBehind_X2_reach : GoodIn wsX2_wetBehind (wsV RX2 72 RX2 yX2_reach wsX2_reach) := goodIn_app (goodIn_of _ (by decide +kernel)) ggX2_wetBehind_X2_reach
theorem dX2_wetBehind_0 : decode cX2_wetBehind 0 = .ok (.aload_n 0, 1) := by decide +kernel
theorem dX2_wetBehind_1 : decode cX2_wetBehind 1 = .ok (.aload_n 0, 1) := by decide +kernel
theorem dX2_wetBehind_2 : decode cX2_wetBehind 2 = .ok (.getfield 40, 3) := by decide +kernel
theorem dX2_wetBehind_5 : decode cX2_wetBehind 5 = .ok (.aload_n 0, 1) := by decide +kernel
theorem dX2_wetBehind_6 : decode cX2_wetBehind 6 = .ok (.getfield 66, 3) := by decide +kernel
theorem dX2_wetBehind_9 : decode cX2_wetBehind 9 = .ok (.iload_n 1, 1) := by decide +kernel
theorem dX2_wetBehind_10 : decode cX2_wetBehind 10 = .ok (.ior, 1) := by decide +kernel
theorem dX2_wetBehind_11 : decode cX2_wetBehind 11 = .ok (.invokevirtual 72, 3) := by decide +kernel
theorem dX2_wetBehind_14 : decode cX2_wetBehind 14 = .ok (.ireturn, 1) := by decide +kernel
set_option maxRecDepth 20000 in
theorem ggX2_customersOf_X5_partOfPipe : GoodIn wsX2_customersOf wsX5_partOfPipe := goodIn_r _ [5] (by decide +kernel) (by decide +kernel)
set_option maxRecDepth 20000 in
theorem gX2_customersOf_X5_partOfPipe_n51 : GoodIn wsX2_customersOf (wsX5_partOfPipe) := ggX2_customersOf_X5_partOfPipe
set_option maxRecDepth 20000 in
theorem ggX2_customersOf_X5_hasBit : GoodIn wsX2_customersOf wsX5_hasBit := goodIn_r _ [7] (by decide +kernel) (by decide +kernel)
set_option maxRecDepth 20000 in
theorem gX2_customersOf_X5_hasBit_n55 : GoodIn wsX2_customersOf (wsX5_hasBit) := ggX2_customersOf_X5_hasBit
theorem dX2_customersOf_0 : decode cX2_customersOf 0 = .ok (.iconst 0, 1) := by decide +kernel
theorem dX2_customersOf_1 : decode cX2_customersOf 1 = .ok (.istore_n 2, 1) := by decide +kernel
theorem dX2_customersOf_2 : decode cX2_customersOf 2 = .ok (.iconst 0, 1) := by decide +kernel
theorem dX2_customersOf_3 : decode cX2_customersOf 3 = .ok (.istore_n 3, 1) := by decide +kernel
theorem dX2_customersOf_4 : decode cX2_customersOf 4 = .ok (.iload_n 3, 1) := by decide +kernel
theorem dX2_customersOf_5 : decode cX2_customersOf 5 = .ok (.aload_n 0, 1) := by decide +kernel
theorem dX2_customersOf_6 : decode cX2_customersOf 6 = .ok (.getfield 34, 3) := by decide +kernel
theorem dX2_customersOf_9 : decode cX2_customersOf 9 = .ok (.if_icmp .ge 29, 3) := by decide +kernel
theorem dX2_customersOf_12 : decode cX2_customersOf 12 = .ok (.iload_n 1, 1) := by decide +kernel
theorem dX2_customersOf_13 : decode cX2_customersOf 13 = .ok (.iload_n 3, 1) := by decide +kernel
theorem dX2_customersOf_14 : decode cX2_customersOf 14 = .ok (.invokestatic 51, 3) := by decide +kernel
theorem dX2_customersOf_17 : decode cX2_customersOf 17 = .ok (.invokestatic 55, 3) := by decide +kernel
theorem dX2_customersOf_20 : decode cX2_customersOf 20 = .ok (.ifCond .eq 12, 3) := by decide +kernel
theorem dX2_customersOf_23 : decode cX2_customersOf 23 = .ok (.iload_n 2, 1) := by decide +kernel
theorem dX2_customersOf_24 : decode cX2_customersOf 24 = .ok (.aload_n 0, 1) := by decide +kernel
theorem dX2_customersOf_25 : decode cX2_customersOf 25 = .ok (.getfield 15, 3) := by decide +kernel
theorem dX2_customersOf_28 : decode cX2_customersOf 28 = .ok (.iload_n 3, 1) := by decide +kernel
theorem dX2_customersOf_29 : decode cX2_customersOf 29 = .ok (.iaload, 1) := by decide +kernel
theorem dX2_customersOf_30 : decode cX2_customersOf 30 = .ok (.iadd, 1) := by decide +kernel
theorem dX2_customersOf_31 : decode cX2_customersOf 31 = .ok (.istore_n 2, 1) := by decide +kernel
theorem dX2_customersOf_32 : decode cX2_customersOf 32 = .ok (.iinc 3 1, 3) := by decide +kernel
theorem dX2_customersOf_35 : decode cX2_customersOf 35 = .ok (.goto (-31), 3) := by decide +kernel
theorem dX2_customersOf_38 : decode cX2_customersOf 38 = .ok (.iload_n 2, 1) := by decide +kernel
theorem dX2_customersOf_39 : decode cX2_customersOf 39 = .ok (.ireturn, 1) := by decide +kernel
theorem dX3_init_0 : decode cX3_init 0 = .ok (.aload_n 0, 1) := by decide +kernel
theorem dX3_init_1 : decode cX3_init 1 = .ok (.invokespecial 3, 3) := by decide +kernel
theorem dX3_init_4 : decode cX3_init 4 = .ok (.aload_n 0, 1) := by decide +kernel
theorem dX3_init_5 : decode cX3_init 5 = .ok (.bipush 28, 2) := by decide +kernel
theorem dX3_init_7 : decode cX3_init 7 = .ok (.newarray .int, 2) := by decide +kernel
theorem dX3_init_9 : decode cX3_init 9 = .ok (.putfield 9, 3) := by decide +kernel
theorem dX3_init_12 : decode cX3_init 12 = .ok (.aload_n 0, 1) := by decide +kernel
theorem dX3_init_13 : decode cX3_init 13 = .ok (.aload_n 1, 1) := by decide +kernel
theorem dX3_init_14 : decode cX3_init 14 = .ok (.putfield 15, 3) := by decide +kernel
theorem dX3_init_17 : decode cX3_init 17 = .ok (.return_, 1) := by decide +kernel
set_option maxRecDepth 20000 in
theorem ggX3_count_X3_countBegunBelow : GoodIn wsX3_count wsX3_countBegunBelow := goodIn_r _ [5, 6, 7, 8, 9, 10, 11, 12, 13, 14, 15, 16, 17, 18, 19, 20, 21, 4, 22, 23, 24, 25, 26, 27, 28, 29, 30, 31, 32, 33, 34, 35, 36, 37, 38, 39, 40, 41, 42] (by decide +kernel) (by decide +kernel)
set_option maxRecDepth 20000 in
theorem gX3_count_X3_countBegunBelow : GoodIn wsX3_count (wsV RX3 19 RX3 yX3_countBegunBelow wsX3_countBegunBelow) := goodIn_app (goodIn_of _ (by decide +kernel)) ggX3_count_X3_countBegunBelow
theorem dX3_count_0 : decode cX3_count 0 = .ok (.aload_n 0, 1) := by decide +kernel
theorem dX3_count_1 : decode cX3_count 1 = .ok (.bipush 28, 2) := by decide +kernel
theorem dX3_count_3 : decode cX3_count 3 = .ok (.invokevirtual 19, 3) := by decide +kernel
theorem dX3_count_6 : decode cX3_count 6 = .ok (.ireturn, 1) := by decide +kernel
set_option maxRecDepth 20000 in
theorem ggX3_numberByWalking_X3_segmentWith : GoodIn wsX3_numberByWalking wsX3_segmentWith := goodIn_r _ [5, 6, 7, 8, 9, 10, 11, 12, 13, 14, 34, 35, 36, 37, 38, 39, 40, 41, 42, 43, 44, 45, 46, 47] (by decide +kernel) (by decide +kernel)
set_option maxRecDepth 20000 in
theorem gX3_numberByWalking_X3_segmentWith : GoodIn wsX3_numberByWalking (wsV RX3 23 RX3 yX3_segmentWith wsX3_segmentWith) := goodIn_app (goodIn_of _ (by decide +kernel)) ggX3_numberByWalking_X3_segmentWith
set_option maxRecDepth 20000 in
theorem ggX3_numberByWalking_J6_numberOfTrailingZeros_0f7a4 : GoodIn wsX3_numberByWalking wsJ6_numberOfTrailingZeros_0f7a4 := goodIn_r _ [18, 19] (by decide +kernel) (by decide +kernel)
set_option maxRecDepth 20000 in
theorem gX3_numberByWalking_J6_numberOfTrailingZeros_0f7a4 : GoodIn wsX3_numberByWalking (va_wsS RX3 26 yJ6_numberOfTrailingZeros_0f7a4 wsJ6_numberOfTrailingZeros_0f7a4) := goodIn_app (goodIn_of _ (by decide +kernel)) ggX3_numberByWalking_J6_numberOfTrailingZeros_0f7a4
set_option maxRecDepth 20000 in
theorem ggX3_numberByWalking_X3_countBegunBelow : GoodIn wsX3_numberByWalking wsX3_countBegunBelow := goodIn_r _ [23, 6, 24, 25, 26, 10, 27, 28, 12, 29, 30, 31, 32, 33, 1, 2, 3, 4, 5, 7, 8, 9, 11, 13, 14, 34, 35, 36, 37, 38, 39, 40, 41, 42, 43, 44, 45, 46, 47] (by decide +kernel) (by decide +kernel)
set_option maxRecDepth 20000 in
theorem gX3_numberByWalking_X3_countBegunBelow : GoodIn wsX3_numberByWalking (wsV RX3 19 RX3 yX3_countBegunBelow wsX3_countBegunBelow) := goodIn_app (goodIn_of _ (by decide +kernel)) ggX3_numberByWalking_X3_countBegunBelow
theorem dX3_numberByWalking_0 : decode cX3_numberByWalking 0 = .ok (.aload_n 0, 1) := by decide +kernel
theorem dX3_numberByWalking_1 : decode cX3_numberByWalking 1 = .ok (.iload_n 1, 1) := by decide +kernel
theorem dX3_numberByWalking_2 : decode cX3_numberByWalking 2 = .ok (.invokevirtual 23, 3) := by decide +kernel
theorem dX3_numberByWalking_5 : decode cX3_numberByWalking 5 = .ok (.invokestatic 26, 3) := by decide +kernel
theorem dX3_numberByWalking_8 : decode cX3_numberByWalking 8 = .ok (.istore_n 2, 1) := by decide +kernel
theorem dX3_numberByWalking_9 : decode cX3_numberByWalking 9 = .ok (.aload_n 0, 1) := by decide +kernel
theorem dX3_numberByWalking_10 : decode cX3_numberByWalking 10 = .ok (.iload_n 2, 1) := by decide +kernel
theorem dX3_numberByWalking_11 : decode cX3_numberByWalking 11 = .ok (.invokevirtual 19, 3) := by decide +kernel
theorem dX3_numberByWalking_14 : decode cX3_numberByWalking 14 = .ok (.ireturn, 1) := by decide +kernel
set_option maxRecDepth 20000 in
theorem ggX3_segmentWith_X2_reach : GoodIn wsX3_segmentWith wsX2_reach := goodIn_r _ [6, 7, 8, 9, 12, 13, 14, 15, 16, 17, 18, 19, 20, 21, 22, 23] (by decide +kernel) (by decide +kernel)
set_option maxRecDepth 20000 in
theorem gX3_segmentWith_X2_reach : GoodIn wsX3_segmentWith (wsV RX3 31 RX2 yX2_reach wsX2_reach) := goodIn_app (goodIn_of _ (by decide +kernel)) ggX3_segmentWith_X2_reach
theorem dX3_segmentWith_0 : decode cX3_segmentWith 0 = .ok (.aload_n 0, 1) := by decide +kernel
theorem dX3_segmentWith_1 : decode cX3_segmentWith 1 = .ok (.getfield 15, 3) := by decide +kernel
theorem dX3_segmentWith_4 : decode cX3_segmentWith 4 = .ok (.iconst 1, 1) := by decide +kernel
theorem dX3_segmentWith_5 : decode cX3_segmentWith 5 = .ok (.iload_n 1, 1) := by decide +kernel
theorem dX3_segmentWith_6 : decode cX3_segmentWith 6 = .ok (.ishl, 1) := by decide +kernel
theorem dX3_segmentWith_7 : decode cX3_segmentWith 7 = .ok (.sipush 4095, 3) := by decide +kernel
theorem dX3_segmentWith_10 : decode cX3_segmentWith 10 = .ok (.invokevirtual 31, 3) := by decide +kernel
theorem dX3_segmentWith_13 : decode cX3_segmentWith 13 = .ok (.ireturn, 1) := by decide +kernel
set_option maxRecDepth 20000 in
theorem ggX3_countBegunBelow_X2_hasPart : GoodIn wsX3_countBegunBelow wsX2_hasPart := goodIn_r _ [6, 7, 8, 9, 10, 11, 27, 28, 29, 30, 31, 32, 33, 34, 35, 36, 37, 38] (by decide +kernel) (by decide +kernel)
set_option maxRecDepth 20000 in
theorem gX3_countBegunBelow_X2_hasPart : GoodIn wsX3_countBegunBelow (wsV RX3 37 RX2 yX2_hasPart wsX2_hasPart) := goodIn_app (goodIn_of _ (by decide +kernel)) ggX3_countBegunBelow_X2_hasPart
set_option maxRecDepth 20000 in
theorem ggX3_countBegunBelow_X5_hasBit : GoodIn wsX3_countBegunBelow wsX5_hasBit := goodIn_r _ [13] (by decide +kernel) (by decide +kernel)
set_option maxRecDepth 20000 in
theorem gX3_countBegunBelow_X5_hasBit_n41 : GoodIn wsX3_countBegunBelow (wsX5_hasBit) := ggX3_countBegunBelow_X5_hasBit
set_option maxRecDepth 20000 in
theorem ggX3_countBegunBelow_X3_segmentWith : GoodIn wsX3_countBegunBelow wsX3_segmentWith := goodIn_r _ [18, 1, 19, 20, 21, 5, 22, 8, 23, 24, 25, 26, 27, 28, 29, 30, 31, 32, 33, 34, 35, 36, 37, 38] (by decide +kernel) (by decide +kernel)
set_option maxRecDepth 20000 in
theorem gX3_countBegunBelow_X3_segmentWith : GoodIn wsX3_countBegunBelow (wsV RX3 23 RX3 yX3_segmentWith wsX3_segmentWith) := goodIn_app (goodIn_of _ (by decide +kernel)) ggX3_countBegunBelow_X3_segmentWith
theorem dX3_countBegunBelow_0 : decode cX3_countBegunBelow 0 = .ok (.iconst 0, 1) := by decide +kernel
theorem dX3_countBegunBelow_1 : decode cX3_countBegunBelow 1 = .ok (.istore_n 2, 1) := by decide +kernel
theorem dX3_countBegunBelow_2 : decode cX3_countBegunBelow 2 = .ok (.iconst 0, 1) := by decide +kernel
theorem dX3_countBegunBelow_3 : decode cX3_countBegunBelow 3 = .ok (.istore_n 3, 1) := by decide +kernel
theorem dX3_countBegunBelow_4 : decode cX3_countBegunBelow 4 = .ok (.iconst 0, 1) := by decide +kernel
theorem dX3_countBegunBelow_5 : decode cX3_countBegunBelow 5 = .ok (.istore 4, 2) := by decide +kernel
theorem dX3_countBegunBelow_7 : decode cX3_countBegunBelow 7 = .ok (.iload 4, 2) := by decide +kernel
theorem dX3_countBegunBelow_9 : decode cX3_countBegunBelow 9 = .ok (.iload_n 1, 1) := by decide +kernel
theorem dX3_countBegunBelow_10 : decode cX3_countBegunBelow 10 = .ok (.if_icmp .ge 42, 3) := by decide +kernel
theorem dX3_countBegunBelow_13 : decode cX3_countBegunBelow 13 = .ok (.aload_n 0, 1) := by decide +kernel
theorem dX3_countBegunBelow_14 : decode cX3_countBegunBelow 14 = .ok (.getfield 15, 3) := by decide +kernel
theorem dX3_countBegunBelow_17 : decode cX3_countBegunBelow 17 = .ok (.iload 4, 2) := by decide +kernel
theorem dX3_countBegunBelow_19 : decode cX3_countBegunBelow 19 = .ok (.invokevirtual 37, 3) := by decide +kernel
theorem dX3_countBegunBelow_22 : decode cX3_countBegunBelow 22 = .ok (.ifCond .eq 24, 3) := by decide +kernel
theorem dX3_countBegunBelow_25 : decode cX3_countBegunBelow 25 = .ok (.iload_n 2, 1) := by decide +kernel
theorem dX3_countBegunBelow_26 : decode cX3_countBegunBelow 26 = .ok (.iload 4, 2) := by decide +kernel
theorem dX3_countBegunBelow_28 : decode cX3_countBegunBelow 28 = .ok (.invokestatic 41, 3) := by decide +kernel
theorem dX3_countBegunBelow_31 : decode cX3_countBegunBelow 31 = .ok (.ifCond .ne 15, 3) := by decide +kernel
theorem dX3_countBegunBelow_34 : decode cX3_countBegunBelow 34 = .ok (.iload_n 2, 1) := by decide +kernel
theorem dX3_countBegunBelow_35 : decode cX3_countBegunBelow 35 = .ok (.aload_n 0, 1) := by decide +kernel
theorem dX3_countBegunBelow_36 : decode cX3_countBegunBelow 36 = .ok (.iload 4, 2) := by decide +kernel
theorem dX3_countBegunBelow_38 : decode cX3_countBegunBelow 38 = .ok (.invokevirtual 23, 3) := by decide +kernel
theorem dX3_countBegunBelow_41 : decode cX3_countBegunBelow 41 = .ok (.ior, 1) := by decide +kernel
theorem dX3_countBegunBelow_42 : decode cX3_countBegunBelow 42 = .ok (.istore_n 2, 1) := by decide +kernel
theorem dX3_countBegunBelow_43 : decode cX3_countBegunBelow 43 = .ok (.iinc 3 1, 3) := by decide +kernel
theorem dX3_countBegunBelow_46 : decode cX3_countBegunBelow 46 = .ok (.iinc 4 1, 3) := by decide +kernel
theorem dX3_countBegunBelow_49 : decode cX3_countBegunBelow 49 = .ok (.goto (-42), 3) := by decide +kernel
theorem dX3_countBegunBelow_52 : decode cX3_countBegunBelow 52 = .ok (.iload_n 3, 1) := by decide +kernel
theorem dX3_countBegunBelow_53 : decode cX3_countBegunBelow 53 = .ok (.ireturn, 1) := by decide +kernel
set_option maxRecDepth 20000 in
theorem ggX3_numberByMerging_X3_mergePipes : GoodIn wsX3_numberByMerging wsX3_mergePipes := goodIn_r _ [6, 7, 1, 8, 9, 10, 11, 12, 13, 14, 15, 16, 17, 18, 19, 20, 21, 22, 23, 24, 25, 26, 27, 28, 29, 5, 30, 31, 32, 33, 34, 35, 36, 37, 38, 39, 40, 41, 47, 48, 49, 50, 51, 52, 53, 54, 55, 56, 57, 58, 59, 60] (by decide +kernel) (by decide +kernel)
set_option maxRecDepth 20000 in
theorem gX3_numberByMerging_X3_mergePipes : GoodIn wsX3_numberByMerging (wsV RX3 45 RX3 yX3_mergePipes wsX3_mergePipes) := goodIn_app (goodIn_of _ (by decide +kernel)) ggX3_numberByMerging_X3_mergePipes
set_option maxRecDepth 20000 in
theorem ggX3_numberByMerging_X3_firstOfSet : GoodIn wsX3_numberByMerging wsX3_firstOfSet := goodIn_r _ [41, 7, 47, 48] (by decide +kernel) (by decide +kernel)
set_option maxRecDepth 20000 in
theorem gX3_numberByMerging_X3_firstOfSet : GoodIn wsX3_numberByMerging (wsV RX3 48 RX3 yX3_firstOfSet wsX3_firstOfSet) := goodIn_app (goodIn_of _ (by decide +kernel)) ggX3_numberByMerging_X3_firstOfSet
set_option maxRecDepth 20000 in
theorem ggX3_numberByMerging_X2_hasPart : GoodIn wsX3_numberByMerging wsX2_hasPart := goodIn_r _ [45, 46, 13, 19, 20, 21, 49, 50, 51, 52, 53, 54, 55, 56, 57, 58, 59, 60] (by decide +kernel) (by decide +kernel)
set_option maxRecDepth 20000 in
theorem gX3_numberByMerging_X2_hasPart : GoodIn wsX3_numberByMerging (wsV RX3 37 RX2 yX2_hasPart wsX2_hasPart) := goodIn_app (goodIn_of _ (by decide +kernel)) ggX3_numberByMerging_X2_hasPart
theorem dX3_numberByMerging_0 : decode cX3_numberByMerging 0 = .ok (.aload_n 0, 1) := by decide +kernel
theorem dX3_numberByMerging_1 : decode cX3_numberByMerging 1 = .ok (.invokevirtual 45, 3) := by decide +kernel
theorem dX3_numberByMerging_4 : decode cX3_numberByMerging 4 = .ok (.aload_n 0, 1) := by decide +kernel
theorem dX3_numberByMerging_5 : decode cX3_numberByMerging 5 = .ok (.iload_n 1, 1) := by decide +kernel
theorem dX3_numberByMerging_6 : decode cX3_numberByMerging 6 = .ok (.invokevirtual 48, 3) := by decide +kernel
theorem dX3_numberByMerging_9 : decode cX3_numberByMerging 9 = .ok (.istore_n 2, 1) := by decide +kernel
theorem dX3_numberByMerging_10 : decode cX3_numberByMerging 10 = .ok (.iconst 0, 1) := by decide +kernel
theorem dX3_numberByMerging_11 : decode cX3_numberByMerging 11 = .ok (.istore_n 3, 1) := by decide +kernel
theorem dX3_numberByMerging_12 : decode cX3_numberByMerging 12 = .ok (.iconst 0, 1) := by decide +kernel
theorem dX3_numberByMerging_13 : decode cX3_numberByMerging 13 = .ok (.istore 4, 2) := by decide +kernel
theorem dX3_numberByMerging_15 : decode cX3_numberByMerging 15 = .ok (.iload 4, 2) := by decide +kernel
theorem dX3_numberByMerging_17 : decode cX3_numberByMerging 17 = .ok (.iload_n 2, 1) := by decide +kernel
theorem dX3_numberByMerging_18 : decode cX3_numberByMerging 18 = .ok (.if_icmp .ge 35, 3) := by decide +kernel
theorem dX3_numberByMerging_21 : decode cX3_numberByMerging 21 = .ok (.aload_n 0, 1) := by decide +kernel
theorem dX3_numberByMerging_22 : decode cX3_numberByMerging 22 = .ok (.getfield 15, 3) := by decide +kernel
theorem dX3_numberByMerging_25 : decode cX3_numberByMerging 25 = .ok (.iload 4, 2) := by decide +kernel
theorem dX3_numberByMerging_27 : decode cX3_numberByMerging 27 = .ok (.invokevirtual 37, 3) := by decide +kernel
theorem dX3_numberByMerging_30 : decode cX3_numberByMerging 30 = .ok (.ifCond .eq 17, 3) := by decide +kernel
theorem dX3_numberByMerging_33 : decode cX3_numberByMerging 33 = .ok (.aload_n 0, 1) := by decide +kernel
theorem dX3_numberByMerging_34 : decode cX3_numberByMerging 34 = .ok (.iload 4, 2) := by decide +kernel
theorem dX3_numberByMerging_36 : decode cX3_numberByMerging 36 = .ok (.invokevirtual 48, 3) := by decide +kernel
theorem dX3_numberByMerging_39 : decode cX3_numberByMerging 39 = .ok (.iload 4, 2) := by decide +kernel
theorem dX3_numberByMerging_41 : decode cX3_numberByMerging 41 = .ok (.if_icmp .ne 6, 3) := by decide +kernel
theorem dX3_numberByMerging_44 : decode cX3_numberByMerging 44 = .ok (.iinc 3 1, 3) := by decide +kernel
theorem dX3_numberByMerging_47 : decode cX3_numberByMerging 47 = .ok (.iinc 4 1, 3) := by decide +kernel
theorem dX3_numberByMerging_50 : decode cX3_numberByMerging 50 = .ok (.goto (-35), 3) := by decide +kernel
theorem dX3_numberByMerging_53 : decode cX3_numberByMerging 53 = .ok (.iload_n 3, 1) := by decide +kernel
theorem dX3_numberByMerging_54 : decode cX3_numberByMerging 54 = .ok (.ireturn, 1) := by decide +kernel
set_option maxRecDepth 20000 in
theorem ggX3_mergePipes_X2_pipeCount : GoodIn wsX3_mergePipes wsX2_pipeCount := goodIn_r _ [7, 8, 40, 41, 42, 43, 44, 45, 46, 47, 48, 49, 50, 51] (by decide +kernel) (by decide +kernel)
set_option maxRecDepth 20000 in
theorem gX3_mergePipes_X2_pipeCount : GoodIn wsX3_mergePipes (wsV RX3 51 RX2 yX2_pipeCount wsX2_pipeCount) := goodIn_app (goodIn_of _ (by decide +kernel)) ggX3_mergePipes_X2_pipeCount
set_option maxRecDepth 20000 in
theorem ggX3_mergePipes_X2_valveBitAt : GoodIn wsX3_mergePipes wsX2_valveBitAt := goodIn_r _ [12, 13, 40, 41, 42, 43, 44, 45, 46, 47, 48, 49, 50, 51] (by decide +kernel) (by decide +kernel)
set_option maxRecDepth 20000 in
theorem gX3_mergePipes_X2_valveBitAt : GoodIn wsX3_mergePipes (wsV RX3 55 RX2 yX2_valveBitAt wsX2_valveBitAt) := goodIn_app (goodIn_of _ (by decide +kernel)) ggX3_mergePipes_X2_valveBitAt
set_option maxRecDepth 20000 in
theorem ggX3_mergePipes_X5_partOfPipe : GoodIn wsX3_mergePipes wsX5_partOfPipe := goodIn_r _ [16] (by decide +kernel) (by decide +kernel)
set_option maxRecDepth 20000 in
theorem gX3_mergePipes_X5_partOfPipe_n58 : GoodIn wsX3_mergePipes (wsX5_partOfPipe) := ggX3_mergePipes_X5_partOfPipe
set_option maxRecDepth 20000 in
theorem ggX3_mergePipes_X2_nodeAt : GoodIn wsX3_mergePipes wsX2_nodeAt := goodIn_r _ [20, 21, 40, 41, 42, 43, 44, 45, 46, 47, 48, 49, 50, 51] (by decide +kernel) (by decide +kernel)
set_option maxRecDepth 20000 in
theorem gX3_mergePipes_X2_nodeAt : GoodIn wsX3_mergePipes (wsV RX3 61 RX2 yX2_nodeAt wsX2_nodeAt) := goodIn_app (goodIn_of _ (by decide +kernel)) ggX3_mergePipes_X2_nodeAt
set_option maxRecDepth 20000 in
theorem ggX3_mergePipes_X3_merge : GoodIn wsX3_mergePipes wsX3_merge := goodIn_r _ [26, 1, 27, 28, 29, 30, 31, 32, 33, 34, 35, 36, 25, 37, 38, 39] (by decide +kernel) (by decide +kernel)
set_option maxRecDepth 20000 in
theorem gX3_mergePipes_X3_merge : GoodIn wsX3_mergePipes (wsV RX3 64 RX3 yX3_merge wsX3_merge) := goodIn_app (goodIn_of _ (by decide +kernel)) ggX3_mergePipes_X3_merge
theorem dX3_mergePipes_0 : decode cX3_mergePipes 0 = .ok (.iconst 0, 1) := by decide +kernel
theorem dX3_mergePipes_1 : decode cX3_mergePipes 1 = .ok (.istore_n 1, 1) := by decide +kernel
theorem dX3_mergePipes_2 : decode cX3_mergePipes 2 = .ok (.iload_n 1, 1) := by decide +kernel
theorem dX3_mergePipes_3 : decode cX3_mergePipes 3 = .ok (.bipush 28, 2) := by decide +kernel
theorem dX3_mergePipes_5 : decode cX3_mergePipes 5 = .ok (.if_icmp .ge 16, 3) := by decide +kernel
theorem dX3_mergePipes_8 : decode cX3_mergePipes 8 = .ok (.aload_n 0, 1) := by decide +kernel
theorem dX3_mergePipes_9 : decode cX3_mergePipes 9 = .ok (.getfield 9, 3) := by decide +kernel
theorem dX3_mergePipes_12 : decode cX3_mergePipes 12 = .ok (.iload_n 1, 1) := by decide +kernel
theorem dX3_mergePipes_13 : decode cX3_mergePipes 13 = .ok (.iload_n 1, 1) := by decide +kernel
theorem dX3_mergePipes_14 : decode cX3_mergePipes 14 = .ok (.iastore, 1) := by decide +kernel
theorem dX3_mergePipes_15 : decode cX3_mergePipes 15 = .ok (.iinc 1 1, 3) := by decide +kernel
theorem dX3_mergePipes_18 : decode cX3_mergePipes 18 = .ok (.goto (-16), 3) := by decide +kernel
theorem dX3_mergePipes_21 : decode cX3_mergePipes 21 = .ok (.iconst 0, 1) := by decide +kernel
theorem dX3_mergePipes_22 : decode cX3_mergePipes 22 = .ok (.istore_n 1, 1) := by decide +kernel
theorem dX3_mergePipes_23 : decode cX3_mergePipes 23 = .ok (.iload_n 1, 1) := by decide +kernel
theorem dX3_mergePipes_24 : decode cX3_mergePipes 24 = .ok (.aload_n 0, 1) := by decide +kernel
theorem dX3_mergePipes_25 : decode cX3_mergePipes 25 = .ok (.getfield 15, 3) := by decide +kernel
theorem dX3_mergePipes_28 : decode cX3_mergePipes 28 = .ok (.invokevirtual 51, 3) := by decide +kernel
theorem dX3_mergePipes_31 : decode cX3_mergePipes 31 = .ok (.if_icmp .ge 51, 3) := by decide +kernel
theorem dX3_mergePipes_34 : decode cX3_mergePipes 34 = .ok (.iconst 0, 1) := by decide +kernel
theorem dX3_mergePipes_35 : decode cX3_mergePipes 35 = .ok (.istore_n 2, 1) := by decide +kernel
theorem dX3_mergePipes_36 : decode cX3_mergePipes 36 = .ok (.iload_n 2, 1) := by decide +kernel
theorem dX3_mergePipes_37 : decode cX3_mergePipes 37 = .ok (.iconst 2, 1) := by decide +kernel
theorem dX3_mergePipes_38 : decode cX3_mergePipes 38 = .ok (.if_icmp .ge 38, 3) := by decide +kernel
theorem dX3_mergePipes_41 : decode cX3_mergePipes 41 = .ok (.aload_n 0, 1) := by decide +kernel
theorem dX3_mergePipes_42 : decode cX3_mergePipes 42 = .ok (.getfield 15, 3) := by decide +kernel
theorem dX3_mergePipes_45 : decode cX3_mergePipes 45 = .ok (.iload_n 1, 1) := by decide +kernel
theorem dX3_mergePipes_46 : decode cX3_mergePipes 46 = .ok (.iload_n 2, 1) := by decide +kernel
theorem dX3_mergePipes_47 : decode cX3_mergePipes 47 = .ok (.invokevirtual 55, 3) := by decide +kernel
theorem dX3_mergePipes_50 : decode cX3_mergePipes 50 = .ok (.ifCond .ne 20, 3) := by decide +kernel
theorem dX3_mergePipes_53 : decode cX3_mergePipes 53 = .ok (.aload_n 0, 1) := by decide +kernel
theorem dX3_mergePipes_54 : decode cX3_mergePipes 54 = .ok (.iload_n 1, 1) := by decide +kernel
theorem dX3_mergePipes_55 : decode cX3_mergePipes 55 = .ok (.invokestatic 58, 3) := by decide +kernel
theorem dX3_mergePipes_58 : decode cX3_mergePipes 58 = .ok (.aload_n 0, 1) := by decide +kernel
theorem dX3_mergePipes_59 : decode cX3_mergePipes 59 = .ok (.getfield 15, 3) := by decide +kernel
theorem dX3_mergePipes_62 : decode cX3_mergePipes 62 = .ok (.iload_n 1, 1) := by decide +kernel
theorem dX3_mergePipes_63 : decode cX3_mergePipes 63 = .ok (.iload_n 2, 1) := by decide +kernel
theorem dX3_mergePipes_64 : decode cX3_mergePipes 64 = .ok (.invokevirtual 61, 3) := by decide +kernel
theorem dX3_mergePipes_67 : decode cX3_mergePipes 67 = .ok (.invokevirtual 64, 3) := by decide +kernel
theorem dX3_mergePipes_70 : decode cX3_mergePipes 70 = .ok (.iinc 2 1, 3) := by decide +kernel
theorem dX3_mergePipes_73 : decode cX3_mergePipes 73 = .ok (.goto (-37), 3) := by decide +kernel
theorem dX3_mergePipes_76 : decode cX3_mergePipes 76 = .ok (.iinc 1 1, 3) := by decide +kernel
theorem dX3_mergePipes_79 : decode cX3_mergePipes 79 = .ok (.goto (-56), 3) := by decide +kernel
theorem dX3_mergePipes_82 : decode cX3_mergePipes 82 = .ok (.return_, 1) := by decide +kernel
set_option maxRecDepth 20000 in
theorem ggX3_merge_X3_firstOfSet : GoodIn wsX3_merge wsX3_firstOfSet := goodIn_r _ [13, 1, 14, 15] (by decide +kernel) (by decide +kernel)
set_option maxRecDepth 20000 in
theorem gX3_merge_X3_firstOfSet : GoodIn wsX3_merge (wsV RX3 48 RX3 yX3_firstOfSet wsX3_firstOfSet) := goodIn_app (goodIn_of _ (by decide +kernel)) ggX3_merge_X3_firstOfSet
theorem dX3_merge_0 : decode cX3_merge 0 = .ok (.aload_n 0, 1) := by decide +kernel
theorem dX3_merge_1 : decode cX3_merge 1 = .ok (.iload_n 1, 1) := by decide +kernel
theorem dX3_merge_2 : decode cX3_merge 2 = .ok (.invokevirtual 48, 3) := by decide +kernel
theorem dX3_merge_5 : decode cX3_merge 5 = .ok (.istore_n 3, 1) := by decide +kernel
theorem dX3_merge_6 : decode cX3_merge 6 = .ok (.aload_n 0, 1) := by decide +kernel
theorem dX3_merge_7 : decode cX3_merge 7 = .ok (.iload_n 2, 1) := by decide +kernel
theorem dX3_merge_8 : decode cX3_merge 8 = .ok (.invokevirtual 48, 3) := by decide +kernel
theorem dX3_merge_11 : decode cX3_merge 11 = .ok (.istore 4, 2) := by decide +kernel
theorem dX3_merge_13 : decode cX3_merge 13 = .ok (.aload_n 0, 1) := by decide +kernel
theorem dX3_merge_14 : decode cX3_merge 14 = .ok (.getfield 9, 3) := by decide +kernel
theorem dX3_merge_17 : decode cX3_merge 17 = .ok (.iload_n 3, 1) := by decide +kernel
theorem dX3_merge_18 : decode cX3_merge 18 = .ok (.iload 4, 2) := by decide +kernel
theorem dX3_merge_20 : decode cX3_merge 20 = .ok (.invokestatic 68, 3) := by decide +kernel
theorem dX3_merge_23 : decode cX3_merge 23 = .ok (.iload_n 3, 1) := by decide +kernel
theorem dX3_merge_24 : decode cX3_merge 24 = .ok (.iload 4, 2) := by decide +kernel
theorem dX3_merge_26 : decode cX3_merge 26 = .ok (.invokestatic 73, 3) := by decide +kernel
theorem dX3_merge_29 : decode cX3_merge 29 = .ok (.iastore, 1) := by decide +kernel
theorem dX3_merge_30 : decode cX3_merge 30 = .ok (.return_, 1) := by decide +kernel
theorem dX3_firstOfSet_0 : decode cX3_firstOfSet 0 = .ok (.iload_n 1, 1) := by decide +kernel
theorem dX3_firstOfSet_1 : decode cX3_firstOfSet 1 = .ok (.istore_n 2, 1) := by decide +kernel
theorem dX3_firstOfSet_2 : decode cX3_firstOfSet 2 = .ok (.iconst 0, 1) := by decide +kernel
theorem dX3_firstOfSet_3 : decode cX3_firstOfSet 3 = .ok (.istore_n 3, 1) := by decide +kernel
theorem dX3_firstOfSet_4 : decode cX3_firstOfSet 4 = .ok (.iload_n 3, 1) := by decide +kernel
theorem dX3_firstOfSet_5 : decode cX3_firstOfSet 5 = .ok (.bipush 28, 2) := by decide +kernel
theorem dX3_firstOfSet_7 : decode cX3_firstOfSet 7 = .ok (.if_icmp .ge 26, 3) := by decide +kernel
theorem dX3_firstOfSet_10 : decode cX3_firstOfSet 10 = .ok (.aload_n 0, 1) := by decide +kernel
theorem dX3_firstOfSet_11 : decode cX3_firstOfSet 11 = .ok (.getfield 9, 3) := by decide +kernel
theorem dX3_firstOfSet_14 : decode cX3_firstOfSet 14 = .ok (.iload_n 2, 1) := by decide +kernel
theorem dX3_firstOfSet_15 : decode cX3_firstOfSet 15 = .ok (.iaload, 1) := by decide +kernel
theorem dX3_firstOfSet_16 : decode cX3_firstOfSet 16 = .ok (.iload_n 2, 1) := by decide +kernel
theorem dX3_firstOfSet_17 : decode cX3_firstOfSet 17 = .ok (.if_icmp .eq 16, 3) := by decide +kernel
theorem dX3_firstOfSet_20 : decode cX3_firstOfSet 20 = .ok (.aload_n 0, 1) := by decide +kernel
theorem dX3_firstOfSet_21 : decode cX3_firstOfSet 21 = .ok (.getfield 9, 3) := by decide +kernel
theorem dX3_firstOfSet_24 : decode cX3_firstOfSet 24 = .ok (.iload_n 2, 1) := by decide +kernel
theorem dX3_firstOfSet_25 : decode cX3_firstOfSet 25 = .ok (.iaload, 1) := by decide +kernel
theorem dX3_firstOfSet_26 : decode cX3_firstOfSet 26 = .ok (.istore_n 2, 1) := by decide +kernel
theorem dX3_firstOfSet_27 : decode cX3_firstOfSet 27 = .ok (.iinc 3 1, 3) := by decide +kernel
theorem dX3_firstOfSet_30 : decode cX3_firstOfSet 30 = .ok (.goto (-26), 3) := by decide +kernel
theorem dX3_firstOfSet_33 : decode cX3_firstOfSet 33 = .ok (.iload_n 2, 1) := by decide +kernel
theorem dX3_firstOfSet_34 : decode cX3_firstOfSet 34 = .ok (.ireturn, 1) := by decide +kernel
theorem dX4_init_0 : decode cX4_init 0 = .ok (.aload_n 0, 1) := by decide +kernel
theorem dX4_init_1 : decode cX4_init 1 = .ok (.invokespecial 3, 3) := by decide +kernel
theorem dX4_init_4 : decode cX4_init 4 = .ok (.aload_n 0, 1) := by decide +kernel
theorem dX4_init_5 : decode cX4_init 5 = .ok (.sipush 144, 3) := by decide +kernel
theorem dX4_init_8 : decode cX4_init 8 = .ok (.newarray .int, 2) := by decide +kernel
theorem dX4_init_10 : decode cX4_init 10 = .ok (.putfield 9, 3) := by decide +kernel
theorem dX4_init_13 : decode cX4_init 13 = .ok (.aload_n 0, 1) := by decide +kernel
theorem dX4_init_14 : decode cX4_init 14 = .ok (.bipush 6, 2) := by decide +kernel
theorem dX4_init_16 : decode cX4_init 16 = .ok (.newarray .int, 2) := by decide +kernel
theorem dX4_init_18 : decode cX4_init 18 = .ok (.putfield 15, 3) := by decide +kernel
theorem dX4_init_21 : decode cX4_init 21 = .ok (.aload_n 0, 1) := by decide +kernel
theorem dX4_init_22 : decode cX4_init 22 = .ok (.sipush 384, 3) := by decide +kernel
theorem dX4_init_25 : decode cX4_init 25 = .ok (.newarray .int, 2) := by decide +kernel
theorem dX4_init_27 : decode cX4_init 27 = .ok (.putfield 18, 3) := by decide +kernel
theorem dX4_init_30 : decode cX4_init 30 = .ok (.aload_n 0, 1) := by decide +kernel
theorem dX4_init_31 : decode cX4_init 31 = .ok (.aload_n 1, 1) := by decide +kernel
theorem dX4_init_32 : decode cX4_init 32 = .ok (.putfield 21, 3) := by decide +kernel
theorem dX4_init_35 : decode cX4_init 35 = .ok (.return_, 1) := by decide +kernel
set_option maxRecDepth 20000 in
theorem ggX4_leastLength_X4_listStops : GoodIn wsX4_leastLength wsX4_listStops := goodIn_r _ [11, 12, 13, 14, 15, 16, 17, 18, 19, 20, 21, 22, 23, 24, 25, 26, 27, 28, 69, 70, 71, 72, 73, 74, 75, 76, 77, 78, 79, 80, 81, 82, 83, 84] (by decide +kernel) (by decide +kernel)
set_option maxRecDepth 20000 in
theorem gX4_leastLength_X4_listStops : GoodIn wsX4_leastLength (wsV RX4 25 RX4 yX4_listStops wsX4_listStops) := goodIn_app (goodIn_of _ (by decide +kernel)) ggX4_leastLength_X4_listStops
set_option maxRecDepth 20000 in
theorem ggX4_leastLength_X4_measure : GoodIn wsX4_leastLength wsX4_measure := goodIn_r _ [32, 33, 2, 12, 34, 35, 36, 17, 37, 38, 39, 40, 41, 42, 27, 43, 44, 45, 46, 47, 48, 49, 50, 10, 51, 3, 4, 5, 6, 52, 53, 54, 55, 56, 57, 58, 59, 60, 61, 62, 63, 64, 69, 70, 71, 72, 73, 74, 75, 76, 77, 78, 79, 80, 81, 82, 83, 84] (by decide +kernel) (by decide +kernel)
set_option maxRecDepth 20000 in
theorem gX4_leastLength_X4_measure : GoodIn wsX4_leastLength (wsV RX4 29 RX4 yX4_measure wsX4_measure) := goodIn_app (goodIn_of _ (by decide +kernel)) ggX4_leastLength_X4_measure
set_option maxRecDepth 20000 in
theorem ggX4_leastLength_X5_hasBit : GoodIn wsX4_leastLength wsX5_hasBit := goodIn_r _ [22] (by decide +kernel) (by decide +kernel)
set_option maxRecDepth 20000 in
theorem gX4_leastLength_X5_hasBit_n32 : GoodIn wsX4_leastLength (wsX5_hasBit) := ggX4_leastLength_X5_hasBit
set_option maxRecDepth 20000 in
theorem ggX4_leastLength_X4_leastEnding : GoodIn wsX4_leastLength wsX4_leastEnding := goodIn_r _ [68, 13, 2, 1, 3, 4, 5, 6, 61, 62, 63, 10, 64, 33, 20, 21, 22, 69, 70, 71, 72] (by decide +kernel) (by decide +kernel)
set_option maxRecDepth 20000 in
theorem gX4_leastLength_X4_leastEnding : GoodIn wsX4_leastLength (wsV RX4 36 RX4 yX4_leastEnding wsX4_leastEnding) := goodIn_app (goodIn_of _ (by decide +kernel)) ggX4_leastLength_X4_leastEnding
theorem dX4_leastLength_0 : decode cX4_leastLength 0 = .ok (.aload_n 0, 1) := by decide +kernel
theorem dX4_leastLength_1 : decode cX4_leastLength 1 = .ok (.iload_n 2, 1) := by decide +kernel
theorem dX4_leastLength_2 : decode cX4_leastLength 2 = .ok (.invokevirtual 25, 3) := by decide +kernel
theorem dX4_leastLength_5 : decode cX4_leastLength 5 = .ok (.istore_n 3, 1) := by decide +kernel
theorem dX4_leastLength_6 : decode cX4_leastLength 6 = .ok (.iload_n 3, 1) := by decide +kernel
theorem dX4_leastLength_7 : decode cX4_leastLength 7 = .ok (.ifCond .ne 5, 3) := by decide +kernel
theorem dX4_leastLength_10 : decode cX4_leastLength 10 = .ok (.iconst 0, 1) := by decide +kernel
theorem dX4_leastLength_11 : decode cX4_leastLength 11 = .ok (.ireturn, 1) := by decide +kernel
theorem dX4_leastLength_12 : decode cX4_leastLength 12 = .ok (.aload_n 0, 1) := by decide +kernel
theorem dX4_leastLength_13 : decode cX4_leastLength 13 = .ok (.invokevirtual 29, 3) := by decide +kernel
theorem dX4_leastLength_16 : decode cX4_leastLength 16 = .ok (.iconst 1, 1) := by decide +kernel
theorem dX4_leastLength_17 : decode cX4_leastLength 17 = .ok (.iload_n 3, 1) := by decide +kernel
theorem dX4_leastLength_18 : decode cX4_leastLength 18 = .ok (.ishl, 1) := by decide +kernel
theorem dX4_leastLength_19 : decode cX4_leastLength 19 = .ok (.iconst 1, 1) := by decide +kernel
theorem dX4_leastLength_20 : decode cX4_leastLength 20 = .ok (.isub, 1) := by decide +kernel
theorem dX4_leastLength_21 : decode cX4_leastLength 21 = .ok (.istore 4, 2) := by decide +kernel
theorem dX4_leastLength_23 : decode cX4_leastLength 23 = .ok (.iconst 1, 1) := by decide +kernel
theorem dX4_leastLength_24 : decode cX4_leastLength 24 = .ok (.istore 5, 2) := by decide +kernel
theorem dX4_leastLength_26 : decode cX4_leastLength 26 = .ok (.iload 5, 2) := by decide +kernel
theorem dX4_leastLength_28 : decode cX4_leastLength 28 = .ok (.iload 4, 2) := by decide +kernel
theorem dX4_leastLength_30 : decode cX4_leastLength 30 = .ok (.if_icmp .gt 57, 3) := by decide +kernel
theorem dX4_leastLength_33 : decode cX4_leastLength 33 = .ok (.iconst 0, 1) := by decide +kernel
theorem dX4_leastLength_34 : decode cX4_leastLength 34 = .ok (.istore 6, 2) := by decide +kernel
theorem dX4_leastLength_36 : decode cX4_leastLength 36 = .ok (.iload 6, 2) := by decide +kernel
theorem dX4_leastLength_38 : decode cX4_leastLength 38 = .ok (.iload_n 3, 1) := by decide +kernel
theorem dX4_leastLength_39 : decode cX4_leastLength 39 = .ok (.if_icmp .ge 42, 3) := by decide +kernel
theorem dX4_leastLength_42 : decode cX4_leastLength 42 = .ok (.iload 5, 2) := by decide +kernel
theorem dX4_leastLength_44 : decode cX4_leastLength 44 = .ok (.iload 6, 2) := by decide +kernel
theorem dX4_leastLength_46 : decode cX4_leastLength 46 = .ok (.invokestatic 32, 3) := by decide +kernel
theorem dX4_leastLength_49 : decode cX4_leastLength 49 = .ok (.ifCond .eq 26, 3) := by decide +kernel
theorem dX4_leastLength_52 : decode cX4_leastLength 52 = .ok (.aload_n 0, 1) := by decide +kernel
theorem dX4_leastLength_53 : decode cX4_leastLength 53 = .ok (.getfield 18, 3) := by decide +kernel
theorem dX4_leastLength_56 : decode cX4_leastLength 56 = .ok (.iload 5, 2) := by decide +kernel
theorem dX4_leastLength_58 : decode cX4_leastLength 58 = .ok (.bipush 6, 2) := by decide +kernel
theorem dX4_leastLength_60 : decode cX4_leastLength 60 = .ok (.imul, 1) := by decide +kernel
theorem dX4_leastLength_61 : decode cX4_leastLength 61 = .ok (.iload 6, 2) := by decide +kernel
theorem dX4_leastLength_63 : decode cX4_leastLength 63 = .ok (.iadd, 1) := by decide +kernel
theorem dX4_leastLength_64 : decode cX4_leastLength 64 = .ok (.aload_n 0, 1) := by decide +kernel
theorem dX4_leastLength_65 : decode cX4_leastLength 65 = .ok (.iload_n 1, 1) := by decide +kernel
theorem dX4_leastLength_66 : decode cX4_leastLength 66 = .ok (.iload 5, 2) := by decide +kernel
theorem dX4_leastLength_68 : decode cX4_leastLength 68 = .ok (.iload 6, 2) := by decide +kernel
theorem dX4_leastLength_70 : decode cX4_leastLength 70 = .ok (.iload_n 3, 1) := by decide +kernel
theorem dX4_leastLength_71 : decode cX4_leastLength 71 = .ok (.invokevirtual 36, 3) := by decide +kernel
theorem dX4_leastLength_74 : decode cX4_leastLength 74 = .ok (.iastore, 1) := by decide +kernel
theorem dX4_leastLength_75 : decode cX4_leastLength 75 = .ok (.iinc 6 1, 3) := by decide +kernel
theorem dX4_leastLength_78 : decode cX4_leastLength 78 = .ok (.goto (-42), 3) := by decide +kernel
theorem dX4_leastLength_81 : decode cX4_leastLength 81 = .ok (.iinc 5 1, 3) := by decide +kernel
theorem dX4_leastLength_84 : decode cX4_leastLength 84 = .ok (.goto (-58), 3) := by decide +kernel
theorem dX4_leastLength_87 : decode cX4_leastLength 87 = .ok (.ldc 40, 2) := by decide +kernel
theorem dX4_leastLength_89 : decode cX4_leastLength 89 = .ok (.istore 5, 2) := by decide +kernel
theorem dX4_leastLength_91 : decode cX4_leastLength 91 = .ok (.iconst 0, 1) := by decide +kernel
theorem dX4_leastLength_92 : decode cX4_leastLength 92 = .ok (.istore 6, 2) := by decide +kernel
theorem dX4_leastLength_94 : decode cX4_leastLength 94 = .ok (.iload 6, 2) := by decide +kernel
theorem dX4_leastLength_96 : decode cX4_leastLength 96 = .ok (.iload_n 3, 1) := by decide +kernel
theorem dX4_leastLength_97 : decode cX4_leastLength 97 = .ok (.if_icmp .ge 29, 3) := by decide +kernel
theorem dX4_leastLength_100 : decode cX4_leastLength 100 = .ok (.iload 5, 2) := by decide +kernel
theorem dX4_leastLength_102 : decode cX4_leastLength 102 = .ok (.aload_n 0, 1) := by decide +kernel
theorem dX4_leastLength_103 : decode cX4_leastLength 103 = .ok (.getfield 18, 3) := by decide +kernel
theorem dX4_leastLength_106 : decode cX4_leastLength 106 = .ok (.iload 4, 2) := by decide +kernel
theorem dX4_leastLength_108 : decode cX4_leastLength 108 = .ok (.bipush 6, 2) := by decide +kernel
theorem dX4_leastLength_110 : decode cX4_leastLength 110 = .ok (.imul, 1) := by decide +kernel
theorem dX4_leastLength_111 : decode cX4_leastLength 111 = .ok (.iload 6, 2) := by decide +kernel
theorem dX4_leastLength_113 : decode cX4_leastLength 113 = .ok (.iadd, 1) := by decide +kernel
theorem dX4_leastLength_114 : decode cX4_leastLength 114 = .ok (.iaload, 1) := by decide +kernel
theorem dX4_leastLength_115 : decode cX4_leastLength 115 = .ok (.invokestatic 41, 3) := by decide +kernel
theorem dX4_leastLength_118 : decode cX4_leastLength 118 = .ok (.istore 5, 2) := by decide +kernel
theorem dX4_leastLength_120 : decode cX4_leastLength 120 = .ok (.iinc 6 1, 3) := by decide +kernel
theorem dX4_leastLength_123 : decode cX4_leastLength 123 = .ok (.goto (-29), 3) := by decide +kernel
theorem dX4_leastLength_126 : decode cX4_leastLength 126 = .ok (.iload 5, 2) := by decide +kernel
theorem dX4_leastLength_128 : decode cX4_leastLength 128 = .ok (.ldc 40, 2) := by decide +kernel
theorem dX4_leastLength_130 : decode cX4_leastLength 130 = .ok (.if_icmp .ge 8, 3) := by decide +kernel
theorem dX4_leastLength_133 : decode cX4_leastLength 133 = .ok (.iload 5, 2) := by decide +kernel
theorem dX4_leastLength_135 : decode cX4_leastLength 135 = .ok (.goto 4, 3) := by decide +kernel
theorem dX4_leastLength_138 : decode cX4_leastLength 138 = .ok (.iconst (-1), 1) := by decide +kernel
theorem dX4_leastLength_139 : decode cX4_leastLength 139 = .ok (.ireturn, 1) := by decide +kernel
set_option maxRecDepth 20000 in
theorem ggX4_listStops_X2_valveCount : GoodIn wsX4_listStops wsX2_valveCount := goodIn_r _ [7, 8, 22, 23, 24, 25, 26, 27, 28, 29, 30, 31, 32, 33] (by decide +kernel) (by decide +kernel)
set_option maxRecDepth 20000 in
theorem gX4_listStops_X2_valveCount : GoodIn wsX4_listStops (wsV RX4 47 RX2 yX2_valveCount wsX2_valveCount) := goodIn_app (goodIn_of _ (by decide +kernel)) ggX4_listStops_X2_valveCount
set_option maxRecDepth 20000 in
theorem ggX4_listStops_X5_hasBit : GoodIn wsX4_listStops wsX5_hasBit := goodIn_r _ [11] (by decide +kernel) (by decide +kernel)
set_option maxRecDepth 20000 in
theorem gX4_listStops_X5_hasBit_n32 : GoodIn wsX4_listStops (wsX5_hasBit) := ggX4_listStops_X5_hasBit
set_option maxRecDepth 20000 in
theorem ggX4_listStops_X2_nodeOfValve : GoodIn wsX4_listStops wsX2_nodeOfValve := goodIn_r _ [15, 16, 17, 22, 23, 24, 25, 26, 27, 28, 29, 30, 31, 32, 33] (by decide +kernel) (by decide +kernel)
set_option maxRecDepth 20000 in
theorem gX4_listStops_X2_nodeOfValve : GoodIn wsX4_listStops (wsV RX4 53 RX2 yX2_nodeOfValve wsX2_nodeOfValve) := goodIn_app (goodIn_of _ (by decide +kernel)) ggX4_listStops_X2_nodeOfValve
theorem dX4_listStops_0 : decode cX4_listStops 0 = .ok (.iconst 0, 1) := by decide +kernel
theorem dX4_listStops_1 : decode cX4_listStops 1 = .ok (.istore_n 2, 1) := by decide +kernel
theorem dX4_listStops_2 : decode cX4_listStops 2 = .ok (.iconst 0, 1) := by decide +kernel
theorem dX4_listStops_3 : decode cX4_listStops 3 = .ok (.istore_n 3, 1) := by decide +kernel
theorem dX4_listStops_4 : decode cX4_listStops 4 = .ok (.iload_n 3, 1) := by decide +kernel
theorem dX4_listStops_5 : decode cX4_listStops 5 = .ok (.aload_n 0, 1) := by decide +kernel
theorem dX4_listStops_6 : decode cX4_listStops 6 = .ok (.getfield 21, 3) := by decide +kernel
theorem dX4_listStops_9 : decode cX4_listStops 9 = .ok (.invokevirtual 47, 3) := by decide +kernel
theorem dX4_listStops_12 : decode cX4_listStops 12 = .ok (.if_icmp .ge 40, 3) := by decide +kernel
theorem dX4_listStops_15 : decode cX4_listStops 15 = .ok (.iload_n 1, 1) := by decide +kernel
theorem dX4_listStops_16 : decode cX4_listStops 16 = .ok (.iload_n 3, 1) := by decide +kernel
theorem dX4_listStops_17 : decode cX4_listStops 17 = .ok (.invokestatic 32, 3) := by decide +kernel
theorem dX4_listStops_20 : decode cX4_listStops 20 = .ok (.ifCond .eq 26, 3) := by decide +kernel
theorem dX4_listStops_23 : decode cX4_listStops 23 = .ok (.iload_n 2, 1) := by decide +kernel
theorem dX4_listStops_24 : decode cX4_listStops 24 = .ok (.bipush 6, 2) := by decide +kernel
theorem dX4_listStops_26 : decode cX4_listStops 26 = .ok (.if_icmp .ge 20, 3) := by decide +kernel
theorem dX4_listStops_29 : decode cX4_listStops 29 = .ok (.aload_n 0, 1) := by decide +kernel
theorem dX4_listStops_30 : decode cX4_listStops 30 = .ok (.getfield 15, 3) := by decide +kernel
theorem dX4_listStops_33 : decode cX4_listStops 33 = .ok (.iload_n 2, 1) := by decide +kernel
theorem dX4_listStops_34 : decode cX4_listStops 34 = .ok (.aload_n 0, 1) := by decide +kernel
theorem dX4_listStops_35 : decode cX4_listStops 35 = .ok (.getfield 21, 3) := by decide +kernel
theorem dX4_listStops_38 : decode cX4_listStops 38 = .ok (.iload_n 3, 1) := by decide +kernel
theorem dX4_listStops_39 : decode cX4_listStops 39 = .ok (.invokevirtual 53, 3) := by decide +kernel
theorem dX4_listStops_42 : decode cX4_listStops 42 = .ok (.iastore, 1) := by decide +kernel
theorem dX4_listStops_43 : decode cX4_listStops 43 = .ok (.iinc 2 1, 3) := by decide +kernel
theorem dX4_listStops_46 : decode cX4_listStops 46 = .ok (.iinc 3 1, 3) := by decide +kernel
theorem dX4_listStops_49 : decode cX4_listStops 49 = .ok (.goto (-45), 3) := by decide +kernel
theorem dX4_listStops_52 : decode cX4_listStops 52 = .ok (.iload_n 2, 1) := by decide +kernel
theorem dX4_listStops_53 : decode cX4_listStops 53 = .ok (.ireturn, 1) := by decide +kernel
set_option maxRecDepth 20000 in
theorem ggX4_leastEnding_X4_lengthBetween : GoodIn wsX4_leastEnding wsX4_lengthBetween := goodIn_r _ [12, 13, 17, 18, 19, 20] (by decide +kernel) (by decide +kernel)
set_option maxRecDepth 20000 in
theorem gX4_leastEnding_X4_lengthBetween : GoodIn wsX4_leastEnding (wsV RX4 56 RX4 yX4_lengthBetween wsX4_lengthBetween) := goodIn_app (goodIn_of _ (by decide +kernel)) ggX4_leastEnding_X4_lengthBetween
set_option maxRecDepth 20000 in
theorem ggX4_leastEnding_X5_hasBit : GoodIn wsX4_leastEnding wsX5_hasBit := goodIn_r _ [16] (by decide +kernel) (by decide +kernel)
set_option maxRecDepth 20000 in
theorem gX4_leastEnding_X5_hasBit_n32 : GoodIn wsX4_leastEnding (wsX5_hasBit) := ggX4_leastEnding_X5_hasBit
theorem dX4_leastEnding_0 : decode cX4_leastEnding 0 = .ok (.iload_n 2, 1) := by decide +kernel
theorem dX4_leastEnding_1 : decode cX4_leastEnding 1 = .ok (.iconst 1, 1) := by decide +kernel
theorem dX4_leastEnding_2 : decode cX4_leastEnding 2 = .ok (.iload_n 3, 1) := by decide +kernel
theorem dX4_leastEnding_3 : decode cX4_leastEnding 3 = .ok (.ishl, 1) := by decide +kernel
theorem dX4_leastEnding_4 : decode cX4_leastEnding 4 = .ok (.iconst (-1), 1) := by decide +kernel
theorem dX4_leastEnding_5 : decode cX4_leastEnding 5 = .ok (.ixor, 1) := by decide +kernel
theorem dX4_leastEnding_6 : decode cX4_leastEnding 6 = .ok (.iand, 1) := by decide +kernel
theorem dX4_leastEnding_7 : decode cX4_leastEnding 7 = .ok (.istore 5, 2) := by decide +kernel
theorem dX4_leastEnding_9 : decode cX4_leastEnding 9 = .ok (.iload 5, 2) := by decide +kernel
theorem dX4_leastEnding_11 : decode cX4_leastEnding 11 = .ok (.ifCond .ne 15, 3) := by decide +kernel
theorem dX4_leastEnding_14 : decode cX4_leastEnding 14 = .ok (.aload_n 0, 1) := by decide +kernel
theorem dX4_leastEnding_15 : decode cX4_leastEnding 15 = .ok (.iload_n 1, 1) := by decide +kernel
theorem dX4_leastEnding_16 : decode cX4_leastEnding 16 = .ok (.aload_n 0, 1) := by decide +kernel
theorem dX4_leastEnding_17 : decode cX4_leastEnding 17 = .ok (.getfield 15, 3) := by decide +kernel
theorem dX4_leastEnding_20 : decode cX4_leastEnding 20 = .ok (.iload_n 3, 1) := by decide +kernel
theorem dX4_leastEnding_21 : decode cX4_leastEnding 21 = .ok (.iaload, 1) := by decide +kernel
theorem dX4_leastEnding_22 : decode cX4_leastEnding 22 = .ok (.invokevirtual 56, 3) := by decide +kernel
theorem dX4_leastEnding_25 : decode cX4_leastEnding 25 = .ok (.ireturn, 1) := by decide +kernel
theorem dX4_leastEnding_26 : decode cX4_leastEnding 26 = .ok (.ldc 40, 2) := by decide +kernel
theorem dX4_leastEnding_28 : decode cX4_leastEnding 28 = .ok (.istore 6, 2) := by decide +kernel
theorem dX4_leastEnding_30 : decode cX4_leastEnding 30 = .ok (.iconst 0, 1) := by decide +kernel
theorem dX4_leastEnding_31 : decode cX4_leastEnding 31 = .ok (.istore 7, 2) := by decide +kernel
theorem dX4_leastEnding_33 : decode cX4_leastEnding 33 = .ok (.iload 7, 2) := by decide +kernel
theorem dX4_leastEnding_35 : decode cX4_leastEnding 35 = .ok (.iload 4, 2) := by decide +kernel
theorem dX4_leastEnding_37 : decode cX4_leastEnding 37 = .ok (.if_icmp .ge 61, 3) := by decide +kernel
theorem dX4_leastEnding_40 : decode cX4_leastEnding 40 = .ok (.iload 5, 2) := by decide +kernel
theorem dX4_leastEnding_42 : decode cX4_leastEnding 42 = .ok (.iload 7, 2) := by decide +kernel
theorem dX4_leastEnding_44 : decode cX4_leastEnding 44 = .ok (.invokestatic 32, 3) := by decide +kernel
theorem dX4_leastEnding_47 : decode cX4_leastEnding 47 = .ok (.ifCond .eq 45, 3) := by decide +kernel
theorem dX4_leastEnding_50 : decode cX4_leastEnding 50 = .ok (.aload_n 0, 1) := by decide +kernel
theorem dX4_leastEnding_51 : decode cX4_leastEnding 51 = .ok (.aload_n 0, 1) := by decide +kernel
theorem dX4_leastEnding_52 : decode cX4_leastEnding 52 = .ok (.getfield 15, 3) := by decide +kernel
theorem dX4_leastEnding_55 : decode cX4_leastEnding 55 = .ok (.iload 7, 2) := by decide +kernel
theorem dX4_leastEnding_57 : decode cX4_leastEnding 57 = .ok (.iaload, 1) := by decide +kernel
theorem dX4_leastEnding_58 : decode cX4_leastEnding 58 = .ok (.aload_n 0, 1) := by decide +kernel
theorem dX4_leastEnding_59 : decode cX4_leastEnding 59 = .ok (.getfield 15, 3) := by decide +kernel
theorem dX4_leastEnding_62 : decode cX4_leastEnding 62 = .ok (.iload_n 3, 1) := by decide +kernel
theorem dX4_leastEnding_63 : decode cX4_leastEnding 63 = .ok (.iaload, 1) := by decide +kernel
theorem dX4_leastEnding_64 : decode cX4_leastEnding 64 = .ok (.invokevirtual 56, 3) := by decide +kernel
theorem dX4_leastEnding_67 : decode cX4_leastEnding 67 = .ok (.istore 8, 2) := by decide +kernel
theorem dX4_leastEnding_69 : decode cX4_leastEnding 69 = .ok (.iload 6, 2) := by decide +kernel
theorem dX4_leastEnding_71 : decode cX4_leastEnding 71 = .ok (.aload_n 0, 1) := by decide +kernel
theorem dX4_leastEnding_72 : decode cX4_leastEnding 72 = .ok (.getfield 18, 3) := by decide +kernel
theorem dX4_leastEnding_75 : decode cX4_leastEnding 75 = .ok (.iload 5, 2) := by decide +kernel
theorem dX4_leastEnding_77 : decode cX4_leastEnding 77 = .ok (.bipush 6, 2) := by decide +kernel
theorem dX4_leastEnding_79 : decode cX4_leastEnding 79 = .ok (.imul, 1) := by decide +kernel
theorem dX4_leastEnding_80 : decode cX4_leastEnding 80 = .ok (.iload 7, 2) := by decide +kernel
theorem dX4_leastEnding_82 : decode cX4_leastEnding 82 = .ok (.iadd, 1) := by decide +kernel
theorem dX4_leastEnding_83 : decode cX4_leastEnding 83 = .ok (.iaload, 1) := by decide +kernel
theorem dX4_leastEnding_84 : decode cX4_leastEnding 84 = .ok (.iload 8, 2) := by decide +kernel
theorem dX4_leastEnding_86 : decode cX4_leastEnding 86 = .ok (.iadd, 1) := by decide +kernel
theorem dX4_leastEnding_87 : decode cX4_leastEnding 87 = .ok (.invokestatic 41, 3) := by decide +kernel
theorem dX4_leastEnding_90 : decode cX4_leastEnding 90 = .ok (.istore 6, 2) := by decide +kernel
theorem dX4_leastEnding_92 : decode cX4_leastEnding 92 = .ok (.iinc 7 1, 3) := by decide +kernel
theorem dX4_leastEnding_95 : decode cX4_leastEnding 95 = .ok (.goto (-62), 3) := by decide +kernel
theorem dX4_leastEnding_98 : decode cX4_leastEnding 98 = .ok (.iload 6, 2) := by decide +kernel
theorem dX4_leastEnding_100 : decode cX4_leastEnding 100 = .ok (.ireturn, 1) := by decide +kernel
theorem dX4_lengthBetween_0 : decode cX4_lengthBetween 0 = .ok (.aload_n 0, 1) := by decide +kernel
theorem dX4_lengthBetween_1 : decode cX4_lengthBetween 1 = .ok (.getfield 9, 3) := by decide +kernel
theorem dX4_lengthBetween_4 : decode cX4_lengthBetween 4 = .ok (.iload_n 1, 1) := by decide +kernel
theorem dX4_lengthBetween_5 : decode cX4_lengthBetween 5 = .ok (.bipush 12, 2) := by decide +kernel
theorem dX4_lengthBetween_7 : decode cX4_lengthBetween 7 = .ok (.imul, 1) := by decide +kernel
theorem dX4_lengthBetween_8 : decode cX4_lengthBetween 8 = .ok (.iload_n 2, 1) := by decide +kernel
theorem dX4_lengthBetween_9 : decode cX4_lengthBetween 9 = .ok (.iadd, 1) := by decide +kernel
theorem dX4_lengthBetween_10 : decode cX4_lengthBetween 10 = .ok (.iaload, 1) := by decide +kernel
theorem dX4_lengthBetween_11 : decode cX4_lengthBetween 11 = .ok (.ireturn, 1) := by decide +kernel
set_option maxRecDepth 20000 in
theorem ggX4_measure_X2_pipeCount : GoodIn wsX4_measure wsX2_pipeCount := goodIn_r _ [8, 9, 46, 47, 48, 49, 50, 51, 52, 53, 54, 55, 56, 57] (by decide +kernel) (by decide +kernel)
set_option maxRecDepth 20000 in
theorem gX4_measure_X2_pipeCount : GoodIn wsX4_measure (wsV RX4 59 RX2 yX2_pipeCount wsX2_pipeCount) := goodIn_app (goodIn_of _ (by decide +kernel)) ggX4_measure_X2_pipeCount
set_option maxRecDepth 20000 in
theorem ggX4_measure_X2_nodeAt : GoodIn wsX4_measure wsX2_nodeAt := goodIn_r _ [13, 14, 46, 47, 48, 49, 50, 51, 52, 53, 54, 55, 56, 57] (by decide +kernel) (by decide +kernel)
set_option maxRecDepth 20000 in
theorem gX4_measure_X2_nodeAt : GoodIn wsX4_measure (wsV RX4 62 RX2 yX2_nodeAt wsX2_nodeAt) := goodIn_app (goodIn_of _ (by decide +kernel)) ggX4_measure_X2_nodeAt
set_option maxRecDepth 20000 in
theorem ggX4_measure_X2_lengthOf : GoodIn wsX4_measure wsX2_lengthOf := goodIn_r _ [18, 19, 46, 47, 48, 49, 50, 51, 52, 53, 54, 55, 56, 57] (by decide +kernel) (by decide +kernel)
set_option maxRecDepth 20000 in
theorem gX4_measure_X2_lengthOf : GoodIn wsX4_measure (wsV RX4 65 RX2 yX2_lengthOf wsX2_lengthOf) := goodIn_app (goodIn_of _ (by decide +kernel)) ggX4_measure_X2_lengthOf
set_option maxRecDepth 20000 in
theorem ggX4_measure_X4_shorten : GoodIn wsX4_measure wsX4_shorten := goodIn_r _ [24, 1, 25, 26, 27, 28, 42, 43, 44, 45] (by decide +kernel) (by decide +kernel)
set_option maxRecDepth 20000 in
theorem gX4_measure_X4_shorten : GoodIn wsX4_measure (wsV RX4 68 RX4 yX4_shorten wsX4_shorten) := goodIn_app (goodIn_of _ (by decide +kernel)) ggX4_measure_X4_shorten
set_option maxRecDepth 20000 in
theorem ggX4_measure_X2_nodeCount : GoodIn wsX4_measure wsX2_nodeCount := goodIn_r _ [32, 33, 46, 47, 48, 49, 50, 51, 52, 53, 54, 55, 56, 57] (by decide +kernel) (by decide +kernel)
set_option maxRecDepth 20000 in
theorem gX4_measure_X2_nodeCount : GoodIn wsX4_measure (wsV RX4 72 RX2 yX2_nodeCount wsX2_nodeCount) := goodIn_app (goodIn_of _ (by decide +kernel)) ggX4_measure_X2_nodeCount
set_option maxRecDepth 20000 in
theorem ggX4_measure_X4_shortenBy : GoodIn wsX4_measure wsX4_shortenBy := goodIn_r _ [37, 3, 29, 30, 31, 7, 32, 33, 38, 39, 40, 23, 41, 1, 20, 21, 22, 24, 25, 26, 27, 28, 42, 43, 44, 45, 46, 47, 48, 49, 50, 51, 52, 53, 54, 55, 56, 57] (by decide +kernel) (by decide +kernel)
set_option maxRecDepth 20000 in
theorem gX4_measure_X4_shortenBy : GoodIn wsX4_measure (wsV RX4 75 RX4 yX4_shortenBy wsX4_shortenBy) := goodIn_app (goodIn_of _ (by decide +kernel)) ggX4_measure_X4_shortenBy
theorem dX4_measure_0 : decode cX4_measure 0 = .ok (.iconst 0, 1) := by decide +kernel
theorem dX4_measure_1 : decode cX4_measure 1 = .ok (.istore_n 1, 1) := by decide +kernel
theorem dX4_measure_2 : decode cX4_measure 2 = .ok (.iload_n 1, 1) := by decide +kernel
theorem dX4_measure_3 : decode cX4_measure 3 = .ok (.bipush 12, 2) := by decide +kernel
theorem dX4_measure_5 : decode cX4_measure 5 = .ok (.if_icmp .ge 45, 3) := by decide +kernel
theorem dX4_measure_8 : decode cX4_measure 8 = .ok (.iconst 0, 1) := by decide +kernel
theorem dX4_measure_9 : decode cX4_measure 9 = .ok (.istore_n 2, 1) := by decide +kernel
theorem dX4_measure_10 : decode cX4_measure 10 = .ok (.iload_n 2, 1) := by decide +kernel
theorem dX4_measure_11 : decode cX4_measure 11 = .ok (.bipush 12, 2) := by decide +kernel
theorem dX4_measure_13 : decode cX4_measure 13 = .ok (.if_icmp .ge 31, 3) := by decide +kernel
theorem dX4_measure_16 : decode cX4_measure 16 = .ok (.aload_n 0, 1) := by decide +kernel
theorem dX4_measure_17 : decode cX4_measure 17 = .ok (.getfield 9, 3) := by decide +kernel
theorem dX4_measure_20 : decode cX4_measure 20 = .ok (.iload_n 1, 1) := by decide +kernel
theorem dX4_measure_21 : decode cX4_measure 21 = .ok (.bipush 12, 2) := by decide +kernel
theorem dX4_measure_23 : decode cX4_measure 23 = .ok (.imul, 1) := by decide +kernel
theorem dX4_measure_24 : decode cX4_measure 24 = .ok (.iload_n 2, 1) := by decide +kernel
theorem dX4_measure_25 : decode cX4_measure 25 = .ok (.iadd, 1) := by decide +kernel
theorem dX4_measure_26 : decode cX4_measure 26 = .ok (.iload_n 1, 1) := by decide +kernel
theorem dX4_measure_27 : decode cX4_measure 27 = .ok (.iload_n 2, 1) := by decide +kernel
theorem dX4_measure_28 : decode cX4_measure 28 = .ok (.if_icmp .ne 7, 3) := by decide +kernel
theorem dX4_measure_31 : decode cX4_measure 31 = .ok (.iconst 0, 1) := by decide +kernel
theorem dX4_measure_32 : decode cX4_measure 32 = .ok (.goto 5, 3) := by decide +kernel
theorem dX4_measure_35 : decode cX4_measure 35 = .ok (.ldc 40, 2) := by decide +kernel
theorem dX4_measure_37 : decode cX4_measure 37 = .ok (.iastore, 1) := by decide +kernel
theorem dX4_measure_38 : decode cX4_measure 38 = .ok (.iinc 2 1, 3) := by decide +kernel
theorem dX4_measure_41 : decode cX4_measure 41 = .ok (.goto (-31), 3) := by decide +kernel
theorem dX4_measure_44 : decode cX4_measure 44 = .ok (.iinc 1 1, 3) := by decide +kernel
theorem dX4_measure_47 : decode cX4_measure 47 = .ok (.goto (-45), 3) := by decide +kernel
theorem dX4_measure_50 : decode cX4_measure 50 = .ok (.iconst 0, 1) := by decide +kernel
theorem dX4_measure_51 : decode cX4_measure 51 = .ok (.istore_n 1, 1) := by decide +kernel
theorem dX4_measure_52 : decode cX4_measure 52 = .ok (.iload_n 1, 1) := by decide +kernel
theorem dX4_measure_53 : decode cX4_measure 53 = .ok (.aload_n 0, 1) := by decide +kernel
theorem dX4_measure_54 : decode cX4_measure 54 = .ok (.getfield 21, 3) := by decide +kernel
theorem dX4_measure_57 : decode cX4_measure 57 = .ok (.invokevirtual 59, 3) := by decide +kernel
theorem dX4_measure_60 : decode cX4_measure 60 = .ok (.if_icmp .ge 57, 3) := by decide +kernel
theorem dX4_measure_63 : decode cX4_measure 63 = .ok (.aload_n 0, 1) := by decide +kernel
theorem dX4_measure_64 : decode cX4_measure 64 = .ok (.getfield 21, 3) := by decide +kernel
theorem dX4_measure_67 : decode cX4_measure 67 = .ok (.iload_n 1, 1) := by decide +kernel
theorem dX4_measure_68 : decode cX4_measure 68 = .ok (.iconst 0, 1) := by decide +kernel
theorem dX4_measure_69 : decode cX4_measure 69 = .ok (.invokevirtual 62, 3) := by decide +kernel
theorem dX4_measure_72 : decode cX4_measure 72 = .ok (.istore_n 2, 1) := by decide +kernel
theorem dX4_measure_73 : decode cX4_measure 73 = .ok (.aload_n 0, 1) := by decide +kernel
theorem dX4_measure_74 : decode cX4_measure 74 = .ok (.getfield 21, 3) := by decide +kernel
theorem dX4_measure_77 : decode cX4_measure 77 = .ok (.iload_n 1, 1) := by decide +kernel
theorem dX4_measure_78 : decode cX4_measure 78 = .ok (.iconst 1, 1) := by decide +kernel
theorem dX4_measure_79 : decode cX4_measure 79 = .ok (.invokevirtual 62, 3) := by decide +kernel
theorem dX4_measure_82 : decode cX4_measure 82 = .ok (.istore_n 3, 1) := by decide +kernel
theorem dX4_measure_83 : decode cX4_measure 83 = .ok (.aload_n 0, 1) := by decide +kernel
theorem dX4_measure_84 : decode cX4_measure 84 = .ok (.iload_n 2, 1) := by decide +kernel
theorem dX4_measure_85 : decode cX4_measure 85 = .ok (.iload_n 3, 1) := by decide +kernel
theorem dX4_measure_86 : decode cX4_measure 86 = .ok (.aload_n 0, 1) := by decide +kernel
theorem dX4_measure_87 : decode cX4_measure 87 = .ok (.getfield 21, 3) := by decide +kernel
theorem dX4_measure_90 : decode cX4_measure 90 = .ok (.iload_n 1, 1) := by decide +kernel
theorem dX4_measure_91 : decode cX4_measure 91 = .ok (.invokevirtual 65, 3) := by decide +kernel
theorem dX4_measure_94 : decode cX4_measure 94 = .ok (.invokevirtual 68, 3) := by decide +kernel
theorem dX4_measure_97 : decode cX4_measure 97 = .ok (.aload_n 0, 1) := by decide +kernel
theorem dX4_measure_98 : decode cX4_measure 98 = .ok (.iload_n 3, 1) := by decide +kernel
theorem dX4_measure_99 : decode cX4_measure 99 = .ok (.iload_n 2, 1) := by decide +kernel
theorem dX4_measure_100 : decode cX4_measure 100 = .ok (.aload_n 0, 1) := by decide +kernel
theorem dX4_measure_101 : decode cX4_measure 101 = .ok (.getfield 21, 3) := by decide +kernel
theorem dX4_measure_104 : decode cX4_measure 104 = .ok (.iload_n 1, 1) := by decide +kernel
theorem dX4_measure_105 : decode cX4_measure 105 = .ok (.invokevirtual 65, 3) := by decide +kernel
theorem dX4_measure_108 : decode cX4_measure 108 = .ok (.invokevirtual 68, 3) := by decide +kernel
theorem dX4_measure_111 : decode cX4_measure 111 = .ok (.iinc 1 1, 3) := by decide +kernel
theorem dX4_measure_114 : decode cX4_measure 114 = .ok (.goto (-62), 3) := by decide +kernel
theorem dX4_measure_117 : decode cX4_measure 117 = .ok (.iconst 0, 1) := by decide +kernel
theorem dX4_measure_118 : decode cX4_measure 118 = .ok (.istore_n 1, 1) := by decide +kernel
theorem dX4_measure_119 : decode cX4_measure 119 = .ok (.iload_n 1, 1) := by decide +kernel
theorem dX4_measure_120 : decode cX4_measure 120 = .ok (.aload_n 0, 1) := by decide +kernel
theorem dX4_measure_121 : decode cX4_measure 121 = .ok (.getfield 21, 3) := by decide +kernel
theorem dX4_measure_124 : decode cX4_measure 124 = .ok (.invokevirtual 72, 3) := by decide +kernel
theorem dX4_measure_127 : decode cX4_measure 127 = .ok (.if_icmp .ge 14, 3) := by decide +kernel
theorem dX4_measure_130 : decode cX4_measure 130 = .ok (.aload_n 0, 1) := by decide +kernel
theorem dX4_measure_131 : decode cX4_measure 131 = .ok (.iload_n 1, 1) := by decide +kernel
theorem dX4_measure_132 : decode cX4_measure 132 = .ok (.invokevirtual 75, 3) := by decide +kernel
theorem dX4_measure_135 : decode cX4_measure 135 = .ok (.iinc 1 1, 3) := by decide +kernel
theorem dX4_measure_138 : decode cX4_measure 138 = .ok (.goto (-19), 3) := by decide +kernel
theorem dX4_measure_141 : decode cX4_measure 141 = .ok (.return_, 1) := by decide +kernel
set_option maxRecDepth 20000 in
theorem ggX4_shortenBy_X2_nodeCount : GoodIn wsX4_shortenBy wsX2_nodeCount := goodIn_r _ [6, 7, 26, 27, 28, 29, 30, 31, 32, 33, 34, 35, 36, 37] (by decide +kernel) (by decide +kernel)
set_option maxRecDepth 20000 in
theorem gX4_shortenBy_X2_nodeCount : GoodIn wsX4_shortenBy (wsV RX4 72 RX2 yX2_nodeCount wsX2_nodeCount) := goodIn_app (goodIn_of _ (by decide +kernel)) ggX4_shortenBy_X2_nodeCount
set_option maxRecDepth 20000 in
theorem ggX4_shortenBy_X4_lengthBetween : GoodIn wsX4_shortenBy wsX4_lengthBetween := goodIn_r _ [12, 13, 22, 23, 24, 25] (by decide +kernel) (by decide +kernel)
set_option maxRecDepth 20000 in
theorem gX4_shortenBy_X4_lengthBetween : GoodIn wsX4_shortenBy (wsV RX4 56 RX4 yX4_lengthBetween wsX4_lengthBetween) := goodIn_app (goodIn_of _ (by decide +kernel)) ggX4_shortenBy_X4_lengthBetween
set_option maxRecDepth 20000 in
theorem ggX4_shortenBy_X4_shorten : GoodIn wsX4_shortenBy wsX4_shorten := goodIn_r _ [17, 13, 18, 19, 20, 21, 22, 23, 24, 25] (by decide +kernel) (by decide +kernel)
set_option maxRecDepth 20000 in
theorem gX4_shortenBy_X4_shorten : GoodIn wsX4_shortenBy (wsV RX4 68 RX4 yX4_shorten wsX4_shorten) := goodIn_app (goodIn_of _ (by decide +kernel)) ggX4_shortenBy_X4_shorten
theorem dX4_shortenBy_0 : decode cX4_shortenBy 0 = .ok (.iconst 0, 1) := by decide +kernel
theorem dX4_shortenBy_1 : decode cX4_shortenBy 1 = .ok (.istore_n 2, 1) := by decide +kernel
theorem dX4_shortenBy_2 : decode cX4_shortenBy 2 = .ok (.iload_n 2, 1) := by decide +kernel
theorem dX4_shortenBy_3 : decode cX4_shortenBy 3 = .ok (.aload_n 0, 1) := by decide +kernel
theorem dX4_shortenBy_4 : decode cX4_shortenBy 4 = .ok (.getfield 21, 3) := by decide +kernel
theorem dX4_shortenBy_7 : decode cX4_shortenBy 7 = .ok (.invokevirtual 72, 3) := by decide +kernel
theorem dX4_shortenBy_10 : decode cX4_shortenBy 10 = .ok (.if_icmp .ge 51, 3) := by decide +kernel
theorem dX4_shortenBy_13 : decode cX4_shortenBy 13 = .ok (.iconst 0, 1) := by decide +kernel
theorem dX4_shortenBy_14 : decode cX4_shortenBy 14 = .ok (.istore_n 3, 1) := by decide +kernel
theorem dX4_shortenBy_15 : decode cX4_shortenBy 15 = .ok (.iload_n 3, 1) := by decide +kernel
theorem dX4_shortenBy_16 : decode cX4_shortenBy 16 = .ok (.aload_n 0, 1) := by decide +kernel
theorem dX4_shortenBy_17 : decode cX4_shortenBy 17 = .ok (.getfield 21, 3) := by decide +kernel
theorem dX4_shortenBy_20 : decode cX4_shortenBy 20 = .ok (.invokevirtual 72, 3) := by decide +kernel
theorem dX4_shortenBy_23 : decode cX4_shortenBy 23 = .ok (.if_icmp .ge 32, 3) := by decide +kernel
theorem dX4_shortenBy_26 : decode cX4_shortenBy 26 = .ok (.aload_n 0, 1) := by decide +kernel
theorem dX4_shortenBy_27 : decode cX4_shortenBy 27 = .ok (.iload_n 2, 1) := by decide +kernel
theorem dX4_shortenBy_28 : decode cX4_shortenBy 28 = .ok (.iload_n 1, 1) := by decide +kernel
theorem dX4_shortenBy_29 : decode cX4_shortenBy 29 = .ok (.invokevirtual 56, 3) := by decide +kernel
theorem dX4_shortenBy_32 : decode cX4_shortenBy 32 = .ok (.aload_n 0, 1) := by decide +kernel
theorem dX4_shortenBy_33 : decode cX4_shortenBy 33 = .ok (.iload_n 1, 1) := by decide +kernel
theorem dX4_shortenBy_34 : decode cX4_shortenBy 34 = .ok (.iload_n 3, 1) := by decide +kernel
theorem dX4_shortenBy_35 : decode cX4_shortenBy 35 = .ok (.invokevirtual 56, 3) := by decide +kernel
theorem dX4_shortenBy_38 : decode cX4_shortenBy 38 = .ok (.iadd, 1) := by decide +kernel
theorem dX4_shortenBy_39 : decode cX4_shortenBy 39 = .ok (.istore 4, 2) := by decide +kernel
theorem dX4_shortenBy_41 : decode cX4_shortenBy 41 = .ok (.aload_n 0, 1) := by decide +kernel
theorem dX4_shortenBy_42 : decode cX4_shortenBy 42 = .ok (.iload_n 2, 1) := by decide +kernel
theorem dX4_shortenBy_43 : decode cX4_shortenBy 43 = .ok (.iload_n 3, 1) := by decide +kernel
theorem dX4_shortenBy_44 : decode cX4_shortenBy 44 = .ok (.iload 4, 2) := by decide +kernel
theorem dX4_shortenBy_46 : decode cX4_shortenBy 46 = .ok (.invokevirtual 68, 3) := by decide +kernel
theorem dX4_shortenBy_49 : decode cX4_shortenBy 49 = .ok (.iinc 3 1, 3) := by decide +kernel
theorem dX4_shortenBy_52 : decode cX4_shortenBy 52 = .ok (.goto (-37), 3) := by decide +kernel
theorem dX4_shortenBy_55 : decode cX4_shortenBy 55 = .ok (.iinc 2 1, 3) := by decide +kernel
theorem dX4_shortenBy_58 : decode cX4_shortenBy 58 = .ok (.goto (-56), 3) := by decide +kernel
theorem dX4_shortenBy_61 : decode cX4_shortenBy 61 = .ok (.return_, 1) := by decide +kernel
theorem dX4_shorten_0 : decode cX4_shorten 0 = .ok (.iload_n 1, 1) := by decide +kernel
theorem dX4_shorten_1 : decode cX4_shorten 1 = .ok (.bipush 12, 2) := by decide +kernel
theorem dX4_shorten_3 : decode cX4_shorten 3 = .ok (.imul, 1) := by decide +kernel
theorem dX4_shorten_4 : decode cX4_shorten 4 = .ok (.iload_n 2, 1) := by decide +kernel
theorem dX4_shorten_5 : decode cX4_shorten 5 = .ok (.iadd, 1) := by decide +kernel
theorem dX4_shorten_6 : decode cX4_shorten 6 = .ok (.istore 4, 2) := by decide +kernel
theorem dX4_shorten_8 : decode cX4_shorten 8 = .ok (.aload_n 0, 1) := by decide +kernel
theorem dX4_shorten_9 : decode cX4_shorten 9 = .ok (.getfield 9, 3) := by decide +kernel
theorem dX4_shorten_12 : decode cX4_shorten 12 = .ok (.iload 4, 2) := by decide +kernel
theorem dX4_shorten_14 : decode cX4_shorten 14 = .ok (.aload_n 0, 1) := by decide +kernel
theorem dX4_shorten_15 : decode cX4_shorten 15 = .ok (.getfield 9, 3) := by decide +kernel
theorem dX4_shorten_18 : decode cX4_shorten 18 = .ok (.iload 4, 2) := by decide +kernel
theorem dX4_shorten_20 : decode cX4_shorten 20 = .ok (.iaload, 1) := by decide +kernel
theorem dX4_shorten_21 : decode cX4_shorten 21 = .ok (.iload_n 3, 1) := by decide +kernel
theorem dX4_shorten_22 : decode cX4_shorten 22 = .ok (.invokestatic 41, 3) := by decide +kernel
theorem dX4_shorten_25 : decode cX4_shorten 25 = .ok (.iastore, 1) := by decide +kernel
theorem dX4_shorten_26 : decode cX4_shorten 26 = .ok (.return_, 1) := by decide +kernel
end
section
set_option maxRecDepth 20000 in
theorem ggX5_init_X2_init : GoodIn wsX5_init wsX2_init := goodIn_r _ [25, 26, 2, 3, 27, 28, 29, 30, 31, 32, 33, 64, 65, 66, 67, 68, 69, 70, 71, 72, 73, 74, 75] (by decide +kernel) (by decide +kernel)
set_option maxRecDepth 20000 in
theorem gX5_init_X2_init_n11 : GoodIn wsX5_init (wsX2_init) := ggX5_init_X2_init
set_option maxRecDepth 20000 in
theorem ggX5_init_X3_init : GoodIn wsX5_init wsX3_init := goodIn_r _ [36, 37, 2, 3, 27, 38, 39, 81, 82] (by decide +kernel) (by decide +kernel)
set_option maxRecDepth 20000 in
theorem gX5_init_X3_init : GoodIn wsX5_init (wsX3_init) := ggX5_init_X3_init
set_option maxRecDepth 20000 in
theorem ggX5_init_X0_init : GoodIn wsX5_init wsX0_init := goodIn_r _ [42, 43, 2, 3, 27, 44, 45, 46, 47, 48, 49, 83, 84, 85, 86, 87, 88] (by decide +kernel) (by decide +kernel)
set_option maxRecDepth 20000 in
theorem gX5_init_X0_init : GoodIn wsX5_init (wsX0_init) := ggX5_init_X0_init
set_option maxRecDepth 20000 in
theorem ggX5_init_X1_init : GoodIn wsX5_init wsX1_init := goodIn_r _ [52, 53, 2, 3, 27, 54, 55, 89, 90] (by decide +kernel) (by decide +kernel)
set_option maxRecDepth 20000 in
theorem gX5_init_X1_init : GoodIn wsX5_init (wsX1_init) := ggX5_init_X1_init
set_option maxRecDepth 20000 in
theorem ggX5_init_X4_init : GoodIn wsX5_init wsX4_init := goodIn_r _ [58, 59, 2, 3, 27, 60, 61, 62, 63, 91, 92, 93, 94] (by decide +kernel) (by decide +kernel)
set_option maxRecDepth 20000 in
theorem gX5_init_X4_init : GoodIn wsX5_init (wsX4_init) := ggX5_init_X4_init
theorem dX5_init_0 : decode cX5_init 0 = .ok (.aload_n 0, 1) := by decide +kernel
theorem dX5_init_1 : decode cX5_init 1 = .ok (.invokespecial 3, 3) := by decide +kernel
theorem dX5_init_4 : decode cX5_init 4 = .ok (.aload_n 0, 1) := by decide +kernel
theorem dX5_init_5 : decode cX5_init 5 = .ok (.new 9, 3) := by decide +kernel
theorem dX5_init_8 : decode cX5_init 8 = .ok (.dup, 1) := by decide +kernel
theorem dX5_init_9 : decode cX5_init 9 = .ok (.invokespecial 11, 3) := by decide +kernel
theorem dX5_init_12 : decode cX5_init 12 = .ok (.putfield 12, 3) := by decide +kernel
theorem dX5_init_15 : decode cX5_init 15 = .ok (.aload_n 0, 1) := by decide +kernel
theorem dX5_init_16 : decode cX5_init 16 = .ok (.new 16, 3) := by decide +kernel
theorem dX5_init_19 : decode cX5_init 19 = .ok (.dup, 1) := by decide +kernel
theorem dX5_init_20 : decode cX5_init 20 = .ok (.aload_n 0, 1) := by decide +kernel
theorem dX5_init_21 : decode cX5_init 21 = .ok (.getfield 12, 3) := by decide +kernel
theorem dX5_init_24 : decode cX5_init 24 = .ok (.invokespecial 18, 3) := by decide +kernel
theorem dX5_init_27 : decode cX5_init 27 = .ok (.putfield 21, 3) := by decide +kernel
theorem dX5_init_30 : decode cX5_init 30 = .ok (.aload_n 0, 1) := by decide +kernel
theorem dX5_init_31 : decode cX5_init 31 = .ok (.new 25, 3) := by decide +kernel
theorem dX5_init_34 : decode cX5_init 34 = .ok (.dup, 1) := by decide +kernel
theorem dX5_init_35 : decode cX5_init 35 = .ok (.aload_n 0, 1) := by decide +kernel
theorem dX5_init_36 : decode cX5_init 36 = .ok (.getfield 12, 3) := by decide +kernel
theorem dX5_init_39 : decode cX5_init 39 = .ok (.invokespecial 27, 3) := by decide +kernel
theorem dX5_init_42 : decode cX5_init 42 = .ok (.putfield 28, 3) := by decide +kernel
theorem dX5_init_45 : decode cX5_init 45 = .ok (.aload_n 0, 1) := by decide +kernel
theorem dX5_init_46 : decode cX5_init 46 = .ok (.new 32, 3) := by decide +kernel
theorem dX5_init_49 : decode cX5_init 49 = .ok (.dup, 1) := by decide +kernel
theorem dX5_init_50 : decode cX5_init 50 = .ok (.aload_n 0, 1) := by decide +kernel
theorem dX5_init_51 : decode cX5_init 51 = .ok (.getfield 12, 3) := by decide +kernel
theorem dX5_init_54 : decode cX5_init 54 = .ok (.invokespecial 34, 3) := by decide +kernel
theorem dX5_init_57 : decode cX5_init 57 = .ok (.putfield 35, 3) := by decide +kernel
theorem dX5_init_60 : decode cX5_init 60 = .ok (.aload_n 0, 1) := by decide +kernel
theorem dX5_init_61 : decode cX5_init 61 = .ok (.new 39, 3) := by decide +kernel
theorem dX5_init_64 : decode cX5_init 64 = .ok (.dup, 1) := by decide +kernel
theorem dX5_init_65 : decode cX5_init 65 = .ok (.aload_n 0, 1) := by decide +kernel
theorem dX5_init_66 : decode cX5_init 66 = .ok (.getfield 12, 3) := by decide +kernel
theorem dX5_init_69 : decode cX5_init 69 = .ok (.invokespecial 41, 3) := by decide +kernel
theorem dX5_init_72 : decode cX5_init 72 = .ok (.putfield 42, 3) := by decide +kernel
theorem dX5_init_75 : decode cX5_init 75 = .ok (.return_, 1) := by decide +kernel
set_option maxRecDepth 20000 in
theorem ggX5_addNode_X2_nodeCount : GoodIn wsX5_addNode wsX2_nodeCount := goodIn_r _ [8, 9, 29, 30, 31, 32, 33, 34, 35, 36, 37, 38, 39, 40] (by decide +kernel) (by decide +kernel)
set_option maxRecDepth 20000 in
theorem gX5_addNode_X2_nodeCount : GoodIn wsX5_addNode (wsV RX5 46 RX2 yX2_nodeCount wsX2_nodeCount) := goodIn_app (goodIn_of _ (by decide +kernel)) ggX5_addNode_X2_nodeCount
set_option maxRecDepth 20000 in
theorem ggX5_addNode_X2_putNode : GoodIn wsX5_addNode wsX2_putNode := goodIn_r _ [13, 9, 14, 15, 16, 7, 17, 18, 19, 20, 21, 22, 23, 29, 30, 31, 32, 33, 34, 35, 36, 37, 38, 39, 40] (by decide +kernel) (by decide +kernel)
set_option maxRecDepth 20000 in
theorem gX5_addNode_X2_putNode : GoodIn wsX5_addNode (wsV RX5 57 RX2 yX2_putNode wsX2_putNode) := goodIn_app (goodIn_of _ (by decide +kernel)) ggX5_addNode_X2_putNode
theorem dX5_addNode_0 : decode cX5_addNode 0 = .ok (.aload_n 0, 1) := by decide +kernel
theorem dX5_addNode_1 : decode cX5_addNode 1 = .ok (.getfield 12, 3) := by decide +kernel
theorem dX5_addNode_4 : decode cX5_addNode 4 = .ok (.invokevirtual 46, 3) := by decide +kernel
theorem dX5_addNode_7 : decode cX5_addNode 7 = .ok (.bipush 12, 2) := by decide +kernel
theorem dX5_addNode_9 : decode cX5_addNode 9 = .ok (.if_icmp .lt 13, 3) := by decide +kernel
theorem dX5_addNode_12 : decode cX5_addNode 12 = .ok (.new 50, 3) := by decide +kernel
theorem dX5_addNode_15 : decode cX5_addNode 15 = .ok (.dup, 1) := by decide +kernel
theorem dX5_addNode_16 : decode cX5_addNode 16 = .ok (.ldc 52, 2) := by decide +kernel
theorem dX5_addNode_18 : decode cX5_addNode 18 = .ok (.invokespecial 54, 3) := by decide +kernel
theorem dX5_addNode_21 : decode cX5_addNode 21 = .ok (.athrow, 1) := by decide +kernel
theorem dX5_addNode_22 : decode cX5_addNode 22 = .ok (.aload_n 0, 1) := by decide +kernel
theorem dX5_addNode_23 : decode cX5_addNode 23 = .ok (.getfield 12, 3) := by decide +kernel
theorem dX5_addNode_26 : decode cX5_addNode 26 = .ok (.iload_n 1, 1) := by decide +kernel
theorem dX5_addNode_27 : decode cX5_addNode 27 = .ok (.invokevirtual 57, 3) := by decide +kernel
theorem dX5_addNode_30 : decode cX5_addNode 30 = .ok (.ireturn, 1) := by decide +kernel
set_option maxRecDepth 20000 in
theorem ggX5_addPipe_X5_requireNode : GoodIn wsX5_addPipe wsX5_requireNode := goodIn_ca (goodIn_r _ [10, 11, 12, 5, 13, 14, 15, 16, 17, 18, 38, 39, 40, 41, 42, 43, 44, 45, 46, 47, 48, 49, 50, 51, 52, 53, 54] (by decide +kernel) (by decide +kernel)) (goodIn_sub (fun _ h => List.mem_cons_of_mem _ (List.mem_append_right _ h)) (by decide +kernel))
set_option maxRecDepth 20000 in
theorem gX5_addPipe_X5_requireNode : GoodIn wsX5_addPipe (wsV RX5 61 RX5 yX5_requireNode wsX5_requireNode) := goodIn_app (goodIn_of _ (by decide +kernel)) ggX5_addPipe_X5_requireNode
set_option maxRecDepth 20000 in
theorem ggX5_addPipe_X2_pipeCount : GoodIn wsX5_addPipe wsX2_pipeCount := goodIn_r _ [22, 23, 43, 44, 45, 46, 47, 48, 49, 50, 51, 52, 53, 54] (by decide +kernel) (by decide +kernel)
set_option maxRecDepth 20000 in
theorem gX5_addPipe_X2_pipeCount : GoodIn wsX5_addPipe (wsV RX5 74 RX2 yX2_pipeCount wsX2_pipeCount) := goodIn_app (goodIn_of _ (by decide +kernel)) ggX5_addPipe_X2_pipeCount
set_option maxRecDepth 20000 in
theorem ggX5_addPipe_X2_putPipe : GoodIn wsX5_addPipe wsX2_putPipe := goodIn_r _ [27, 23, 28, 29, 30, 31, 32, 16, 33, 34, 35, 36, 9, 37, 43, 44, 45, 46, 47, 48, 49, 50, 51, 52, 53, 54] (by decide +kernel) (by decide +kernel)
set_option maxRecDepth 20000 in
theorem gX5_addPipe_X2_putPipe : GoodIn wsX5_addPipe (wsV RX5 79 RX2 yX2_putPipe wsX2_putPipe) := goodIn_app (goodIn_of _ (by decide +kernel)) ggX5_addPipe_X2_putPipe
theorem dX5_addPipe_0 : decode cX5_addPipe 0 = .ok (.aload_n 0, 1) := by decide +kernel
theorem dX5_addPipe_1 : decode cX5_addPipe 1 = .ok (.iload_n 1, 1) := by decide +kernel
theorem dX5_addPipe_2 : decode cX5_addPipe 2 = .ok (.invokevirtual 61, 3) := by decide +kernel
theorem dX5_addPipe_5 : decode cX5_addPipe 5 = .ok (.aload_n 0, 1) := by decide +kernel
theorem dX5_addPipe_6 : decode cX5_addPipe 6 = .ok (.iload_n 2, 1) := by decide +kernel
theorem dX5_addPipe_7 : decode cX5_addPipe 7 = .ok (.invokevirtual 61, 3) := by decide +kernel
theorem dX5_addPipe_10 : decode cX5_addPipe 10 = .ok (.iload_n 1, 1) := by decide +kernel
theorem dX5_addPipe_11 : decode cX5_addPipe 11 = .ok (.iload_n 2, 1) := by decide +kernel
theorem dX5_addPipe_12 : decode cX5_addPipe 12 = .ok (.if_icmp .ne 13, 3) := by decide +kernel
theorem dX5_addPipe_15 : decode cX5_addPipe 15 = .ok (.new 65, 3) := by decide +kernel
theorem dX5_addPipe_18 : decode cX5_addPipe 18 = .ok (.dup, 1) := by decide +kernel
theorem dX5_addPipe_19 : decode cX5_addPipe 19 = .ok (.ldc 67, 2) := by decide +kernel
theorem dX5_addPipe_21 : decode cX5_addPipe 21 = .ok (.invokespecial 69, 3) := by decide +kernel
theorem dX5_addPipe_24 : decode cX5_addPipe 24 = .ok (.athrow, 1) := by decide +kernel
theorem dX5_addPipe_25 : decode cX5_addPipe 25 = .ok (.iload_n 3, 1) := by decide +kernel
theorem dX5_addPipe_26 : decode cX5_addPipe 26 = .ok (.iconst 1, 1) := by decide +kernel
theorem dX5_addPipe_27 : decode cX5_addPipe 27 = .ok (.if_icmp .lt 9, 3) := by decide +kernel
theorem dX5_addPipe_30 : decode cX5_addPipe 30 = .ok (.iload_n 3, 1) := by decide +kernel
theorem dX5_addPipe_31 : decode cX5_addPipe 31 = .ok (.bipush 99, 2) := by decide +kernel
theorem dX5_addPipe_33 : decode cX5_addPipe 33 = .ok (.if_icmp .le 13, 3) := by decide +kernel
theorem dX5_addPipe_36 : decode cX5_addPipe 36 = .ok (.new 65, 3) := by decide +kernel
theorem dX5_addPipe_39 : decode cX5_addPipe 39 = .ok (.dup, 1) := by decide +kernel
theorem dX5_addPipe_40 : decode cX5_addPipe 40 = .ok (.ldc 70, 2) := by decide +kernel
theorem dX5_addPipe_42 : decode cX5_addPipe 42 = .ok (.invokespecial 69, 3) := by decide +kernel
theorem dX5_addPipe_45 : decode cX5_addPipe 45 = .ok (.athrow, 1) := by decide +kernel
theorem dX5_addPipe_46 : decode cX5_addPipe 46 = .ok (.iload 4, 2) := by decide +kernel
theorem dX5_addPipe_48 : decode cX5_addPipe 48 = .ok (.ifCond .lt 10, 3) := by decide +kernel
theorem dX5_addPipe_51 : decode cX5_addPipe 51 = .ok (.iload 4, 2) := by decide +kernel
theorem dX5_addPipe_53 : decode cX5_addPipe 53 = .ok (.bipush 99, 2) := by decide +kernel
theorem dX5_addPipe_55 : decode cX5_addPipe 55 = .ok (.if_icmp .le 13, 3) := by decide +kernel
theorem dX5_addPipe_58 : decode cX5_addPipe 58 = .ok (.new 65, 3) := by decide +kernel
theorem dX5_addPipe_61 : decode cX5_addPipe 61 = .ok (.dup, 1) := by decide +kernel
theorem dX5_addPipe_62 : decode cX5_addPipe 62 = .ok (.ldc 72, 2) := by decide +kernel
theorem dX5_addPipe_64 : decode cX5_addPipe 64 = .ok (.invokespecial 69, 3) := by decide +kernel
theorem dX5_addPipe_67 : decode cX5_addPipe 67 = .ok (.athrow, 1) := by decide +kernel
theorem dX5_addPipe_68 : decode cX5_addPipe 68 = .ok (.aload_n 0, 1) := by decide +kernel
theorem dX5_addPipe_69 : decode cX5_addPipe 69 = .ok (.getfield 12, 3) := by decide +kernel
theorem dX5_addPipe_72 : decode cX5_addPipe 72 = .ok (.invokevirtual 74, 3) := by decide +kernel
theorem dX5_addPipe_75 : decode cX5_addPipe 75 = .ok (.bipush 16, 2) := by decide +kernel
theorem dX5_addPipe_77 : decode cX5_addPipe 77 = .ok (.if_icmp .lt 13, 3) := by decide +kernel
theorem dX5_addPipe_80 : decode cX5_addPipe 80 = .ok (.new 50, 3) := by decide +kernel
theorem dX5_addPipe_83 : decode cX5_addPipe 83 = .ok (.dup, 1) := by decide +kernel
theorem dX5_addPipe_84 : decode cX5_addPipe 84 = .ok (.ldc 77, 2) := by decide +kernel
theorem dX5_addPipe_86 : decode cX5_addPipe 86 = .ok (.invokespecial 54, 3) := by decide +kernel
theorem dX5_addPipe_89 : decode cX5_addPipe 89 = .ok (.athrow, 1) := by decide +kernel
theorem dX5_addPipe_90 : decode cX5_addPipe 90 = .ok (.aload_n 0, 1) := by decide +kernel
theorem dX5_addPipe_91 : decode cX5_addPipe 91 = .ok (.getfield 12, 3) := by decide +kernel
theorem dX5_addPipe_94 : decode cX5_addPipe 94 = .ok (.iload_n 1, 1) := by decide +kernel
theorem dX5_addPipe_95 : decode cX5_addPipe 95 = .ok (.iload_n 2, 1) := by decide +kernel
theorem dX5_addPipe_96 : decode cX5_addPipe 96 = .ok (.iload_n 3, 1) := by decide +kernel
theorem dX5_addPipe_97 : decode cX5_addPipe 97 = .ok (.iload 4, 2) := by decide +kernel
theorem dX5_addPipe_99 : decode cX5_addPipe 99 = .ok (.invokevirtual 79, 3) := by decide +kernel
theorem dX5_addPipe_102 : decode cX5_addPipe 102 = .ok (.ireturn, 1) := by decide +kernel
set_option maxRecDepth 20000 in
theorem ggX5_addValve_X5_requirePipe : GoodIn wsX5_addValve wsX5_requirePipe := goodIn_ca (goodIn_r _ [10, 11, 12, 5, 13, 14, 15, 16, 17, 18, 34, 35, 36, 37, 38, 39, 40, 41, 42, 43, 44, 45, 46, 47, 48, 49, 50] (by decide +kernel) (by decide +kernel)) (goodIn_sub (fun _ h => List.mem_cons_of_mem _ (List.mem_append_right _ h)) (by decide +kernel))
set_option maxRecDepth 20000 in
theorem gX5_addValve_X5_requirePipe : GoodIn wsX5_addValve (wsV RX5 83 RX5 yX5_requirePipe wsX5_requirePipe) := goodIn_app (goodIn_of _ (by decide +kernel)) ggX5_addValve_X5_requirePipe
set_option maxRecDepth 20000 in
theorem ggX5_addValve_X2_valveBitAt : GoodIn wsX5_addValve wsX2_valveBitAt := goodIn_r _ [22, 23, 39, 40, 41, 42, 43, 44, 45, 46, 47, 48, 49, 50] (by decide +kernel) (by decide +kernel)
set_option maxRecDepth 20000 in
theorem gX5_addValve_X2_valveBitAt : GoodIn wsX5_addValve (wsV RX5 88 RX2 yX2_valveBitAt wsX2_valveBitAt) := goodIn_app (goodIn_of _ (by decide +kernel)) ggX5_addValve_X2_valveBitAt
set_option maxRecDepth 20000 in
theorem ggX5_addValve_X2_valveCount : GoodIn wsX5_addValve wsX2_valveCount := goodIn_r _ [27, 28, 39, 40, 41, 42, 43, 44, 45, 46, 47, 48, 49, 50] (by decide +kernel) (by decide +kernel)
set_option maxRecDepth 20000 in
theorem gX5_addValve_X2_valveCount : GoodIn wsX5_addValve (wsV RX5 94 RX2 yX2_valveCount wsX2_valveCount) := goodIn_app (goodIn_of _ (by decide +kernel)) ggX5_addValve_X2_valveCount
set_option maxRecDepth 20000 in
theorem ggX5_addValve_X2_putValve : GoodIn wsX5_addValve wsX2_putValve := goodIn_r _ [32, 28, 23, 33, 39, 40, 41, 42, 43, 44, 45, 46, 47, 48, 49, 50] (by decide +kernel) (by decide +kernel)
set_option maxRecDepth 20000 in
theorem gX5_addValve_X2_putValve : GoodIn wsX5_addValve (wsV RX5 99 RX2 yX2_putValve wsX2_putValve) := goodIn_app (goodIn_of _ (by decide +kernel)) ggX5_addValve_X2_putValve
theorem dX5_addValve_0 : decode cX5_addValve 0 = .ok (.aload_n 0, 1) := by decide +kernel
theorem dX5_addValve_1 : decode cX5_addValve 1 = .ok (.iload_n 1, 1) := by decide +kernel
theorem dX5_addValve_2 : decode cX5_addValve 2 = .ok (.invokevirtual 83, 3) := by decide +kernel
theorem dX5_addValve_5 : decode cX5_addValve 5 = .ok (.iload_n 2, 1) := by decide +kernel
theorem dX5_addValve_6 : decode cX5_addValve 6 = .ok (.ifCond .lt 8, 3) := by decide +kernel
theorem dX5_addValve_9 : decode cX5_addValve 9 = .ok (.iload_n 2, 1) := by decide +kernel
theorem dX5_addValve_10 : decode cX5_addValve 10 = .ok (.iconst 2, 1) := by decide +kernel
theorem dX5_addValve_11 : decode cX5_addValve 11 = .ok (.if_icmp .lt 13, 3) := by decide +kernel
theorem dX5_addValve_14 : decode cX5_addValve 14 = .ok (.new 65, 3) := by decide +kernel
theorem dX5_addValve_17 : decode cX5_addValve 17 = .ok (.dup, 1) := by decide +kernel
theorem dX5_addValve_18 : decode cX5_addValve 18 = .ok (.ldc 86, 2) := by decide +kernel
theorem dX5_addValve_20 : decode cX5_addValve 20 = .ok (.invokespecial 69, 3) := by decide +kernel
theorem dX5_addValve_23 : decode cX5_addValve 23 = .ok (.athrow, 1) := by decide +kernel
theorem dX5_addValve_24 : decode cX5_addValve 24 = .ok (.aload_n 0, 1) := by decide +kernel
theorem dX5_addValve_25 : decode cX5_addValve 25 = .ok (.getfield 12, 3) := by decide +kernel
theorem dX5_addValve_28 : decode cX5_addValve 28 = .ok (.iload_n 1, 1) := by decide +kernel
theorem dX5_addValve_29 : decode cX5_addValve 29 = .ok (.iload_n 2, 1) := by decide +kernel
theorem dX5_addValve_30 : decode cX5_addValve 30 = .ok (.invokevirtual 88, 3) := by decide +kernel
theorem dX5_addValve_33 : decode cX5_addValve 33 = .ok (.ifCond .eq 13, 3) := by decide +kernel
theorem dX5_addValve_36 : decode cX5_addValve 36 = .ok (.new 50, 3) := by decide +kernel
theorem dX5_addValve_39 : decode cX5_addValve 39 = .ok (.dup, 1) := by decide +kernel
theorem dX5_addValve_40 : decode cX5_addValve 40 = .ok (.ldc 92, 2) := by decide +kernel
theorem dX5_addValve_42 : decode cX5_addValve 42 = .ok (.invokespecial 54, 3) := by decide +kernel
theorem dX5_addValve_45 : decode cX5_addValve 45 = .ok (.athrow, 1) := by decide +kernel
theorem dX5_addValve_46 : decode cX5_addValve 46 = .ok (.aload_n 0, 1) := by decide +kernel
theorem dX5_addValve_47 : decode cX5_addValve 47 = .ok (.getfield 12, 3) := by decide +kernel
theorem dX5_addValve_50 : decode cX5_addValve 50 = .ok (.invokevirtual 94, 3) := by decide +kernel
theorem dX5_addValve_53 : decode cX5_addValve 53 = .ok (.bipush 12, 2) := by decide +kernel
theorem dX5_addValve_55 : decode cX5_addValve 55 = .ok (.if_icmp .lt 13, 3) := by decide +kernel
theorem dX5_addValve_58 : decode cX5_addValve 58 = .ok (.new 50, 3) := by decide +kernel
theorem dX5_addValve_61 : decode cX5_addValve 61 = .ok (.dup, 1) := by decide +kernel
theorem dX5_addValve_62 : decode cX5_addValve 62 = .ok (.ldc 97, 2) := by decide +kernel
theorem dX5_addValve_64 : decode cX5_addValve 64 = .ok (.invokespecial 54, 3) := by decide +kernel
theorem dX5_addValve_67 : decode cX5_addValve 67 = .ok (.athrow, 1) := by decide +kernel
theorem dX5_addValve_68 : decode cX5_addValve 68 = .ok (.aload_n 0, 1) := by decide +kernel
theorem dX5_addValve_69 : decode cX5_addValve 69 = .ok (.getfield 12, 3) := by decide +kernel
theorem dX5_addValve_72 : decode cX5_addValve 72 = .ok (.iload_n 1, 1) := by decide +kernel
theorem dX5_addValve_73 : decode cX5_addValve 73 = .ok (.iload_n 2, 1) := by decide +kernel
theorem dX5_addValve_74 : decode cX5_addValve 74 = .ok (.invokevirtual 99, 3) := by decide +kernel
theorem dX5_addValve_77 : decode cX5_addValve 77 = .ok (.ireturn, 1) := by decide +kernel
set_option maxRecDepth 20000 in
theorem ggX5_setSource_X5_requireNode : GoodIn wsX5_setSource wsX5_requireNode := goodIn_ca (goodIn_r _ [6, 7, 8, 1, 9, 10, 11, 12, 13, 14, 24, 25, 26, 27, 28, 29, 30, 31, 32, 33, 34, 35, 36, 37, 38, 39, 40] (by decide +kernel) (by decide +kernel)) (goodIn_sub (fun _ h => List.mem_cons_of_mem _ (List.mem_append_right _ h)) (by decide +kernel))
set_option maxRecDepth 20000 in
theorem gX5_setSource_X5_requireNode : GoodIn wsX5_setSource (wsV RX5 61 RX5 yX5_requireNode wsX5_requireNode) := goodIn_app (goodIn_of _ (by decide +kernel)) ggX5_setSource_X5_requireNode
set_option maxRecDepth 20000 in
theorem ggX5_setSource_X2_markSource : GoodIn wsX5_setSource wsX2_markSource := goodIn_r _ [18, 19, 20, 5, 21, 22, 23, 29, 30, 31, 32, 33, 34, 35, 36, 37, 38, 39, 40] (by decide +kernel) (by decide +kernel)
set_option maxRecDepth 20000 in
theorem gX5_setSource_X2_markSource : GoodIn wsX5_setSource (wsV RX5 102 RX2 yX2_markSource wsX2_markSource) := goodIn_app (goodIn_of _ (by decide +kernel)) ggX5_setSource_X2_markSource
theorem dX5_setSource_0 : decode cX5_setSource 0 = .ok (.aload_n 0, 1) := by decide +kernel
theorem dX5_setSource_1 : decode cX5_setSource 1 = .ok (.iload_n 1, 1) := by decide +kernel
theorem dX5_setSource_2 : decode cX5_setSource 2 = .ok (.invokevirtual 61, 3) := by decide +kernel
theorem dX5_setSource_5 : decode cX5_setSource 5 = .ok (.aload_n 0, 1) := by decide +kernel
theorem dX5_setSource_6 : decode cX5_setSource 6 = .ok (.getfield 12, 3) := by decide +kernel
theorem dX5_setSource_9 : decode cX5_setSource 9 = .ok (.iload_n 1, 1) := by decide +kernel
theorem dX5_setSource_10 : decode cX5_setSource 10 = .ok (.iload_n 2, 1) := by decide +kernel
theorem dX5_setSource_11 : decode cX5_setSource 11 = .ok (.invokevirtual 102, 3) := by decide +kernel
theorem dX5_setSource_14 : decode cX5_setSource 14 = .ok (.ireturn, 1) := by decide +kernel
set_option maxRecDepth 20000 in
theorem ggX5_setStuck_X5_requireValve : GoodIn wsX5_setStuck wsX5_requireValve := goodIn_ca (goodIn_r _ [6, 7, 8, 1, 9, 10, 11, 12, 13, 14, 24, 25, 26, 27, 28, 29, 30, 31, 32, 33, 34, 35, 36, 37, 38, 39, 40] (by decide +kernel) (by decide +kernel)) (goodIn_sub (fun _ h => List.mem_cons_of_mem _ (List.mem_append_right _ h)) (by decide +kernel))
set_option maxRecDepth 20000 in
theorem gX5_setStuck_X5_requireValve : GoodIn wsX5_setStuck (wsV RX5 106 RX5 yX5_requireValve wsX5_requireValve) := goodIn_app (goodIn_of _ (by decide +kernel)) ggX5_setStuck_X5_requireValve
set_option maxRecDepth 20000 in
theorem ggX5_setStuck_X2_markStuck : GoodIn wsX5_setStuck wsX2_markStuck := goodIn_r _ [18, 19, 20, 5, 21, 22, 23, 29, 30, 31, 32, 33, 34, 35, 36, 37, 38, 39, 40] (by decide +kernel) (by decide +kernel)
set_option maxRecDepth 20000 in
theorem gX5_setStuck_X2_markStuck : GoodIn wsX5_setStuck (wsV RX5 109 RX2 yX2_markStuck wsX2_markStuck) := goodIn_app (goodIn_of _ (by decide +kernel)) ggX5_setStuck_X2_markStuck
theorem dX5_setStuck_0 : decode cX5_setStuck 0 = .ok (.aload_n 0, 1) := by decide +kernel
theorem dX5_setStuck_1 : decode cX5_setStuck 1 = .ok (.iload_n 1, 1) := by decide +kernel
theorem dX5_setStuck_2 : decode cX5_setStuck 2 = .ok (.invokevirtual 106, 3) := by decide +kernel
theorem dX5_setStuck_5 : decode cX5_setStuck 5 = .ok (.aload_n 0, 1) := by decide +kernel
theorem dX5_setStuck_6 : decode cX5_setStuck 6 = .ok (.getfield 12, 3) := by decide +kernel
theorem dX5_setStuck_9 : decode cX5_setStuck 9 = .ok (.iload_n 1, 1) := by decide +kernel
theorem dX5_setStuck_10 : decode cX5_setStuck 10 = .ok (.iload_n 2, 1) := by decide +kernel
theorem dX5_setStuck_11 : decode cX5_setStuck 11 = .ok (.invokevirtual 109, 3) := by decide +kernel
theorem dX5_setStuck_14 : decode cX5_setStuck 14 = .ok (.ireturn, 1) := by decide +kernel
set_option maxRecDepth 20000 in
theorem ggX5_turn_X5_requireValve : GoodIn wsX5_turn wsX5_requireValve := goodIn_ca (goodIn_r _ [8, 9, 10, 3, 11, 12, 13, 14, 15, 16, 31, 32, 33, 34, 35, 36, 37, 38, 39, 40, 41, 42, 43, 44, 45, 46, 47] (by decide +kernel) (by decide +kernel)) (goodIn_sub (fun _ h => List.mem_cons_of_mem _ (List.mem_append_right _ h)) (by decide +kernel))
set_option maxRecDepth 20000 in
theorem gX5_turn_X5_requireValve : GoodIn wsX5_turn (wsV RX5 106 RX5 yX5_requireValve wsX5_requireValve) := goodIn_app (goodIn_of _ (by decide +kernel)) ggX5_turn_X5_requireValve
set_option maxRecDepth 20000 in
theorem ggX5_turn_X2_isStuck : GoodIn wsX5_turn wsX2_isStuck := goodIn_r _ [20, 21, 22, 7, 23, 36, 37, 38, 39, 40, 41, 42, 43, 44, 45, 46, 47] (by decide +kernel) (by decide +kernel)
set_option maxRecDepth 20000 in
theorem gX5_turn_X2_isStuck : GoodIn wsX5_turn (wsV RX5 112 RX2 yX2_isStuck wsX2_isStuck) := goodIn_app (goodIn_of _ (by decide +kernel)) ggX5_turn_X2_isStuck
set_option maxRecDepth 20000 in
theorem ggX5_turn_X2_markShut : GoodIn wsX5_turn wsX2_markShut := goodIn_r _ [27, 28, 22, 7, 23, 29, 30, 36, 37, 38, 39, 40, 41, 42, 43, 44, 45, 46, 47] (by decide +kernel) (by decide +kernel)
set_option maxRecDepth 20000 in
theorem gX5_turn_X2_markShut : GoodIn wsX5_turn (wsV RX5 118 RX2 yX2_markShut wsX2_markShut) := goodIn_app (goodIn_of _ (by decide +kernel)) ggX5_turn_X2_markShut
theorem dX5_turn_0 : decode cX5_turn 0 = .ok (.aload_n 0, 1) := by decide +kernel
theorem dX5_turn_1 : decode cX5_turn 1 = .ok (.iload_n 1, 1) := by decide +kernel
theorem dX5_turn_2 : decode cX5_turn 2 = .ok (.invokevirtual 106, 3) := by decide +kernel
theorem dX5_turn_5 : decode cX5_turn 5 = .ok (.aload_n 0, 1) := by decide +kernel
theorem dX5_turn_6 : decode cX5_turn 6 = .ok (.getfield 12, 3) := by decide +kernel
theorem dX5_turn_9 : decode cX5_turn 9 = .ok (.iload_n 1, 1) := by decide +kernel
theorem dX5_turn_10 : decode cX5_turn 10 = .ok (.invokevirtual 112, 3) := by decide +kernel
theorem dX5_turn_13 : decode cX5_turn 13 = .ok (.ifCond .eq 13, 3) := by decide +kernel
theorem dX5_turn_16 : decode cX5_turn 16 = .ok (.new 50, 3) := by decide +kernel
theorem dX5_turn_19 : decode cX5_turn 19 = .ok (.dup, 1) := by decide +kernel
theorem dX5_turn_20 : decode cX5_turn 20 = .ok (.ldc 116, 2) := by decide +kernel
theorem dX5_turn_22 : decode cX5_turn 22 = .ok (.invokespecial 54, 3) := by decide +kernel
theorem dX5_turn_25 : decode cX5_turn 25 = .ok (.athrow, 1) := by decide +kernel
theorem dX5_turn_26 : decode cX5_turn 26 = .ok (.aload_n 0, 1) := by decide +kernel
theorem dX5_turn_27 : decode cX5_turn 27 = .ok (.getfield 12, 3) := by decide +kernel
theorem dX5_turn_30 : decode cX5_turn 30 = .ok (.iload_n 1, 1) := by decide +kernel
theorem dX5_turn_31 : decode cX5_turn 31 = .ok (.iload_n 2, 1) := by decide +kernel
theorem dX5_turn_32 : decode cX5_turn 32 = .ok (.invokevirtual 118, 3) := by decide +kernel
theorem dX5_turn_35 : decode cX5_turn 35 = .ok (.ireturn, 1) := by decide +kernel
set_option maxRecDepth 20000 in
theorem ggX5_nodes_X2_nodeCount : GoodIn wsX5_nodes wsX2_nodeCount := goodIn_r _ [6, 7, 13, 14, 15, 16, 17, 18, 19, 20, 21, 22, 23, 24] (by decide +kernel) (by decide +kernel)
set_option maxRecDepth 20000 in
theorem gX5_nodes_X2_nodeCount : GoodIn wsX5_nodes (wsV RX5 46 RX2 yX2_nodeCount wsX2_nodeCount) := goodIn_app (goodIn_of _ (by decide +kernel)) ggX5_nodes_X2_nodeCount
theorem dX5_nodes_0 : decode cX5_nodes 0 = .ok (.aload_n 0, 1) := by decide +kernel
theorem dX5_nodes_1 : decode cX5_nodes 1 = .ok (.getfield 12, 3) := by decide +kernel
theorem dX5_nodes_4 : decode cX5_nodes 4 = .ok (.invokevirtual 46, 3) := by decide +kernel
theorem dX5_nodes_7 : decode cX5_nodes 7 = .ok (.ireturn, 1) := by decide +kernel
set_option maxRecDepth 20000 in
theorem ggX5_pipes_X2_pipeCount : GoodIn wsX5_pipes wsX2_pipeCount := goodIn_r _ [6, 7, 13, 14, 15, 16, 17, 18, 19, 20, 21, 22, 23, 24] (by decide +kernel) (by decide +kernel)
set_option maxRecDepth 20000 in
theorem gX5_pipes_X2_pipeCount : GoodIn wsX5_pipes (wsV RX5 74 RX2 yX2_pipeCount wsX2_pipeCount) := goodIn_app (goodIn_of _ (by decide +kernel)) ggX5_pipes_X2_pipeCount
theorem dX5_pipes_0 : decode cX5_pipes 0 = .ok (.aload_n 0, 1) := by decide +kernel
theorem dX5_pipes_1 : decode cX5_pipes 1 = .ok (.getfield 12, 3) := by decide +kernel
theorem dX5_pipes_4 : decode cX5_pipes 4 = .ok (.invokevirtual 74, 3) := by decide +kernel
theorem dX5_pipes_7 : decode cX5_pipes 7 = .ok (.ireturn, 1) := by decide +kernel
set_option maxRecDepth 20000 in
theorem ggX5_valves_X2_valveCount : GoodIn wsX5_valves wsX2_valveCount := goodIn_r _ [6, 7, 13, 14, 15, 16, 17, 18, 19, 20, 21, 22, 23, 24] (by decide +kernel) (by decide +kernel)
set_option maxRecDepth 20000 in
theorem gX5_valves_X2_valveCount : GoodIn wsX5_valves (wsV RX5 94 RX2 yX2_valveCount wsX2_valveCount) := goodIn_app (goodIn_of _ (by decide +kernel)) ggX5_valves_X2_valveCount
theorem dX5_valves_0 : decode cX5_valves 0 = .ok (.aload_n 0, 1) := by decide +kernel
theorem dX5_valves_1 : decode cX5_valves 1 = .ok (.getfield 12, 3) := by decide +kernel
theorem dX5_valves_4 : decode cX5_valves 4 = .ok (.invokevirtual 94, 3) := by decide +kernel
theorem dX5_valves_7 : decode cX5_valves 7 = .ok (.ireturn, 1) := by decide +kernel
set_option maxRecDepth 20000 in
theorem ggX5_isNodeDry_X5_requireNode : GoodIn wsX5_isNodeDry wsX5_requireNode := goodIn_ca (goodIn_r _ [5, 6, 7, 8, 9, 10, 11, 12, 13, 14, 35, 36, 37, 38, 39, 40, 41, 42, 43, 44, 45, 46, 47, 48, 49, 50, 51] (by decide +kernel) (by decide +kernel)) (goodIn_sub (fun _ h => List.mem_cons_of_mem _ (List.mem_append_right _ h)) (by decide +kernel))
set_option maxRecDepth 20000 in
theorem gX5_isNodeDry_X5_requireNode : GoodIn wsX5_isNodeDry (wsV RX5 61 RX5 yX5_requireNode wsX5_requireNode) := goodIn_app (goodIn_of _ (by decide +kernel)) ggX5_isNodeDry_X5_requireNode
set_option maxRecDepth 20000 in
theorem ggX5_isNodeDry_X5_isDry : GoodIn wsX5_isNodeDry wsX5_isDry := goodIn_r _ [18, 8, 19, 20, 21, 12, 22, 23, 24, 25, 26, 27, 28, 29, 30, 31, 32, 33, 4, 34, 35, 36, 37, 38, 39, 40, 41, 42, 43, 44, 45, 46, 47, 48, 49, 50, 51] (by decide +kernel) (by decide +kernel)
set_option maxRecDepth 20000 in
theorem gX5_isNodeDry_X5_isDry : GoodIn wsX5_isNodeDry (wsV RX5 121 RX5 yX5_isDry wsX5_isDry) := goodIn_app (goodIn_of _ (by decide +kernel)) ggX5_isNodeDry_X5_isDry
theorem dX5_isNodeDry_0 : decode cX5_isNodeDry 0 = .ok (.aload_n 0, 1) := by decide +kernel
theorem dX5_isNodeDry_1 : decode cX5_isNodeDry 1 = .ok (.iload_n 1, 1) := by decide +kernel
theorem dX5_isNodeDry_2 : decode cX5_isNodeDry 2 = .ok (.invokevirtual 61, 3) := by decide +kernel
theorem dX5_isNodeDry_5 : decode cX5_isNodeDry 5 = .ok (.aload_n 0, 1) := by decide +kernel
theorem dX5_isNodeDry_6 : decode cX5_isNodeDry 6 = .ok (.iload_n 1, 1) := by decide +kernel
theorem dX5_isNodeDry_7 : decode cX5_isNodeDry 7 = .ok (.invokevirtual 121, 3) := by decide +kernel
theorem dX5_isNodeDry_10 : decode cX5_isNodeDry 10 = .ok (.ireturn, 1) := by decide +kernel
set_option maxRecDepth 20000 in
theorem ggX5_isPipeDry_X5_requirePipe : GoodIn wsX5_isPipeDry wsX5_requirePipe := goodIn_ca (goodIn_r _ [5, 6, 7, 8, 9, 10, 11, 12, 13, 14, 37, 38, 39, 40, 41, 42, 43, 44, 45, 46, 47, 48, 49, 50, 51, 52, 53] (by decide +kernel) (by decide +kernel)) (goodIn_sub (fun _ h => List.mem_cons_of_mem _ (List.mem_append_right _ h)) (by decide +kernel))
set_option maxRecDepth 20000 in
theorem gX5_isPipeDry_X5_requirePipe : GoodIn wsX5_isPipeDry (wsV RX5 83 RX5 yX5_requirePipe wsX5_requirePipe) := goodIn_app (goodIn_of _ (by decide +kernel)) ggX5_isPipeDry_X5_requirePipe
set_option maxRecDepth 20000 in
theorem ggX5_isPipeDry_X5_partOfPipe : GoodIn wsX5_isPipeDry wsX5_partOfPipe := goodIn_r _ [17] (by decide +kernel) (by decide +kernel)
set_option maxRecDepth 20000 in
theorem gX5_isPipeDry_X5_partOfPipe : GoodIn wsX5_isPipeDry (va_wsS RX5 124 yX5_partOfPipe wsX5_partOfPipe) := goodIn_app (goodIn_of _ (by decide +kernel)) ggX5_isPipeDry_X5_partOfPipe
set_option maxRecDepth 20000 in
theorem ggX5_isPipeDry_X5_isDry : GoodIn wsX5_isPipeDry wsX5_isDry := goodIn_r _ [21, 8, 22, 23, 24, 12, 25, 26, 27, 28, 29, 30, 31, 14, 32, 33, 34, 35, 4, 36, 37, 38, 39, 40, 41, 42, 43, 44, 45, 46, 47, 48, 49, 50, 51, 52, 53] (by decide +kernel) (by decide +kernel)
set_option maxRecDepth 20000 in
theorem gX5_isPipeDry_X5_isDry : GoodIn wsX5_isPipeDry (wsV RX5 121 RX5 yX5_isDry wsX5_isDry) := goodIn_app (goodIn_of _ (by decide +kernel)) ggX5_isPipeDry_X5_isDry
theorem dX5_isPipeDry_0 : decode cX5_isPipeDry 0 = .ok (.aload_n 0, 1) := by decide +kernel
theorem dX5_isPipeDry_1 : decode cX5_isPipeDry 1 = .ok (.iload_n 1, 1) := by decide +kernel
theorem dX5_isPipeDry_2 : decode cX5_isPipeDry 2 = .ok (.invokevirtual 83, 3) := by decide +kernel
theorem dX5_isPipeDry_5 : decode cX5_isPipeDry 5 = .ok (.aload_n 0, 1) := by decide +kernel
theorem dX5_isPipeDry_6 : decode cX5_isPipeDry 6 = .ok (.iload_n 1, 1) := by decide +kernel
theorem dX5_isPipeDry_7 : decode cX5_isPipeDry 7 = .ok (.invokestatic 124, 3) := by decide +kernel
theorem dX5_isPipeDry_10 : decode cX5_isPipeDry 10 = .ok (.invokevirtual 121, 3) := by decide +kernel
theorem dX5_isPipeDry_13 : decode cX5_isPipeDry 13 = .ok (.ireturn, 1) := by decide +kernel
set_option maxRecDepth 20000 in
theorem ggX5_supplied_X2_wetBehind : GoodIn wsX5_supplied wsX2_wetBehind := goodIn_r _ [6, 7, 8, 9, 10, 11, 5, 12, 13, 14, 15, 31, 32, 33, 34, 35, 36, 37, 38, 39, 40, 41, 42] (by decide +kernel) (by decide +kernel)
set_option maxRecDepth 20000 in
theorem gX5_supplied_X2_wetBehind : GoodIn wsX5_supplied (wsV RX5 128 RX2 yX2_wetBehind wsX2_wetBehind) := goodIn_app (goodIn_of _ (by decide +kernel)) ggX5_supplied_X2_wetBehind
set_option maxRecDepth 20000 in
theorem ggX5_supplied_X2_customersOf : GoodIn wsX5_supplied wsX2_customersOf := goodIn_r _ [19, 13, 20, 21, 22, 23, 24, 25, 31, 32, 33, 34, 35, 36, 37, 38, 39, 40, 41, 42] (by decide +kernel) (by decide +kernel)
set_option maxRecDepth 20000 in
theorem gX5_supplied_X2_customersOf : GoodIn wsX5_supplied (wsV RX5 131 RX2 yX2_customersOf wsX2_customersOf) := goodIn_app (goodIn_of _ (by decide +kernel)) ggX5_supplied_X2_customersOf
theorem dX5_supplied_0 : decode cX5_supplied 0 = .ok (.aload_n 0, 1) := by decide +kernel
theorem dX5_supplied_1 : decode cX5_supplied 1 = .ok (.getfield 12, 3) := by decide +kernel
theorem dX5_supplied_4 : decode cX5_supplied 4 = .ok (.aload_n 0, 1) := by decide +kernel
theorem dX5_supplied_5 : decode cX5_supplied 5 = .ok (.getfield 12, 3) := by decide +kernel
theorem dX5_supplied_8 : decode cX5_supplied 8 = .ok (.iconst 0, 1) := by decide +kernel
theorem dX5_supplied_9 : decode cX5_supplied 9 = .ok (.invokevirtual 128, 3) := by decide +kernel
theorem dX5_supplied_12 : decode cX5_supplied 12 = .ok (.invokevirtual 131, 3) := by decide +kernel
theorem dX5_supplied_15 : decode cX5_supplied 15 = .ok (.ireturn, 1) := by decide +kernel
set_option maxRecDepth 20000 in
theorem ggX5_segments_X3_count : GoodIn wsX5_segments wsX3_count := goodIn_r _ [6, 7, 8, 9, 5, 10, 11, 12, 13, 14, 15, 16, 17, 18, 19, 20, 21, 22, 23, 24, 25, 26, 27, 28, 29, 30, 31, 32, 33, 39, 40, 41, 42, 43, 44, 45, 46, 47, 48, 49, 50, 51, 52] (by decide +kernel) (by decide +kernel)
set_option maxRecDepth 20000 in
theorem gX5_segments_X3_count : GoodIn wsX5_segments (wsV RX5 134 RX3 yX3_count wsX3_count) := goodIn_app (goodIn_of _ (by decide +kernel)) ggX5_segments_X3_count
theorem dX5_segments_0 : decode cX5_segments 0 = .ok (.aload_n 0, 1) := by decide +kernel
theorem dX5_segments_1 : decode cX5_segments 1 = .ok (.getfield 21, 3) := by decide +kernel
theorem dX5_segments_4 : decode cX5_segments 4 = .ok (.invokevirtual 134, 3) := by decide +kernel
theorem dX5_segments_7 : decode cX5_segments 7 = .ok (.ireturn, 1) := by decide +kernel
set_option maxRecDepth 20000 in
theorem ggX5_segmentOfNode_X5_requireNode : GoodIn wsX5_segmentOfNode wsX5_requireNode := goodIn_ca (goodIn_r _ [6, 7, 8, 9, 10, 11, 12, 13, 14, 15, 50, 51, 52, 53, 54, 55, 56, 57, 58, 59, 60, 61, 62, 63, 64, 65, 66] (by decide +kernel) (by decide +kernel)) (goodIn_sub (fun _ h => List.mem_cons_of_mem _ (List.mem_append_right _ h)) (by decide +kernel))
set_option maxRecDepth 20000 in
theorem gX5_segmentOfNode_X5_requireNode : GoodIn wsX5_segmentOfNode (wsV RX5 61 RX5 yX5_requireNode wsX5_requireNode) := goodIn_app (goodIn_of _ (by decide +kernel)) ggX5_segmentOfNode_X5_requireNode
set_option maxRecDepth 20000 in
theorem ggX5_segmentOfNode_X3_numberByWalking : GoodIn wsX5_segmentOfNode wsX3_numberByWalking := goodIn_r _ [20, 21, 22, 23, 19, 24, 25, 26, 27, 28, 13, 29, 30, 31, 32, 33, 34, 35, 36, 37, 38, 39, 40, 41, 42, 43, 44, 45, 15, 46, 5, 47, 48, 49, 67, 68, 55, 56, 57, 58, 59, 60, 61, 62, 63, 64, 65, 66] (by decide +kernel) (by decide +kernel)
set_option maxRecDepth 20000 in
theorem gX5_segmentOfNode_X3_numberByWalking : GoodIn wsX5_segmentOfNode (wsV RX5 137 RX3 yX3_numberByWalking wsX3_numberByWalking) := goodIn_app (goodIn_of _ (by decide +kernel)) ggX5_segmentOfNode_X3_numberByWalking
theorem dX5_segmentOfNode_0 : decode cX5_segmentOfNode 0 = .ok (.aload_n 0, 1) := by decide +kernel
theorem dX5_segmentOfNode_1 : decode cX5_segmentOfNode 1 = .ok (.iload_n 1, 1) := by decide +kernel
theorem dX5_segmentOfNode_2 : decode cX5_segmentOfNode 2 = .ok (.invokevirtual 61, 3) := by decide +kernel
theorem dX5_segmentOfNode_5 : decode cX5_segmentOfNode 5 = .ok (.aload_n 0, 1) := by decide +kernel
theorem dX5_segmentOfNode_6 : decode cX5_segmentOfNode 6 = .ok (.getfield 21, 3) := by decide +kernel
theorem dX5_segmentOfNode_9 : decode cX5_segmentOfNode 9 = .ok (.iload_n 1, 1) := by decide +kernel
theorem dX5_segmentOfNode_10 : decode cX5_segmentOfNode 10 = .ok (.invokevirtual 137, 3) := by decide +kernel
theorem dX5_segmentOfNode_13 : decode cX5_segmentOfNode 13 = .ok (.ireturn, 1) := by decide +kernel
set_option maxRecDepth 20000 in
theorem ggX5_segmentOfPipe_X5_requirePipe : GoodIn wsX5_segmentOfPipe wsX5_requirePipe := goodIn_ca (goodIn_r _ [6, 7, 8, 9, 10, 11, 12, 13, 14, 15, 51, 52, 53, 54, 55, 56, 57, 58, 59, 60, 61, 62, 63, 64, 65, 66, 67] (by decide +kernel) (by decide +kernel)) (goodIn_sub (fun _ h => List.mem_cons_of_mem _ (List.mem_append_right _ h)) (by decide +kernel))
set_option maxRecDepth 20000 in
theorem gX5_segmentOfPipe_X5_requirePipe : GoodIn wsX5_segmentOfPipe (wsV RX5 83 RX5 yX5_requirePipe wsX5_requirePipe) := goodIn_app (goodIn_of _ (by decide +kernel)) ggX5_segmentOfPipe_X5_requirePipe
set_option maxRecDepth 20000 in
theorem ggX5_segmentOfPipe_X5_partOfPipe : GoodIn wsX5_segmentOfPipe wsX5_partOfPipe := goodIn_r _ [18] (by decide +kernel) (by decide +kernel)
set_option maxRecDepth 20000 in
theorem gX5_segmentOfPipe_X5_partOfPipe : GoodIn wsX5_segmentOfPipe (va_wsS RX5 124 yX5_partOfPipe wsX5_partOfPipe) := goodIn_app (goodIn_of _ (by decide +kernel)) ggX5_segmentOfPipe_X5_partOfPipe
set_option maxRecDepth 20000 in
theorem ggX5_segmentOfPipe_X3_numberByWalking : GoodIn wsX5_segmentOfPipe wsX3_numberByWalking := goodIn_r _ [23, 24, 25, 26, 22, 27, 28, 29, 30, 31, 13, 32, 15, 33, 34, 35, 36, 37, 38, 39, 40, 41, 42, 43, 44, 45, 46, 47, 48, 17, 5, 18, 49, 50, 68, 69, 56, 57, 58, 59, 60, 61, 62, 63, 64, 65, 66, 67] (by decide +kernel) (by decide +kernel)
set_option maxRecDepth 20000 in
theorem gX5_segmentOfPipe_X3_numberByWalking : GoodIn wsX5_segmentOfPipe (wsV RX5 137 RX3 yX3_numberByWalking wsX3_numberByWalking) := goodIn_app (goodIn_of _ (by decide +kernel)) ggX5_segmentOfPipe_X3_numberByWalking
theorem dX5_segmentOfPipe_0 : decode cX5_segmentOfPipe 0 = .ok (.aload_n 0, 1) := by decide +kernel
theorem dX5_segmentOfPipe_1 : decode cX5_segmentOfPipe 1 = .ok (.iload_n 1, 1) := by decide +kernel
theorem dX5_segmentOfPipe_2 : decode cX5_segmentOfPipe 2 = .ok (.invokevirtual 83, 3) := by decide +kernel
theorem dX5_segmentOfPipe_5 : decode cX5_segmentOfPipe 5 = .ok (.aload_n 0, 1) := by decide +kernel
theorem dX5_segmentOfPipe_6 : decode cX5_segmentOfPipe 6 = .ok (.getfield 21, 3) := by decide +kernel
theorem dX5_segmentOfPipe_9 : decode cX5_segmentOfPipe 9 = .ok (.iload_n 1, 1) := by decide +kernel
theorem dX5_segmentOfPipe_10 : decode cX5_segmentOfPipe 10 = .ok (.invokestatic 124, 3) := by decide +kernel
theorem dX5_segmentOfPipe_13 : decode cX5_segmentOfPipe 13 = .ok (.invokevirtual 137, 3) := by decide +kernel
theorem dX5_segmentOfPipe_16 : decode cX5_segmentOfPipe 16 = .ok (.ireturn, 1) := by decide +kernel
set_option maxRecDepth 20000 in
theorem ggX5_segmentByMerging_X5_requirePipe : GoodIn wsX5_segmentByMerging wsX5_requirePipe := goodIn_ca (goodIn_r _ [6, 7, 8, 9, 10, 11, 12, 13, 14, 15, 61, 62, 63, 64, 65, 66, 67, 68, 69, 70, 71, 72, 73, 74, 75, 76, 77] (by decide +kernel) (by decide +kernel)) (goodIn_sub (fun _ h => List.mem_cons_of_mem _ (List.mem_append_right _ h)) (by decide +kernel))
set_option maxRecDepth 20000 in
theorem gX5_segmentByMerging_X5_requirePipe : GoodIn wsX5_segmentByMerging (wsV RX5 83 RX5 yX5_requirePipe wsX5_requirePipe) := goodIn_app (goodIn_of _ (by decide +kernel)) ggX5_segmentByMerging_X5_requirePipe
set_option maxRecDepth 20000 in
theorem ggX5_segmentByMerging_X5_partOfPipe : GoodIn wsX5_segmentByMerging wsX5_partOfPipe := goodIn_r _ [18] (by decide +kernel) (by decide +kernel)
set_option maxRecDepth 20000 in
theorem gX5_segmentByMerging_X5_partOfPipe : GoodIn wsX5_segmentByMerging (va_wsS RX5 124 yX5_partOfPipe wsX5_partOfPipe) := goodIn_app (goodIn_of _ (by decide +kernel)) ggX5_segmentByMerging_X5_partOfPipe
set_option maxRecDepth 20000 in
theorem ggX5_segmentByMerging_X3_numberByMerging : GoodIn wsX5_segmentByMerging wsX3_numberByMerging := goodIn_r _ [23, 24, 25, 26, 27, 22, 28, 29, 30, 11, 12, 13, 14, 15, 31, 32, 33, 34, 35, 17, 5, 18, 36, 37, 38, 39, 40, 41, 42, 43, 44, 45, 46, 47, 48, 49, 50, 51, 52, 53, 54, 55, 56, 57, 58, 59, 60, 78, 79, 66, 67, 68, 69, 70, 71, 72, 73, 74, 75, 76, 77] (by decide +kernel) (by decide +kernel)
set_option maxRecDepth 20000 in
theorem gX5_segmentByMerging_X3_numberByMerging : GoodIn wsX5_segmentByMerging (wsV RX5 140 RX3 yX3_numberByMerging wsX3_numberByMerging) := goodIn_app (goodIn_of _ (by decide +kernel)) ggX5_segmentByMerging_X3_numberByMerging
theorem dX5_segmentByMerging_0 : decode cX5_segmentByMerging 0 = .ok (.aload_n 0, 1) := by decide +kernel
theorem dX5_segmentByMerging_1 : decode cX5_segmentByMerging 1 = .ok (.iload_n 1, 1) := by decide +kernel
theorem dX5_segmentByMerging_2 : decode cX5_segmentByMerging 2 = .ok (.invokevirtual 83, 3) := by decide +kernel
theorem dX5_segmentByMerging_5 : decode cX5_segmentByMerging 5 = .ok (.aload_n 0, 1) := by decide +kernel
theorem dX5_segmentByMerging_6 : decode cX5_segmentByMerging 6 = .ok (.getfield 21, 3) := by decide +kernel
theorem dX5_segmentByMerging_9 : decode cX5_segmentByMerging 9 = .ok (.iload_n 1, 1) := by decide +kernel
theorem dX5_segmentByMerging_10 : decode cX5_segmentByMerging 10 = .ok (.invokestatic 124, 3) := by decide +kernel
theorem dX5_segmentByMerging_13 : decode cX5_segmentByMerging 13 = .ok (.invokevirtual 140, 3) := by decide +kernel
theorem dX5_segmentByMerging_16 : decode cX5_segmentByMerging 16 = .ok (.ireturn, 1) := by decide +kernel
set_option maxRecDepth 20000 in
theorem ggX5_ring_X5_requirePipe : GoodIn wsX5_ring wsX5_requirePipe := goodIn_ca (goodIn_r _ [6, 7, 8, 9, 10, 11, 12, 13, 14, 15, 76, 77, 78, 79, 80, 81, 82, 83, 84, 85, 86, 87, 88, 89, 90, 91, 92] (by decide +kernel) (by decide +kernel)) (goodIn_sub (fun _ h => List.mem_cons_of_mem _ (List.mem_append_left _ (List.mem_append_right _ h))) (by decide +kernel))
set_option maxRecDepth 20000 in
theorem gX5_ring_X5_requirePipe : GoodIn wsX5_ring (wsV RX5 83 RX5 yX5_requirePipe wsX5_requirePipe) := goodIn_app (goodIn_of _ (by decide +kernel)) ggX5_ring_X5_requirePipe
set_option maxRecDepth 20000 in
theorem ggX5_ring_X5_regionWithoutSource : GoodIn wsX5_ring wsX5_regionWithoutSource := goodIn_ca (goodIn_r _ [19, 20, 21, 1, 9, 22, 23, 24, 25, 26, 27, 5, 28, 29, 30, 31, 32, 33, 34, 35, 36, 13, 37, 38, 39, 40, 41, 42, 43, 15, 44, 45, 46, 47, 48, 49, 50, 76, 77, 78, 79, 80, 93, 94, 95, 96, 97, 98, 81, 82, 83, 84, 85, 86, 87, 88, 89, 90, 91, 92] (by decide +kernel) (by decide +kernel)) (goodIn_sub (fun _ h => List.mem_cons_of_mem _ (List.mem_append_right _ h)) (by decide +kernel))
set_option maxRecDepth 20000 in
theorem gX5_ring_X5_regionWithoutSource : GoodIn wsX5_ring (wsV RX5 143 RX5 yX5_regionWithoutSource wsX5_regionWithoutSource) := goodIn_app (goodIn_of _ (by decide +kernel)) ggX5_ring_X5_regionWithoutSource
set_option maxRecDepth 20000 in
theorem ggX5_ring_X0_ringOf : GoodIn wsX5_ring wsX0_ringOf := goodIn_r _ [54, 33, 55, 56, 57, 13, 58, 59, 60, 61, 62, 63, 64, 27, 5, 28, 65, 66, 67, 68, 69, 70, 71, 72, 73, 74, 75, 39, 38, 93, 94, 95, 96, 97, 98, 81, 82, 83, 84, 85, 86, 87, 88, 89, 90, 91, 92] (by decide +kernel) (by decide +kernel)
set_option maxRecDepth 20000 in
theorem gX5_ring_X0_ringOf : GoodIn wsX5_ring (wsV RX5 146 RX0 yX0_ringOf wsX0_ringOf) := goodIn_app (goodIn_of _ (by decide +kernel)) ggX5_ring_X0_ringOf
theorem dX5_ring_0 : decode cX5_ring 0 = .ok (.aload_n 0, 1) := by decide +kernel
theorem dX5_ring_1 : decode cX5_ring 1 = .ok (.iload_n 1, 1) := by decide +kernel
theorem dX5_ring_2 : decode cX5_ring 2 = .ok (.invokevirtual 83, 3) := by decide +kernel
theorem dX5_ring_5 : decode cX5_ring 5 = .ok (.aload_n 0, 1) := by decide +kernel
theorem dX5_ring_6 : decode cX5_ring 6 = .ok (.getfield 28, 3) := by decide +kernel
theorem dX5_ring_9 : decode cX5_ring 9 = .ok (.aload_n 0, 1) := by decide +kernel
theorem dX5_ring_10 : decode cX5_ring 10 = .ok (.iload_n 1, 1) := by decide +kernel
theorem dX5_ring_11 : decode cX5_ring 11 = .ok (.invokevirtual 143, 3) := by decide +kernel
theorem dX5_ring_14 : decode cX5_ring 14 = .ok (.invokevirtual 146, 3) := by decide +kernel
theorem dX5_ring_17 : decode cX5_ring 17 = .ok (.ireturn, 1) := by decide +kernel
set_option maxRecDepth 20000 in
theorem ggX5_cutOff_X5_requirePipe : GoodIn wsX5_cutOff wsX5_requirePipe := goodIn_ca (goodIn_r _ [6, 7, 8, 9, 10, 11, 12, 13, 14, 15, 90, 91, 92, 93, 94, 95, 96, 97, 98, 99, 100, 101, 102, 103, 104, 105, 106] (by decide +kernel) (by decide +kernel)) (goodIn_sub (fun _ h => List.mem_cons_of_mem _ (List.mem_append_left _ (List.mem_append_right _ h))) (by decide +kernel))
set_option maxRecDepth 20000 in
theorem gX5_cutOff_X5_requirePipe : GoodIn wsX5_cutOff (wsV RX5 83 RX5 yX5_requirePipe wsX5_requirePipe) := goodIn_app (goodIn_of _ (by decide +kernel)) ggX5_cutOff_X5_requirePipe
set_option maxRecDepth 20000 in
theorem ggX5_cutOff_X5_regionWithoutSource : GoodIn wsX5_cutOff wsX5_regionWithoutSource := goodIn_ca (goodIn_r _ [19, 20, 21, 1, 9, 22, 23, 24, 25, 26, 27, 5, 28, 29, 30, 31, 32, 33, 34, 35, 36, 13, 37, 38, 39, 40, 41, 42, 43, 15, 44, 45, 46, 47, 48, 49, 50, 90, 91, 92, 93, 94, 107, 108, 109, 110, 111, 112, 95, 96, 97, 98, 99, 100, 101, 102, 103, 104, 105, 106] (by decide +kernel) (by decide +kernel)) (goodIn_sub (fun _ h => List.mem_cons_of_mem _ (List.mem_append_right _ h)) (by decide +kernel))
set_option maxRecDepth 20000 in
theorem gX5_cutOff_X5_regionWithoutSource : GoodIn wsX5_cutOff (wsV RX5 143 RX5 yX5_regionWithoutSource wsX5_regionWithoutSource) := goodIn_app (goodIn_of _ (by decide +kernel)) ggX5_cutOff_X5_regionWithoutSource
set_option maxRecDepth 20000 in
theorem ggX5_cutOff_X0_customersLost : GoodIn wsX5_cutOff wsX0_customersLost := goodIn_r _ [54, 33, 55, 56, 57, 13, 58, 50, 39, 59, 41, 42, 43, 15, 44, 45, 60, 61, 62, 25, 63, 64, 65, 66, 67, 68, 69, 70, 71, 72, 73, 27, 5, 28, 74, 75, 76, 77, 78, 79, 80, 81, 82, 83, 84, 38, 85, 86, 87, 88, 89, 107, 108, 109, 110, 111, 112, 95, 96, 97, 98, 99, 100, 101, 102, 103, 104, 105, 106] (by decide +kernel) (by decide +kernel)
set_option maxRecDepth 20000 in
theorem gX5_cutOff_X0_customersLost : GoodIn wsX5_cutOff (wsV RX5 149 RX0 yX0_customersLost wsX0_customersLost) := goodIn_app (goodIn_of _ (by decide +kernel)) ggX5_cutOff_X0_customersLost
theorem dX5_cutOff_0 : decode cX5_cutOff 0 = .ok (.aload_n 0, 1) := by decide +kernel
theorem dX5_cutOff_1 : decode cX5_cutOff 1 = .ok (.iload_n 1, 1) := by decide +kernel
theorem dX5_cutOff_2 : decode cX5_cutOff 2 = .ok (.invokevirtual 83, 3) := by decide +kernel
theorem dX5_cutOff_5 : decode cX5_cutOff 5 = .ok (.aload_n 0, 1) := by decide +kernel
theorem dX5_cutOff_6 : decode cX5_cutOff 6 = .ok (.getfield 28, 3) := by decide +kernel
theorem dX5_cutOff_9 : decode cX5_cutOff 9 = .ok (.aload_n 0, 1) := by decide +kernel
theorem dX5_cutOff_10 : decode cX5_cutOff 10 = .ok (.iload_n 1, 1) := by decide +kernel
theorem dX5_cutOff_11 : decode cX5_cutOff 11 = .ok (.invokevirtual 143, 3) := by decide +kernel
theorem dX5_cutOff_14 : decode cX5_cutOff 14 = .ok (.invokevirtual 149, 3) := by decide +kernel
theorem dX5_cutOff_17 : decode cX5_cutOff 17 = .ok (.ireturn, 1) := by decide +kernel
set_option maxRecDepth 20000 in
theorem ggX5_fewest_X5_requirePipe : GoodIn wsX5_fewest wsX5_requirePipe := goodIn_ca (goodIn_r _ [6, 7, 8, 9, 10, 11, 12, 13, 14, 15, 95, 96, 97, 98, 99, 100, 101, 102, 103, 104, 105, 106, 107, 108, 109, 110, 111] (by decide +kernel) (by decide +kernel)) (goodIn_sub (fun _ h => List.mem_cons_of_mem _ (List.mem_append_right _ h)) (by decide +kernel))
set_option maxRecDepth 20000 in
theorem gX5_fewest_X5_requirePipe : GoodIn wsX5_fewest (wsV RX5 83 RX5 yX5_requirePipe wsX5_requirePipe) := goodIn_app (goodIn_of _ (by decide +kernel)) ggX5_fewest_X5_requirePipe
set_option maxRecDepth 20000 in
theorem ggX5_fewest_X0_countWays : GoodIn wsX5_fewest wsX0_countWays := goodIn_r _ [20, 21, 22, 23, 24, 19, 25, 26, 5, 27, 28, 29, 30, 31, 32, 33, 34, 35, 13, 36, 37, 38, 39, 40, 41, 42, 15, 43, 44, 45, 46, 47, 48, 49, 50, 51, 52, 53, 54, 55, 56, 57, 58, 59, 60, 61, 62, 63, 64, 65, 66, 67, 68, 69, 70, 71, 72, 73, 74, 75, 76, 77, 78, 79, 80, 81, 82, 83, 84, 85, 86, 87, 88, 89, 90, 91, 92, 93, 94, 112, 113, 114, 115, 116, 117, 100, 101, 102, 103, 104, 105, 106, 107, 108, 109, 110, 111] (by decide +kernel) (by decide +kernel)
set_option maxRecDepth 20000 in
theorem gX5_fewest_X0_countWays : GoodIn wsX5_fewest (wsV RX5 152 RX0 yX0_countWays wsX0_countWays) := goodIn_app (goodIn_of _ (by decide +kernel)) ggX5_fewest_X0_countWays
theorem dX5_fewest_0 : decode cX5_fewest 0 = .ok (.aload_n 0, 1) := by decide +kernel
theorem dX5_fewest_1 : decode cX5_fewest 1 = .ok (.iload_n 1, 1) := by decide +kernel
theorem dX5_fewest_2 : decode cX5_fewest 2 = .ok (.invokevirtual 83, 3) := by decide +kernel
theorem dX5_fewest_5 : decode cX5_fewest 5 = .ok (.aload_n 0, 1) := by decide +kernel
theorem dX5_fewest_6 : decode cX5_fewest 6 = .ok (.getfield 28, 3) := by decide +kernel
theorem dX5_fewest_9 : decode cX5_fewest 9 = .ok (.iload_n 1, 1) := by decide +kernel
theorem dX5_fewest_10 : decode cX5_fewest 10 = .ok (.invokevirtual 152, 3) := by decide +kernel
theorem dX5_fewest_13 : decode cX5_fewest 13 = .ok (.ireturn, 1) := by decide +kernel
set_option maxRecDepth 20000 in
theorem ggX5_fewestByTrying_X5_requirePipe : GoodIn wsX5_fewestByTrying wsX5_requirePipe := goodIn_ca (goodIn_r _ [6, 7, 8, 9, 10, 11, 12, 13, 14, 15, 94, 95, 96, 97, 98, 99, 100, 101, 102, 103, 104, 105, 106, 107, 108, 109, 110] (by decide +kernel) (by decide +kernel)) (goodIn_sub (fun _ h => List.mem_cons_of_mem _ (List.mem_append_right _ h)) (by decide +kernel))
set_option maxRecDepth 20000 in
theorem gX5_fewestByTrying_X5_requirePipe : GoodIn wsX5_fewestByTrying (wsV RX5 83 RX5 yX5_requirePipe wsX5_requirePipe) := goodIn_app (goodIn_of _ (by decide +kernel)) ggX5_fewestByTrying_X5_requirePipe
set_option maxRecDepth 20000 in
theorem ggX5_fewestByTrying_X0_trySets : GoodIn wsX5_fewestByTrying wsX0_trySets := goodIn_r _ [20, 21, 22, 23, 24, 19, 25, 26, 5, 27, 28, 29, 30, 31, 32, 33, 34, 13, 35, 36, 37, 38, 39, 40, 41, 15, 42, 43, 44, 45, 46, 47, 48, 49, 50, 51, 52, 53, 54, 55, 56, 57, 58, 59, 60, 61, 62, 63, 64, 65, 66, 67, 68, 69, 70, 71, 72, 73, 74, 75, 76, 77, 78, 79, 80, 81, 82, 83, 84, 85, 86, 87, 88, 89, 90, 91, 92, 93, 111, 112, 113, 114, 115, 116, 99, 100, 101, 102, 103, 104, 105, 106, 107, 108, 109, 110] (by decide +kernel) (by decide +kernel)
set_option maxRecDepth 20000 in
theorem gX5_fewestByTrying_X0_trySets : GoodIn wsX5_fewestByTrying (wsV RX5 155 RX0 yX0_trySets wsX0_trySets) := goodIn_app (goodIn_of _ (by decide +kernel)) ggX5_fewestByTrying_X0_trySets
theorem dX5_fewestByTrying_0 : decode cX5_fewestByTrying 0 = .ok (.aload_n 0, 1) := by decide +kernel
theorem dX5_fewestByTrying_1 : decode cX5_fewestByTrying 1 = .ok (.iload_n 1, 1) := by decide +kernel
theorem dX5_fewestByTrying_2 : decode cX5_fewestByTrying 2 = .ok (.invokevirtual 83, 3) := by decide +kernel
theorem dX5_fewestByTrying_5 : decode cX5_fewestByTrying 5 = .ok (.aload_n 0, 1) := by decide +kernel
theorem dX5_fewestByTrying_6 : decode cX5_fewestByTrying 6 = .ok (.getfield 28, 3) := by decide +kernel
theorem dX5_fewestByTrying_9 : decode cX5_fewestByTrying 9 = .ok (.iload_n 1, 1) := by decide +kernel
theorem dX5_fewestByTrying_10 : decode cX5_fewestByTrying 10 = .ok (.invokevirtual 155, 3) := by decide +kernel
theorem dX5_fewestByTrying_13 : decode cX5_fewestByTrying 13 = .ok (.ireturn, 1) := by decide +kernel
set_option maxRecDepth 20000 in
theorem ggX5_distance_X5_requireNode : GoodIn wsX5_distance wsX5_requireNode := goodIn_ca (goodIn_r _ [6, 7, 8, 9, 10, 11, 12, 13, 14, 15, 69, 70, 71, 72, 73, 74, 75, 76, 77, 78, 79, 80, 81, 82, 83, 84, 85] (by decide +kernel) (by decide +kernel)) (goodIn_sub (fun _ h => List.mem_cons_of_mem _ (List.mem_append_right _ h)) (by decide +kernel))
set_option maxRecDepth 20000 in
theorem gX5_distance_X5_requireNode : GoodIn wsX5_distance (wsV RX5 61 RX5 yX5_requireNode wsX5_requireNode) := goodIn_app (goodIn_of _ (by decide +kernel)) ggX5_distance_X5_requireNode
set_option maxRecDepth 20000 in
theorem ggX5_distance_X1_distanceOf : GoodIn wsX5_distance wsX1_distanceOf := goodIn_r _ [20, 21, 22, 23, 24, 25, 19, 26, 27, 28, 29, 30, 13, 31, 32, 33, 5, 34, 35, 11, 12, 14, 15, 36, 37, 38, 39, 40, 41, 42, 43, 44, 45, 46, 47, 48, 49, 50, 51, 52, 53, 54, 55, 56, 57, 58, 59, 60, 61, 62, 63, 64, 65, 66, 67, 68, 86, 87, 74, 75, 76, 77, 78, 79, 80, 81, 82, 83, 84, 85] (by decide +kernel) (by decide +kernel)
set_option maxRecDepth 20000 in
theorem gX5_distance_X1_distanceOf : GoodIn wsX5_distance (wsV RX5 158 RX1 yX1_distanceOf wsX1_distanceOf) := goodIn_app (goodIn_of _ (by decide +kernel)) ggX5_distance_X1_distanceOf
theorem dX5_distance_0 : decode cX5_distance 0 = .ok (.aload_n 0, 1) := by decide +kernel
theorem dX5_distance_1 : decode cX5_distance 1 = .ok (.iload_n 1, 1) := by decide +kernel
theorem dX5_distance_2 : decode cX5_distance 2 = .ok (.invokevirtual 61, 3) := by decide +kernel
theorem dX5_distance_5 : decode cX5_distance 5 = .ok (.aload_n 0, 1) := by decide +kernel
theorem dX5_distance_6 : decode cX5_distance 6 = .ok (.getfield 35, 3) := by decide +kernel
theorem dX5_distance_9 : decode cX5_distance 9 = .ok (.iload_n 1, 1) := by decide +kernel
theorem dX5_distance_10 : decode cX5_distance 10 = .ok (.invokevirtual 158, 3) := by decide +kernel
theorem dX5_distance_13 : decode cX5_distance 13 = .ok (.ireturn, 1) := by decide +kernel
set_option maxRecDepth 20000 in
theorem ggX5_flushAt_X1_pipeAndEndAt : GoodIn wsX5_flushAt wsX1_pipeAndEndAt := goodIn_r _ [8, 9, 10, 11, 12, 7, 13, 14, 15, 16, 17, 18, 19, 20, 21, 22, 23, 24, 25, 26, 27, 28, 29, 30, 31, 32, 33, 34, 35, 36, 37, 38, 39, 40, 41, 42, 43, 44, 45, 46, 47, 48, 49, 50, 51, 52, 53, 54, 55, 56, 57, 58, 59, 60, 61, 62, 63, 64, 65, 66, 67, 68, 69, 70, 71, 72, 73, 74, 75, 76, 77, 78, 79, 80, 81, 82, 88, 89, 90, 91, 92, 93, 94, 95, 96, 97, 98, 99, 100, 101] (by decide +kernel) (by decide +kernel)
set_option maxRecDepth 20000 in
theorem gX5_flushAt_X1_pipeAndEndAt : GoodIn wsX5_flushAt (wsV RX5 161 RX1 yX1_pipeAndEndAt wsX1_pipeAndEndAt) := goodIn_app (goodIn_of _ (by decide +kernel)) ggX5_flushAt_X1_pipeAndEndAt
theorem dX5_flushAt_0 : decode cX5_flushAt 0 = .ok (.aload_n 0, 1) := by decide +kernel
theorem dX5_flushAt_1 : decode cX5_flushAt 1 = .ok (.getfield 35, 3) := by decide +kernel
theorem dX5_flushAt_4 : decode cX5_flushAt 4 = .ok (.iload_n 1, 1) := by decide +kernel
theorem dX5_flushAt_5 : decode cX5_flushAt 5 = .ok (.invokevirtual 161, 3) := by decide +kernel
theorem dX5_flushAt_8 : decode cX5_flushAt 8 = .ok (.istore_n 2, 1) := by decide +kernel
theorem dX5_flushAt_9 : decode cX5_flushAt 9 = .ok (.iload_n 2, 1) := by decide +kernel
theorem dX5_flushAt_10 : decode cX5_flushAt 10 = .ok (.iconst (-1), 1) := by decide +kernel
theorem dX5_flushAt_11 : decode cX5_flushAt 11 = .ok (.if_icmp .ne 13, 3) := by decide +kernel
theorem dX5_flushAt_14 : decode cX5_flushAt 14 = .ok (.new 164, 3) := by decide +kernel
theorem dX5_flushAt_17 : decode cX5_flushAt 17 = .ok (.dup, 1) := by decide +kernel
theorem dX5_flushAt_18 : decode cX5_flushAt 18 = .ok (.ldc 166, 2) := by decide +kernel
theorem dX5_flushAt_20 : decode cX5_flushAt 20 = .ok (.invokespecial 168, 3) := by decide +kernel
theorem dX5_flushAt_23 : decode cX5_flushAt 23 = .ok (.athrow, 1) := by decide +kernel
theorem dX5_flushAt_24 : decode cX5_flushAt 24 = .ok (.iload_n 2, 1) := by decide +kernel
theorem dX5_flushAt_25 : decode cX5_flushAt 25 = .ok (.ireturn, 1) := by decide +kernel
set_option maxRecDepth 20000 in
theorem ggX5_walk_X5_requireNode : GoodIn wsX5_walk wsX5_requireNode := goodIn_ca (goodIn_r _ [9, 10, 11, 3, 12, 13, 14, 15, 16, 17, 92, 93, 94, 95, 96, 97, 98, 99, 100, 101, 102, 103, 104, 105, 106, 107, 108] (by decide +kernel) (by decide +kernel)) (goodIn_sub (fun _ h => List.mem_cons_of_mem _ (List.mem_append_right _ h)) (by decide +kernel))
set_option maxRecDepth 20000 in
theorem gX5_walk_X5_requireNode : GoodIn wsX5_walk (wsV RX5 61 RX5 yX5_requireNode wsX5_requireNode) := goodIn_app (goodIn_of _ (by decide +kernel)) ggX5_walk_X5_requireNode
set_option maxRecDepth 20000 in
theorem ggX5_walk_X2_valveCount : GoodIn wsX5_walk wsX2_valveCount := goodIn_r _ [21, 22, 97, 98, 99, 100, 101, 102, 103, 104, 105, 106, 107, 108] (by decide +kernel) (by decide +kernel)
set_option maxRecDepth 20000 in
theorem gX5_walk_X2_valveCount : GoodIn wsX5_walk (wsV RX5 94 RX2 yX2_valveCount wsX2_valveCount) := goodIn_app (goodIn_of _ (by decide +kernel)) ggX5_walk_X2_valveCount
set_option maxRecDepth 20000 in
theorem ggX5_walk_J6_bitCount_0f7a4 : GoodIn wsX5_walk wsJ6_bitCount_0f7a4 := goodIn_r _ [26, 27, 28, 29] (by decide +kernel) (by decide +kernel)
set_option maxRecDepth 20000 in
theorem gX5_walk_J6_bitCount_0f7a4 : GoodIn wsX5_walk (va_wsS RX5 171 yJ6_bitCount_0f7a4 wsJ6_bitCount_0f7a4) := goodIn_app (goodIn_of _ (by decide +kernel)) ggX5_walk_J6_bitCount_0f7a4
set_option maxRecDepth 20000 in
theorem ggX5_walk_X4_leastLength : GoodIn wsX5_walk wsX4_leastLength := goodIn_r _ [34, 35, 36, 37, 38, 39, 40, 41, 42, 43, 33, 44, 45, 46, 47, 19, 20, 15, 21, 22, 48, 8, 49, 50, 51, 52, 53, 54, 55, 56, 57, 58, 59, 60, 61, 62, 63, 64, 65, 66, 67, 68, 69, 70, 71, 72, 73, 74, 75, 76, 77, 78, 79, 13, 14, 16, 17, 80, 81, 82, 83, 84, 85, 86, 87, 88, 89, 90, 91, 109, 110, 111, 112, 97, 98, 99, 100, 101, 102, 103, 104, 105, 106, 107, 108] (by decide +kernel) (by decide +kernel)
set_option maxRecDepth 20000 in
theorem gX5_walk_X4_leastLength : GoodIn wsX5_walk (wsV RX5 178 RX4 yX4_leastLength wsX4_leastLength) := goodIn_app (goodIn_of _ (by decide +kernel)) ggX5_walk_X4_leastLength
theorem dX5_walk_0 : decode cX5_walk 0 = .ok (.aload_n 0, 1) := by decide +kernel
theorem dX5_walk_1 : decode cX5_walk 1 = .ok (.iload_n 1, 1) := by decide +kernel
theorem dX5_walk_2 : decode cX5_walk 2 = .ok (.invokevirtual 61, 3) := by decide +kernel
theorem dX5_walk_5 : decode cX5_walk 5 = .ok (.iload_n 2, 1) := by decide +kernel
theorem dX5_walk_6 : decode cX5_walk 6 = .ok (.ifCond .lt 16, 3) := by decide +kernel
theorem dX5_walk_9 : decode cX5_walk 9 = .ok (.iload_n 2, 1) := by decide +kernel
theorem dX5_walk_10 : decode cX5_walk 10 = .ok (.iconst 1, 1) := by decide +kernel
theorem dX5_walk_11 : decode cX5_walk 11 = .ok (.aload_n 0, 1) := by decide +kernel
theorem dX5_walk_12 : decode cX5_walk 12 = .ok (.getfield 12, 3) := by decide +kernel
theorem dX5_walk_15 : decode cX5_walk 15 = .ok (.invokevirtual 94, 3) := by decide +kernel
theorem dX5_walk_18 : decode cX5_walk 18 = .ok (.ishl, 1) := by decide +kernel
theorem dX5_walk_19 : decode cX5_walk 19 = .ok (.if_icmp .lt 13, 3) := by decide +kernel
theorem dX5_walk_22 : decode cX5_walk 22 = .ok (.new 65, 3) := by decide +kernel
theorem dX5_walk_25 : decode cX5_walk 25 = .ok (.dup, 1) := by decide +kernel
theorem dX5_walk_26 : decode cX5_walk 26 = .ok (.ldc 169, 2) := by decide +kernel
theorem dX5_walk_28 : decode cX5_walk 28 = .ok (.invokespecial 69, 3) := by decide +kernel
theorem dX5_walk_31 : decode cX5_walk 31 = .ok (.athrow, 1) := by decide +kernel
theorem dX5_walk_32 : decode cX5_walk 32 = .ok (.iload_n 2, 1) := by decide +kernel
theorem dX5_walk_33 : decode cX5_walk 33 = .ok (.invokestatic 171, 3) := by decide +kernel
theorem dX5_walk_36 : decode cX5_walk 36 = .ok (.bipush 6, 2) := by decide +kernel
theorem dX5_walk_38 : decode cX5_walk 38 = .ok (.if_icmp .le 13, 3) := by decide +kernel
theorem dX5_walk_41 : decode cX5_walk 41 = .ok (.new 65, 3) := by decide +kernel
theorem dX5_walk_44 : decode cX5_walk 44 = .ok (.dup, 1) := by decide +kernel
theorem dX5_walk_45 : decode cX5_walk 45 = .ok (.ldc 176, 2) := by decide +kernel
theorem dX5_walk_47 : decode cX5_walk 47 = .ok (.invokespecial 69, 3) := by decide +kernel
theorem dX5_walk_50 : decode cX5_walk 50 = .ok (.athrow, 1) := by decide +kernel
theorem dX5_walk_51 : decode cX5_walk 51 = .ok (.aload_n 0, 1) := by decide +kernel
theorem dX5_walk_52 : decode cX5_walk 52 = .ok (.getfield 42, 3) := by decide +kernel
theorem dX5_walk_55 : decode cX5_walk 55 = .ok (.iload_n 1, 1) := by decide +kernel
theorem dX5_walk_56 : decode cX5_walk 56 = .ok (.iload_n 2, 1) := by decide +kernel
theorem dX5_walk_57 : decode cX5_walk 57 = .ok (.invokevirtual 178, 3) := by decide +kernel
theorem dX5_walk_60 : decode cX5_walk 60 = .ok (.ireturn, 1) := by decide +kernel
set_option maxRecDepth 20000 in
theorem ggX5_requireNode_X2_nodeCount : GoodIn wsX5_requireNode wsX2_nodeCount := goodIn_r _ [8, 9, 15, 16, 17, 18, 19, 20, 21, 22, 23, 24, 25, 26] (by decide +kernel) (by decide +kernel)
set_option maxRecDepth 20000 in
theorem gX5_requireNode_X2_nodeCount : GoodIn wsX5_requireNode (wsV RX5 46 RX2 yX2_nodeCount wsX2_nodeCount) := goodIn_app (goodIn_of _ (by decide +kernel)) ggX5_requireNode_X2_nodeCount
theorem dX5_requireNode_0 : decode cX5_requireNode 0 = .ok (.iload_n 1, 1) := by decide +kernel
theorem dX5_requireNode_1 : decode cX5_requireNode 1 = .ok (.ifCond .lt 14, 3) := by decide +kernel
theorem dX5_requireNode_4 : decode cX5_requireNode 4 = .ok (.iload_n 1, 1) := by decide +kernel
theorem dX5_requireNode_5 : decode cX5_requireNode 5 = .ok (.aload_n 0, 1) := by decide +kernel
theorem dX5_requireNode_6 : decode cX5_requireNode 6 = .ok (.getfield 12, 3) := by decide +kernel
theorem dX5_requireNode_9 : decode cX5_requireNode 9 = .ok (.invokevirtual 46, 3) := by decide +kernel
theorem dX5_requireNode_12 : decode cX5_requireNode 12 = .ok (.if_icmp .lt 13, 3) := by decide +kernel
theorem dX5_requireNode_15 : decode cX5_requireNode 15 = .ok (.new 164, 3) := by decide +kernel
theorem dX5_requireNode_18 : decode cX5_requireNode 18 = .ok (.dup, 1) := by decide +kernel
theorem dX5_requireNode_19 : decode cX5_requireNode 19 = .ok (.ldc 181, 2) := by decide +kernel
theorem dX5_requireNode_21 : decode cX5_requireNode 21 = .ok (.invokespecial 168, 3) := by decide +kernel
theorem dX5_requireNode_24 : decode cX5_requireNode 24 = .ok (.athrow, 1) := by decide +kernel
theorem dX5_requireNode_25 : decode cX5_requireNode 25 = .ok (.return_, 1) := by decide +kernel
set_option maxRecDepth 20000 in
theorem ggX5_requirePipe_X2_pipeCount : GoodIn wsX5_requirePipe wsX2_pipeCount := goodIn_r _ [8, 9, 15, 16, 17, 18, 19, 20, 21, 22, 23, 24, 25, 26] (by decide +kernel) (by decide +kernel)
set_option maxRecDepth 20000 in
theorem gX5_requirePipe_X2_pipeCount : GoodIn wsX5_requirePipe (wsV RX5 74 RX2 yX2_pipeCount wsX2_pipeCount) := goodIn_app (goodIn_of _ (by decide +kernel)) ggX5_requirePipe_X2_pipeCount
theorem dX5_requirePipe_0 : decode cX5_requirePipe 0 = .ok (.iload_n 1, 1) := by decide +kernel
theorem dX5_requirePipe_1 : decode cX5_requirePipe 1 = .ok (.ifCond .lt 14, 3) := by decide +kernel
theorem dX5_requirePipe_4 : decode cX5_requirePipe 4 = .ok (.iload_n 1, 1) := by decide +kernel
theorem dX5_requirePipe_5 : decode cX5_requirePipe 5 = .ok (.aload_n 0, 1) := by decide +kernel
theorem dX5_requirePipe_6 : decode cX5_requirePipe 6 = .ok (.getfield 12, 3) := by decide +kernel
theorem dX5_requirePipe_9 : decode cX5_requirePipe 9 = .ok (.invokevirtual 74, 3) := by decide +kernel
theorem dX5_requirePipe_12 : decode cX5_requirePipe 12 = .ok (.if_icmp .lt 13, 3) := by decide +kernel
theorem dX5_requirePipe_15 : decode cX5_requirePipe 15 = .ok (.new 164, 3) := by decide +kernel
theorem dX5_requirePipe_18 : decode cX5_requirePipe 18 = .ok (.dup, 1) := by decide +kernel
theorem dX5_requirePipe_19 : decode cX5_requirePipe 19 = .ok (.ldc 183, 2) := by decide +kernel
theorem dX5_requirePipe_21 : decode cX5_requirePipe 21 = .ok (.invokespecial 168, 3) := by decide +kernel
theorem dX5_requirePipe_24 : decode cX5_requirePipe 24 = .ok (.athrow, 1) := by decide +kernel
theorem dX5_requirePipe_25 : decode cX5_requirePipe 25 = .ok (.return_, 1) := by decide +kernel
set_option maxRecDepth 20000 in
theorem ggX5_requireValve_X2_valveCount : GoodIn wsX5_requireValve wsX2_valveCount := goodIn_r _ [8, 9, 15, 16, 17, 18, 19, 20, 21, 22, 23, 24, 25, 26] (by decide +kernel) (by decide +kernel)
set_option maxRecDepth 20000 in
theorem gX5_requireValve_X2_valveCount : GoodIn wsX5_requireValve (wsV RX5 94 RX2 yX2_valveCount wsX2_valveCount) := goodIn_app (goodIn_of _ (by decide +kernel)) ggX5_requireValve_X2_valveCount
theorem dX5_requireValve_0 : decode cX5_requireValve 0 = .ok (.iload_n 1, 1) := by decide +kernel
theorem dX5_requireValve_1 : decode cX5_requireValve 1 = .ok (.ifCond .lt 14, 3) := by decide +kernel
theorem dX5_requireValve_4 : decode cX5_requireValve 4 = .ok (.iload_n 1, 1) := by decide +kernel
theorem dX5_requireValve_5 : decode cX5_requireValve 5 = .ok (.aload_n 0, 1) := by decide +kernel
theorem dX5_requireValve_6 : decode cX5_requireValve 6 = .ok (.getfield 12, 3) := by decide +kernel
theorem dX5_requireValve_9 : decode cX5_requireValve 9 = .ok (.invokevirtual 94, 3) := by decide +kernel
theorem dX5_requireValve_12 : decode cX5_requireValve 12 = .ok (.if_icmp .lt 13, 3) := by decide +kernel
theorem dX5_requireValve_15 : decode cX5_requireValve 15 = .ok (.new 164, 3) := by decide +kernel
theorem dX5_requireValve_18 : decode cX5_requireValve 18 = .ok (.dup, 1) := by decide +kernel
theorem dX5_requireValve_19 : decode cX5_requireValve 19 = .ok (.ldc 185, 2) := by decide +kernel
theorem dX5_requireValve_21 : decode cX5_requireValve 21 = .ok (.invokespecial 168, 3) := by decide +kernel
theorem dX5_requireValve_24 : decode cX5_requireValve 24 = .ok (.athrow, 1) := by decide +kernel
theorem dX5_requireValve_25 : decode cX5_requireValve 25 = .ok (.return_, 1) := by decide +kernel
set_option maxRecDepth 20000 in
theorem ggX5_isDry_X2_wetBehind : GoodIn wsX5_isDry wsX2_wetBehind := goodIn_r _ [6, 7, 8, 9, 10, 11, 5, 12, 13, 14, 15, 25, 26, 27, 28, 29, 30, 31, 32, 33, 34, 35, 36] (by decide +kernel) (by decide +kernel)
set_option maxRecDepth 20000 in
theorem gX5_isDry_X2_wetBehind : GoodIn wsX5_isDry (wsV RX5 128 RX2 yX2_wetBehind wsX2_wetBehind) := goodIn_app (goodIn_of _ (by decide +kernel)) ggX5_isDry_X2_wetBehind
set_option maxRecDepth 20000 in
theorem ggX5_isDry_X5_hasBit : GoodIn wsX5_isDry wsX5_hasBit := goodIn_r _ [19] (by decide +kernel) (by decide +kernel)
set_option maxRecDepth 20000 in
theorem gX5_isDry_X5_hasBit : GoodIn wsX5_isDry (va_wsS RX5 187 yX5_hasBit wsX5_hasBit) := goodIn_app (goodIn_of _ (by decide +kernel)) ggX5_isDry_X5_hasBit
theorem dX5_isDry_0 : decode cX5_isDry 0 = .ok (.aload_n 0, 1) := by decide +kernel
theorem dX5_isDry_1 : decode cX5_isDry 1 = .ok (.getfield 12, 3) := by decide +kernel
theorem dX5_isDry_4 : decode cX5_isDry 4 = .ok (.iconst 0, 1) := by decide +kernel
theorem dX5_isDry_5 : decode cX5_isDry 5 = .ok (.invokevirtual 128, 3) := by decide +kernel
theorem dX5_isDry_8 : decode cX5_isDry 8 = .ok (.iload_n 1, 1) := by decide +kernel
theorem dX5_isDry_9 : decode cX5_isDry 9 = .ok (.invokestatic 187, 3) := by decide +kernel
theorem dX5_isDry_12 : decode cX5_isDry 12 = .ok (.ifCond .ne 7, 3) := by decide +kernel
theorem dX5_isDry_15 : decode cX5_isDry 15 = .ok (.iconst 1, 1) := by decide +kernel
theorem dX5_isDry_16 : decode cX5_isDry 16 = .ok (.goto 4, 3) := by decide +kernel
theorem dX5_isDry_19 : decode cX5_isDry 19 = .ok (.iconst 0, 1) := by decide +kernel
theorem dX5_isDry_20 : decode cX5_isDry 20 = .ok (.ireturn, 1) := by decide +kernel
set_option maxRecDepth 20000 in
theorem ggX5_regionWithoutSource_X0_regionOf : GoodIn wsX5_regionWithoutSource wsX0_regionOf := goodIn_r _ [9, 10, 11, 12, 13, 14, 15, 8, 16, 17, 18, 19, 20, 21, 22, 23, 24, 25, 26, 27, 28, 29, 30, 31, 42, 43, 44, 45, 46, 47, 48, 49, 50, 51, 52, 53, 54, 55, 56, 57, 58, 59] (by decide +kernel) (by decide +kernel)
set_option maxRecDepth 20000 in
theorem gX5_regionWithoutSource_X0_regionOf : GoodIn wsX5_regionWithoutSource (wsV RX5 191 RX0 yX0_regionOf wsX0_regionOf) := goodIn_app (goodIn_of _ (by decide +kernel)) ggX5_regionWithoutSource_X0_regionOf
set_option maxRecDepth 20000 in
theorem ggX5_regionWithoutSource_X2_sources : GoodIn wsX5_regionWithoutSource wsX2_sources := goodIn_r _ [35, 36, 48, 49, 50, 51, 52, 53, 54, 55, 56, 57, 58, 59] (by decide +kernel) (by decide +kernel)
set_option maxRecDepth 20000 in
theorem gX5_regionWithoutSource_X2_sources : GoodIn wsX5_regionWithoutSource (wsV RX5 194 RX2 yX2_sources wsX2_sources) := goodIn_app (goodIn_of _ (by decide +kernel)) ggX5_regionWithoutSource_X2_sources
theorem dX5_regionWithoutSource_0 : decode cX5_regionWithoutSource 0 = .ok (.aload_n 0, 1) := by decide +kernel
theorem dX5_regionWithoutSource_1 : decode cX5_regionWithoutSource 1 = .ok (.getfield 28, 3) := by decide +kernel
theorem dX5_regionWithoutSource_4 : decode cX5_regionWithoutSource 4 = .ok (.iload_n 1, 1) := by decide +kernel
theorem dX5_regionWithoutSource_5 : decode cX5_regionWithoutSource 5 = .ok (.invokevirtual 191, 3) := by decide +kernel
theorem dX5_regionWithoutSource_8 : decode cX5_regionWithoutSource 8 = .ok (.istore_n 2, 1) := by decide +kernel
theorem dX5_regionWithoutSource_9 : decode cX5_regionWithoutSource 9 = .ok (.iload_n 2, 1) := by decide +kernel
theorem dX5_regionWithoutSource_10 : decode cX5_regionWithoutSource 10 = .ok (.aload_n 0, 1) := by decide +kernel
theorem dX5_regionWithoutSource_11 : decode cX5_regionWithoutSource 11 = .ok (.getfield 12, 3) := by decide +kernel
theorem dX5_regionWithoutSource_14 : decode cX5_regionWithoutSource 14 = .ok (.invokevirtual 194, 3) := by decide +kernel
theorem dX5_regionWithoutSource_17 : decode cX5_regionWithoutSource 17 = .ok (.iand, 1) := by decide +kernel
theorem dX5_regionWithoutSource_18 : decode cX5_regionWithoutSource 18 = .ok (.ifCond .eq 13, 3) := by decide +kernel
theorem dX5_regionWithoutSource_21 : decode cX5_regionWithoutSource 21 = .ok (.new 50, 3) := by decide +kernel
theorem dX5_regionWithoutSource_24 : decode cX5_regionWithoutSource 24 = .ok (.dup, 1) := by decide +kernel
theorem dX5_regionWithoutSource_25 : decode cX5_regionWithoutSource 25 = .ok (.ldc 197, 2) := by decide +kernel
theorem dX5_regionWithoutSource_27 : decode cX5_regionWithoutSource 27 = .ok (.invokespecial 54, 3) := by decide +kernel
theorem dX5_regionWithoutSource_30 : decode cX5_regionWithoutSource 30 = .ok (.athrow, 1) := by decide +kernel
theorem dX5_regionWithoutSource_31 : decode cX5_regionWithoutSource 31 = .ok (.iload_n 2, 1) := by decide +kernel
theorem dX5_regionWithoutSource_32 : decode cX5_regionWithoutSource 32 = .ok (.ireturn, 1) := by decide +kernel
theorem dX5_partOfPipe_0 : decode cX5_partOfPipe 0 = .ok (.bipush 12, 2) := by decide +kernel
theorem dX5_partOfPipe_2 : decode cX5_partOfPipe 2 = .ok (.iload_n 0, 1) := by decide +kernel
theorem dX5_partOfPipe_3 : decode cX5_partOfPipe 3 = .ok (.iadd, 1) := by decide +kernel
theorem dX5_partOfPipe_4 : decode cX5_partOfPipe 4 = .ok (.ireturn, 1) := by decide +kernel
theorem dX5_hasBit_0 : decode cX5_hasBit 0 = .ok (.iload_n 0, 1) := by decide +kernel
theorem dX5_hasBit_1 : decode cX5_hasBit 1 = .ok (.iload_n 1, 1) := by decide +kernel
theorem dX5_hasBit_2 : decode cX5_hasBit 2 = .ok (.ishr, 1) := by decide +kernel
theorem dX5_hasBit_3 : decode cX5_hasBit 3 = .ok (.iconst 1, 1) := by decide +kernel
theorem dX5_hasBit_4 : decode cX5_hasBit 4 = .ok (.iand, 1) := by decide +kernel
theorem dX5_hasBit_5 : decode cX5_hasBit 5 = .ok (.ifCond .eq 7, 3) := by decide +kernel
theorem dX5_hasBit_8 : decode cX5_hasBit 8 = .ok (.iconst 1, 1) := by decide +kernel
theorem dX5_hasBit_9 : decode cX5_hasBit 9 = .ok (.goto 4, 3) := by decide +kernel
theorem dX5_hasBit_12 : decode cX5_hasBit 12 = .ok (.iconst 0, 1) := by decide +kernel
theorem dX5_hasBit_13 : decode cX5_hasBit 13 = .ok (.ireturn, 1) := by decide +kernel
theorem dX5_withBit_0 : decode cX5_withBit 0 = .ok (.iload_n 2, 1) := by decide +kernel
theorem dX5_withBit_1 : decode cX5_withBit 1 = .ok (.ifCond .eq 11, 3) := by decide +kernel
theorem dX5_withBit_4 : decode cX5_withBit 4 = .ok (.iload_n 0, 1) := by decide +kernel
theorem dX5_withBit_5 : decode cX5_withBit 5 = .ok (.iconst 1, 1) := by decide +kernel
theorem dX5_withBit_6 : decode cX5_withBit 6 = .ok (.iload_n 1, 1) := by decide +kernel
theorem dX5_withBit_7 : decode cX5_withBit 7 = .ok (.ishl, 1) := by decide +kernel
theorem dX5_withBit_8 : decode cX5_withBit 8 = .ok (.ior, 1) := by decide +kernel
theorem dX5_withBit_9 : decode cX5_withBit 9 = .ok (.goto 10, 3) := by decide +kernel
theorem dX5_withBit_12 : decode cX5_withBit 12 = .ok (.iload_n 0, 1) := by decide +kernel
theorem dX5_withBit_13 : decode cX5_withBit 13 = .ok (.iconst 1, 1) := by decide +kernel
theorem dX5_withBit_14 : decode cX5_withBit 14 = .ok (.iload_n 1, 1) := by decide +kernel
theorem dX5_withBit_15 : decode cX5_withBit 15 = .ok (.ishl, 1) := by decide +kernel
theorem dX5_withBit_16 : decode cX5_withBit 16 = .ok (.iconst (-1), 1) := by decide +kernel
theorem dX5_withBit_17 : decode cX5_withBit 17 = .ok (.ixor, 1) := by decide +kernel
theorem dX5_withBit_18 : decode cX5_withBit 18 = .ok (.iand, 1) := by decide +kernel
theorem dX5_withBit_19 : decode cX5_withBit 19 = .ok (.ireturn, 1) := by decide +kernel
end
section
theorem dX6_init_0 : decode cX6_init 0 = .ok (.aload_n 0, 1) := by decide +kernel
theorem dX6_init_1 : decode cX6_init 1 = .ok (.invokespecial 1, 3) := by decide +kernel
theorem dX6_init_4 : decode cX6_init 4 = .ok (.aload_n 0, 1) := by decide +kernel
theorem dX6_init_5 : decode cX6_init 5 = .ok (.bipush 32, 2) := by decide +kernel
theorem dX6_init_7 : decode cX6_init 7 = .ok (.newarray .int, 2) := by decide +kernel
theorem dX6_init_9 : decode cX6_init 9 = .ok (.putfield 7, 3) := by decide +kernel
theorem dX6_init_12 : decode cX6_init 12 = .ok (.aload_n 0, 1) := by decide +kernel
theorem dX6_init_13 : decode cX6_init 13 = .ok (.bipush 32, 2) := by decide +kernel
theorem dX6_init_15 : decode cX6_init 15 = .ok (.newarray .int, 2) := by decide +kernel
theorem dX6_init_17 : decode cX6_init 17 = .ok (.putfield 13, 3) := by decide +kernel
theorem dX6_init_20 : decode cX6_init 20 = .ok (.aload_n 0, 1) := by decide +kernel
theorem dX6_init_21 : decode cX6_init 21 = .ok (.bipush 16, 2) := by decide +kernel
theorem dX6_init_23 : decode cX6_init 23 = .ok (.newarray .int, 2) := by decide +kernel
theorem dX6_init_25 : decode cX6_init 25 = .ok (.putfield 16, 3) := by decide +kernel
theorem dX6_init_28 : decode cX6_init 28 = .ok (.aload_n 0, 1) := by decide +kernel
theorem dX6_init_29 : decode cX6_init 29 = .ok (.bipush 16, 2) := by decide +kernel
theorem dX6_init_31 : decode cX6_init 31 = .ok (.newarray .int, 2) := by decide +kernel
theorem dX6_init_33 : decode cX6_init 33 = .ok (.putfield 19, 3) := by decide +kernel
theorem dX6_init_36 : decode cX6_init 36 = .ok (.aload_n 0, 1) := by decide +kernel
theorem dX6_init_37 : decode cX6_init 37 = .ok (.bipush 12, 2) := by decide +kernel
theorem dX6_init_39 : decode cX6_init 39 = .ok (.newarray .int, 2) := by decide +kernel
theorem dX6_init_41 : decode cX6_init 41 = .ok (.putfield 22, 3) := by decide +kernel
theorem dX6_init_44 : decode cX6_init 44 = .ok (.aload_n 0, 1) := by decide +kernel
theorem dX6_init_45 : decode cX6_init 45 = .ok (.bipush 12, 2) := by decide +kernel
theorem dX6_init_47 : decode cX6_init 47 = .ok (.newarray .int, 2) := by decide +kernel
theorem dX6_init_49 : decode cX6_init 49 = .ok (.putfield 25, 3) := by decide +kernel
theorem dX6_init_52 : decode cX6_init 52 = .ok (.aload_n 0, 1) := by decide +kernel
theorem dX6_init_53 : decode cX6_init 53 = .ok (.sipush 144, 3) := by decide +kernel
theorem dX6_init_56 : decode cX6_init 56 = .ok (.newarray .int, 2) := by decide +kernel
theorem dX6_init_58 : decode cX6_init 58 = .ok (.putfield 28, 3) := by decide +kernel
theorem dX6_init_61 : decode cX6_init 61 = .ok (.aload_n 0, 1) := by decide +kernel
theorem dX6_init_62 : decode cX6_init 62 = .ok (.bipush 6, 2) := by decide +kernel
theorem dX6_init_64 : decode cX6_init 64 = .ok (.newarray .int, 2) := by decide +kernel
theorem dX6_init_66 : decode cX6_init 66 = .ok (.putfield 31, 3) := by decide +kernel
theorem dX6_init_69 : decode cX6_init 69 = .ok (.aload_n 0, 1) := by decide +kernel
theorem dX6_init_70 : decode cX6_init 70 = .ok (.bipush 16, 2) := by decide +kernel
theorem dX6_init_72 : decode cX6_init 72 = .ok (.newarray .int, 2) := by decide +kernel
theorem dX6_init_74 : decode cX6_init 74 = .ok (.putfield 34, 3) := by decide +kernel
theorem dX6_init_77 : decode cX6_init 77 = .ok (.return_, 1) := by decide +kernel
theorem dX6_thrown_0 : decode cX6_thrown 0 = .ok (.aload_n 0, 1) := by decide +kernel
theorem dX6_thrown_1 : decode cX6_thrown 1 = .ok (.getfield 37, 3) := by decide +kernel
theorem dX6_thrown_4 : decode cX6_thrown 4 = .ok (.ireturn, 1) := by decide +kernel
theorem dX6_refused_0 : decode cX6_refused 0 = .ok (.aload_n 0, 1) := by decide +kernel
theorem dX6_refused_1 : decode cX6_refused 1 = .ok (.iload_n 1, 1) := by decide +kernel
theorem dX6_refused_2 : decode cX6_refused 2 = .ok (.putfield 37, 3) := by decide +kernel
theorem dX6_refused_5 : decode cX6_refused 5 = .ok (.iload_n 1, 1) := by decide +kernel
theorem dX6_refused_6 : decode cX6_refused 6 = .ok (.ifCond .eq 7, 3) := by decide +kernel
theorem dX6_refused_9 : decode cX6_refused 9 = .ok (.iconst 1, 1) := by decide +kernel
theorem dX6_refused_10 : decode cX6_refused 10 = .ok (.goto 4, 3) := by decide +kernel
theorem dX6_refused_13 : decode cX6_refused 13 = .ok (.iconst 0, 1) := by decide +kernel
theorem dX6_refused_14 : decode cX6_refused 14 = .ok (.ireturn, 1) := by decide +kernel
theorem dX6_fine_0 : decode cX6_fine 0 = .ok (.aload_n 0, 1) := by decide +kernel
theorem dX6_fine_1 : decode cX6_fine 1 = .ok (.iconst 0, 1) := by decide +kernel
theorem dX6_fine_2 : decode cX6_fine 2 = .ok (.putfield 37, 3) := by decide +kernel
theorem dX6_fine_5 : decode cX6_fine 5 = .ok (.iload_n 1, 1) := by decide +kernel
theorem dX6_fine_6 : decode cX6_fine 6 = .ok (.ireturn, 1) := by decide +kernel
theorem dX6_in_0 : decode cX6_in 0 = .ok (.iload_n 0, 1) := by decide +kernel
theorem dX6_in_1 : decode cX6_in 1 = .ok (.iload_n 1, 1) := by decide +kernel
theorem dX6_in_2 : decode cX6_in 2 = .ok (.if_icmp .lt 12, 3) := by decide +kernel
theorem dX6_in_5 : decode cX6_in 5 = .ok (.iload_n 0, 1) := by decide +kernel
theorem dX6_in_6 : decode cX6_in 6 = .ok (.iload_n 2, 1) := by decide +kernel
theorem dX6_in_7 : decode cX6_in 7 = .ok (.if_icmp .gt 7, 3) := by decide +kernel
theorem dX6_in_10 : decode cX6_in 10 = .ok (.iconst 1, 1) := by decide +kernel
theorem dX6_in_11 : decode cX6_in 11 = .ok (.goto 4, 3) := by decide +kernel
theorem dX6_in_14 : decode cX6_in 14 = .ok (.iconst 0, 1) := by decide +kernel
theorem dX6_in_15 : decode cX6_in 15 = .ok (.ireturn, 1) := by decide +kernel
set_option maxRecDepth 20000 in
theorem ggX6_isNode_X6_in : GoodIn wsX6_isNode wsX6_in := goodIn_r _ [5] (by decide +kernel) (by decide +kernel)
set_option maxRecDepth 20000 in
theorem gX6_isNode_X6_in : GoodIn wsX6_isNode (va_wsS RX6 44 yX6_in wsX6_in) := goodIn_app (goodIn_of _ (by decide +kernel)) ggX6_isNode_X6_in
theorem dX6_isNode_0 : decode cX6_isNode 0 = .ok (.iload_n 1, 1) := by decide +kernel
theorem dX6_isNode_1 : decode cX6_isNode 1 = .ok (.iconst 0, 1) := by decide +kernel
theorem dX6_isNode_2 : decode cX6_isNode 2 = .ok (.aload_n 0, 1) := by decide +kernel
theorem dX6_isNode_3 : decode cX6_isNode 3 = .ok (.getfield 41, 3) := by decide +kernel
theorem dX6_isNode_6 : decode cX6_isNode 6 = .ok (.iconst 1, 1) := by decide +kernel
theorem dX6_isNode_7 : decode cX6_isNode 7 = .ok (.isub, 1) := by decide +kernel
theorem dX6_isNode_8 : decode cX6_isNode 8 = .ok (.invokestatic 44, 3) := by decide +kernel
theorem dX6_isNode_11 : decode cX6_isNode 11 = .ok (.ireturn, 1) := by decide +kernel
set_option maxRecDepth 20000 in
theorem ggX6_isPipe_X6_in : GoodIn wsX6_isPipe wsX6_in := goodIn_r _ [5] (by decide +kernel) (by decide +kernel)
set_option maxRecDepth 20000 in
theorem gX6_isPipe_X6_in : GoodIn wsX6_isPipe (va_wsS RX6 44 yX6_in wsX6_in) := goodIn_app (goodIn_of _ (by decide +kernel)) ggX6_isPipe_X6_in
theorem dX6_isPipe_0 : decode cX6_isPipe 0 = .ok (.iload_n 1, 1) := by decide +kernel
theorem dX6_isPipe_1 : decode cX6_isPipe 1 = .ok (.iconst 0, 1) := by decide +kernel
theorem dX6_isPipe_2 : decode cX6_isPipe 2 = .ok (.aload_n 0, 1) := by decide +kernel
theorem dX6_isPipe_3 : decode cX6_isPipe 3 = .ok (.getfield 48, 3) := by decide +kernel
theorem dX6_isPipe_6 : decode cX6_isPipe 6 = .ok (.iconst 1, 1) := by decide +kernel
theorem dX6_isPipe_7 : decode cX6_isPipe 7 = .ok (.isub, 1) := by decide +kernel
theorem dX6_isPipe_8 : decode cX6_isPipe 8 = .ok (.invokestatic 44, 3) := by decide +kernel
theorem dX6_isPipe_11 : decode cX6_isPipe 11 = .ok (.ireturn, 1) := by decide +kernel
set_option maxRecDepth 20000 in
theorem ggX6_isValve_X6_in : GoodIn wsX6_isValve wsX6_in := goodIn_r _ [5] (by decide +kernel) (by decide +kernel)
set_option maxRecDepth 20000 in
theorem gX6_isValve_X6_in : GoodIn wsX6_isValve (va_wsS RX6 44 yX6_in wsX6_in) := goodIn_app (goodIn_of _ (by decide +kernel)) ggX6_isValve_X6_in
theorem dX6_isValve_0 : decode cX6_isValve 0 = .ok (.iload_n 1, 1) := by decide +kernel
theorem dX6_isValve_1 : decode cX6_isValve 1 = .ok (.iconst 0, 1) := by decide +kernel
theorem dX6_isValve_2 : decode cX6_isValve 2 = .ok (.aload_n 0, 1) := by decide +kernel
theorem dX6_isValve_3 : decode cX6_isValve 3 = .ok (.getfield 51, 3) := by decide +kernel
theorem dX6_isValve_6 : decode cX6_isValve 6 = .ok (.iconst 1, 1) := by decide +kernel
theorem dX6_isValve_7 : decode cX6_isValve 7 = .ok (.isub, 1) := by decide +kernel
theorem dX6_isValve_8 : decode cX6_isValve 8 = .ok (.invokestatic 44, 3) := by decide +kernel
theorem dX6_isValve_11 : decode cX6_isValve 11 = .ok (.ireturn, 1) := by decide +kernel
theorem dX6_bits_0 : decode cX6_bits 0 = .ok (.iconst 0, 1) := by decide +kernel
theorem dX6_bits_1 : decode cX6_bits 1 = .ok (.istore_n 1, 1) := by decide +kernel
theorem dX6_bits_2 : decode cX6_bits 2 = .ok (.iload_n 0, 1) := by decide +kernel
theorem dX6_bits_3 : decode cX6_bits 3 = .ok (.istore_n 2, 1) := by decide +kernel
theorem dX6_bits_4 : decode cX6_bits 4 = .ok (.iload_n 2, 1) := by decide +kernel
theorem dX6_bits_5 : decode cX6_bits 5 = .ok (.ifCond .eq 15, 3) := by decide +kernel
theorem dX6_bits_8 : decode cX6_bits 8 = .ok (.iinc 1 1, 3) := by decide +kernel
theorem dX6_bits_11 : decode cX6_bits 11 = .ok (.iload_n 2, 1) := by decide +kernel
theorem dX6_bits_12 : decode cX6_bits 12 = .ok (.iload_n 2, 1) := by decide +kernel
theorem dX6_bits_13 : decode cX6_bits 13 = .ok (.iconst 1, 1) := by decide +kernel
theorem dX6_bits_14 : decode cX6_bits 14 = .ok (.isub, 1) := by decide +kernel
theorem dX6_bits_15 : decode cX6_bits 15 = .ok (.iand, 1) := by decide +kernel
theorem dX6_bits_16 : decode cX6_bits 16 = .ok (.istore_n 2, 1) := by decide +kernel
theorem dX6_bits_17 : decode cX6_bits 17 = .ok (.goto (-13), 3) := by decide +kernel
theorem dX6_bits_20 : decode cX6_bits 20 = .ok (.iload_n 1, 1) := by decide +kernel
theorem dX6_bits_21 : decode cX6_bits 21 = .ok (.ireturn, 1) := by decide +kernel
set_option maxRecDepth 20000 in
theorem ggX6_addNode_X6_refused : GoodIn wsX6_addNode wsX6_refused := goodIn_r _ [7, 8, 9, 10, 11, 12, 13, 14, 15, 16, 17, 18, 19, 20, 21, 22, 23, 24, 25] (by decide +kernel) (by decide +kernel)
set_option maxRecDepth 20000 in
theorem gX6_addNode_X6_refused : GoodIn wsX6_addNode (wsV RX6 54 RX6 yX6_refused wsX6_refused) := goodIn_app (goodIn_of _ (by decide +kernel)) ggX6_addNode_X6_refused
theorem dX6_addNode_0 : decode cX6_addNode 0 = .ok (.aload_n 0, 1) := by decide +kernel
theorem dX6_addNode_1 : decode cX6_addNode 1 = .ok (.aload_n 0, 1) := by decide +kernel
theorem dX6_addNode_2 : decode cX6_addNode 2 = .ok (.getfield 41, 3) := by decide +kernel
theorem dX6_addNode_5 : decode cX6_addNode 5 = .ok (.bipush 12, 2) := by decide +kernel
theorem dX6_addNode_7 : decode cX6_addNode 7 = .ok (.if_icmp .ne 7, 3) := by decide +kernel
theorem dX6_addNode_10 : decode cX6_addNode 10 = .ok (.iconst 1, 1) := by decide +kernel
theorem dX6_addNode_11 : decode cX6_addNode 11 = .ok (.goto 4, 3) := by decide +kernel
theorem dX6_addNode_14 : decode cX6_addNode 14 = .ok (.iconst 0, 1) := by decide +kernel
theorem dX6_addNode_15 : decode cX6_addNode 15 = .ok (.invokevirtual 54, 3) := by decide +kernel
theorem dX6_addNode_18 : decode cX6_addNode 18 = .ok (.ifCond .eq 5, 3) := by decide +kernel
theorem dX6_addNode_21 : decode cX6_addNode 21 = .ok (.iconst 0, 1) := by decide +kernel
theorem dX6_addNode_22 : decode cX6_addNode 22 = .ok (.ireturn, 1) := by decide +kernel
theorem dX6_addNode_23 : decode cX6_addNode 23 = .ok (.aload_n 0, 1) := by decide +kernel
theorem dX6_addNode_24 : decode cX6_addNode 24 = .ok (.dup, 1) := by decide +kernel
theorem dX6_addNode_25 : decode cX6_addNode 25 = .ok (.getfield 58, 3) := by decide +kernel
theorem dX6_addNode_28 : decode cX6_addNode 28 = .ok (.iload_n 1, 1) := by decide +kernel
theorem dX6_addNode_29 : decode cX6_addNode 29 = .ok (.ifCond .eq 12, 3) := by decide +kernel
theorem dX6_addNode_32 : decode cX6_addNode 32 = .ok (.iconst 1, 1) := by decide +kernel
theorem dX6_addNode_33 : decode cX6_addNode 33 = .ok (.aload_n 0, 1) := by decide +kernel
theorem dX6_addNode_34 : decode cX6_addNode 34 = .ok (.getfield 41, 3) := by decide +kernel
theorem dX6_addNode_37 : decode cX6_addNode 37 = .ok (.ishl, 1) := by decide +kernel
theorem dX6_addNode_38 : decode cX6_addNode 38 = .ok (.goto 4, 3) := by decide +kernel
theorem dX6_addNode_41 : decode cX6_addNode 41 = .ok (.iconst 0, 1) := by decide +kernel
theorem dX6_addNode_42 : decode cX6_addNode 42 = .ok (.ior, 1) := by decide +kernel
theorem dX6_addNode_43 : decode cX6_addNode 43 = .ok (.putfield 58, 3) := by decide +kernel
theorem dX6_addNode_46 : decode cX6_addNode 46 = .ok (.aload_n 0, 1) := by decide +kernel
theorem dX6_addNode_47 : decode cX6_addNode 47 = .ok (.dup, 1) := by decide +kernel
theorem dX6_addNode_48 : decode cX6_addNode 48 = .ok (.getfield 41, 3) := by decide +kernel
theorem dX6_addNode_51 : decode cX6_addNode 51 = .ok (.iconst 1, 1) := by decide +kernel
theorem dX6_addNode_52 : decode cX6_addNode 52 = .ok (.iadd, 1) := by decide +kernel
theorem dX6_addNode_53 : decode cX6_addNode 53 = .ok (.putfield 41, 3) := by decide +kernel
theorem dX6_addNode_56 : decode cX6_addNode 56 = .ok (.aload_n 0, 1) := by decide +kernel
theorem dX6_addNode_57 : decode cX6_addNode 57 = .ok (.getfield 41, 3) := by decide +kernel
theorem dX6_addNode_60 : decode cX6_addNode 60 = .ok (.iconst 1, 1) := by decide +kernel
theorem dX6_addNode_61 : decode cX6_addNode 61 = .ok (.isub, 1) := by decide +kernel
theorem dX6_addNode_62 : decode cX6_addNode 62 = .ok (.ireturn, 1) := by decide +kernel
set_option maxRecDepth 20000 in
theorem ggX6_addPipe_X6_isNode : GoodIn wsX6_addPipe wsX6_isNode := goodIn_r _ [10, 11, 12, 13, 9, 14, 20, 21, 22, 23, 24, 25, 26, 27, 28, 29, 30, 31, 32, 33, 34, 35, 36] (by decide +kernel) (by decide +kernel)
set_option maxRecDepth 20000 in
theorem gX6_addPipe_X6_isNode : GoodIn wsX6_addPipe (wsV RX6 61 RX6 yX6_isNode wsX6_isNode) := goodIn_app (goodIn_of _ (by decide +kernel)) ggX6_addPipe_X6_isNode
set_option maxRecDepth 20000 in
theorem ggX6_addPipe_X6_in : GoodIn wsX6_addPipe wsX6_in := goodIn_r _ [14] (by decide +kernel) (by decide +kernel)
set_option maxRecDepth 20000 in
theorem gX6_addPipe_X6_in : GoodIn wsX6_addPipe (va_wsS RX6 44 yX6_in wsX6_in) := goodIn_app (goodIn_of _ (by decide +kernel)) ggX6_addPipe_X6_in
set_option maxRecDepth 20000 in
theorem ggX6_addPipe_X6_refused : GoodIn wsX6_addPipe wsX6_refused := goodIn_r _ [18, 19, 20, 21, 22, 23, 24, 25, 26, 27, 28, 29, 30, 31, 32, 33, 34, 35, 36] (by decide +kernel) (by decide +kernel)
set_option maxRecDepth 20000 in
theorem gX6_addPipe_X6_refused : GoodIn wsX6_addPipe (wsV RX6 54 RX6 yX6_refused wsX6_refused) := goodIn_app (goodIn_of _ (by decide +kernel)) ggX6_addPipe_X6_refused
theorem dX6_addPipe_0 : decode cX6_addPipe 0 = .ok (.aload_n 0, 1) := by decide +kernel
theorem dX6_addPipe_1 : decode cX6_addPipe 1 = .ok (.iload_n 1, 1) := by decide +kernel
theorem dX6_addPipe_2 : decode cX6_addPipe 2 = .ok (.invokevirtual 61, 3) := by decide +kernel
theorem dX6_addPipe_5 : decode cX6_addPipe 5 = .ok (.ifCond .eq 15, 3) := by decide +kernel
theorem dX6_addPipe_8 : decode cX6_addPipe 8 = .ok (.aload_n 0, 1) := by decide +kernel
theorem dX6_addPipe_9 : decode cX6_addPipe 9 = .ok (.iload_n 2, 1) := by decide +kernel
theorem dX6_addPipe_10 : decode cX6_addPipe 10 = .ok (.invokevirtual 61, 3) := by decide +kernel
theorem dX6_addPipe_13 : decode cX6_addPipe 13 = .ok (.ifCond .eq 7, 3) := by decide +kernel
theorem dX6_addPipe_16 : decode cX6_addPipe 16 = .ok (.iconst 1, 1) := by decide +kernel
theorem dX6_addPipe_17 : decode cX6_addPipe 17 = .ok (.goto 4, 3) := by decide +kernel
theorem dX6_addPipe_20 : decode cX6_addPipe 20 = .ok (.iconst 0, 1) := by decide +kernel
theorem dX6_addPipe_21 : decode cX6_addPipe 21 = .ok (.istore 5, 2) := by decide +kernel
theorem dX6_addPipe_23 : decode cX6_addPipe 23 = .ok (.iload_n 1, 1) := by decide +kernel
theorem dX6_addPipe_24 : decode cX6_addPipe 24 = .ok (.iload_n 2, 1) := by decide +kernel
theorem dX6_addPipe_25 : decode cX6_addPipe 25 = .ok (.if_icmp .eq 28, 3) := by decide +kernel
theorem dX6_addPipe_28 : decode cX6_addPipe 28 = .ok (.iload_n 3, 1) := by decide +kernel
theorem dX6_addPipe_29 : decode cX6_addPipe 29 = .ok (.iconst 1, 1) := by decide +kernel
theorem dX6_addPipe_30 : decode cX6_addPipe 30 = .ok (.bipush 99, 2) := by decide +kernel
theorem dX6_addPipe_32 : decode cX6_addPipe 32 = .ok (.invokestatic 44, 3) := by decide +kernel
theorem dX6_addPipe_35 : decode cX6_addPipe 35 = .ok (.ifCond .eq 18, 3) := by decide +kernel
theorem dX6_addPipe_38 : decode cX6_addPipe 38 = .ok (.iload 4, 2) := by decide +kernel
theorem dX6_addPipe_40 : decode cX6_addPipe 40 = .ok (.iconst 0, 1) := by decide +kernel
theorem dX6_addPipe_41 : decode cX6_addPipe 41 = .ok (.bipush 99, 2) := by decide +kernel
theorem dX6_addPipe_43 : decode cX6_addPipe 43 = .ok (.invokestatic 44, 3) := by decide +kernel
theorem dX6_addPipe_46 : decode cX6_addPipe 46 = .ok (.ifCond .eq 7, 3) := by decide +kernel
theorem dX6_addPipe_49 : decode cX6_addPipe 49 = .ok (.iconst 1, 1) := by decide +kernel
theorem dX6_addPipe_50 : decode cX6_addPipe 50 = .ok (.goto 4, 3) := by decide +kernel
theorem dX6_addPipe_53 : decode cX6_addPipe 53 = .ok (.iconst 0, 1) := by decide +kernel
theorem dX6_addPipe_54 : decode cX6_addPipe 54 = .ok (.istore 6, 2) := by decide +kernel
theorem dX6_addPipe_56 : decode cX6_addPipe 56 = .ok (.aload_n 0, 1) := by decide +kernel
theorem dX6_addPipe_57 : decode cX6_addPipe 57 = .ok (.iload 5, 2) := by decide +kernel
theorem dX6_addPipe_59 : decode cX6_addPipe 59 = .ok (.ifCond .ne 7, 3) := by decide +kernel
theorem dX6_addPipe_62 : decode cX6_addPipe 62 = .ok (.iconst 1, 1) := by decide +kernel
theorem dX6_addPipe_63 : decode cX6_addPipe 63 = .ok (.goto 26, 3) := by decide +kernel
theorem dX6_addPipe_66 : decode cX6_addPipe 66 = .ok (.iload 6, 2) := by decide +kernel
theorem dX6_addPipe_68 : decode cX6_addPipe 68 = .ok (.ifCond .ne 7, 3) := by decide +kernel
theorem dX6_addPipe_71 : decode cX6_addPipe 71 = .ok (.iconst 2, 1) := by decide +kernel
theorem dX6_addPipe_72 : decode cX6_addPipe 72 = .ok (.goto 17, 3) := by decide +kernel
theorem dX6_addPipe_75 : decode cX6_addPipe 75 = .ok (.aload_n 0, 1) := by decide +kernel
theorem dX6_addPipe_76 : decode cX6_addPipe 76 = .ok (.getfield 48, 3) := by decide +kernel
theorem dX6_addPipe_79 : decode cX6_addPipe 79 = .ok (.bipush 16, 2) := by decide +kernel
theorem dX6_addPipe_81 : decode cX6_addPipe 81 = .ok (.if_icmp .ne 7, 3) := by decide +kernel
theorem dX6_addPipe_84 : decode cX6_addPipe 84 = .ok (.iconst 3, 1) := by decide +kernel
theorem dX6_addPipe_85 : decode cX6_addPipe 85 = .ok (.goto 4, 3) := by decide +kernel
theorem dX6_addPipe_88 : decode cX6_addPipe 88 = .ok (.iconst 0, 1) := by decide +kernel
theorem dX6_addPipe_89 : decode cX6_addPipe 89 = .ok (.invokevirtual 54, 3) := by decide +kernel
theorem dX6_addPipe_92 : decode cX6_addPipe 92 = .ok (.ifCond .eq 5, 3) := by decide +kernel
theorem dX6_addPipe_95 : decode cX6_addPipe 95 = .ok (.iconst 0, 1) := by decide +kernel
theorem dX6_addPipe_96 : decode cX6_addPipe 96 = .ok (.ireturn, 1) := by decide +kernel
theorem dX6_addPipe_97 : decode cX6_addPipe 97 = .ok (.aload_n 0, 1) := by decide +kernel
theorem dX6_addPipe_98 : decode cX6_addPipe 98 = .ok (.getfield 7, 3) := by decide +kernel
theorem dX6_addPipe_101 : decode cX6_addPipe 101 = .ok (.iconst 2, 1) := by decide +kernel
theorem dX6_addPipe_102 : decode cX6_addPipe 102 = .ok (.aload_n 0, 1) := by decide +kernel
theorem dX6_addPipe_103 : decode cX6_addPipe 103 = .ok (.getfield 48, 3) := by decide +kernel
theorem dX6_addPipe_106 : decode cX6_addPipe 106 = .ok (.imul, 1) := by decide +kernel
theorem dX6_addPipe_107 : decode cX6_addPipe 107 = .ok (.iload_n 1, 1) := by decide +kernel
theorem dX6_addPipe_108 : decode cX6_addPipe 108 = .ok (.iastore, 1) := by decide +kernel
theorem dX6_addPipe_109 : decode cX6_addPipe 109 = .ok (.aload_n 0, 1) := by decide +kernel
theorem dX6_addPipe_110 : decode cX6_addPipe 110 = .ok (.getfield 7, 3) := by decide +kernel
theorem dX6_addPipe_113 : decode cX6_addPipe 113 = .ok (.iconst 2, 1) := by decide +kernel
theorem dX6_addPipe_114 : decode cX6_addPipe 114 = .ok (.aload_n 0, 1) := by decide +kernel
theorem dX6_addPipe_115 : decode cX6_addPipe 115 = .ok (.getfield 48, 3) := by decide +kernel
theorem dX6_addPipe_118 : decode cX6_addPipe 118 = .ok (.imul, 1) := by decide +kernel
theorem dX6_addPipe_119 : decode cX6_addPipe 119 = .ok (.iconst 1, 1) := by decide +kernel
theorem dX6_addPipe_120 : decode cX6_addPipe 120 = .ok (.iadd, 1) := by decide +kernel
theorem dX6_addPipe_121 : decode cX6_addPipe 121 = .ok (.iload_n 2, 1) := by decide +kernel
theorem dX6_addPipe_122 : decode cX6_addPipe 122 = .ok (.iastore, 1) := by decide +kernel
theorem dX6_addPipe_123 : decode cX6_addPipe 123 = .ok (.aload_n 0, 1) := by decide +kernel
theorem dX6_addPipe_124 : decode cX6_addPipe 124 = .ok (.getfield 13, 3) := by decide +kernel
theorem dX6_addPipe_127 : decode cX6_addPipe 127 = .ok (.iconst 2, 1) := by decide +kernel
theorem dX6_addPipe_128 : decode cX6_addPipe 128 = .ok (.aload_n 0, 1) := by decide +kernel
theorem dX6_addPipe_129 : decode cX6_addPipe 129 = .ok (.getfield 48, 3) := by decide +kernel
theorem dX6_addPipe_132 : decode cX6_addPipe 132 = .ok (.imul, 1) := by decide +kernel
theorem dX6_addPipe_133 : decode cX6_addPipe 133 = .ok (.iconst (-1), 1) := by decide +kernel
theorem dX6_addPipe_134 : decode cX6_addPipe 134 = .ok (.iastore, 1) := by decide +kernel
theorem dX6_addPipe_135 : decode cX6_addPipe 135 = .ok (.aload_n 0, 1) := by decide +kernel
theorem dX6_addPipe_136 : decode cX6_addPipe 136 = .ok (.getfield 13, 3) := by decide +kernel
theorem dX6_addPipe_139 : decode cX6_addPipe 139 = .ok (.iconst 2, 1) := by decide +kernel
theorem dX6_addPipe_140 : decode cX6_addPipe 140 = .ok (.aload_n 0, 1) := by decide +kernel
theorem dX6_addPipe_141 : decode cX6_addPipe 141 = .ok (.getfield 48, 3) := by decide +kernel
theorem dX6_addPipe_144 : decode cX6_addPipe 144 = .ok (.imul, 1) := by decide +kernel
theorem dX6_addPipe_145 : decode cX6_addPipe 145 = .ok (.iconst 1, 1) := by decide +kernel
theorem dX6_addPipe_146 : decode cX6_addPipe 146 = .ok (.iadd, 1) := by decide +kernel
theorem dX6_addPipe_147 : decode cX6_addPipe 147 = .ok (.iconst (-1), 1) := by decide +kernel
theorem dX6_addPipe_148 : decode cX6_addPipe 148 = .ok (.iastore, 1) := by decide +kernel
theorem dX6_addPipe_149 : decode cX6_addPipe 149 = .ok (.aload_n 0, 1) := by decide +kernel
theorem dX6_addPipe_150 : decode cX6_addPipe 150 = .ok (.getfield 16, 3) := by decide +kernel
theorem dX6_addPipe_153 : decode cX6_addPipe 153 = .ok (.aload_n 0, 1) := by decide +kernel
theorem dX6_addPipe_154 : decode cX6_addPipe 154 = .ok (.getfield 48, 3) := by decide +kernel
theorem dX6_addPipe_157 : decode cX6_addPipe 157 = .ok (.iload_n 3, 1) := by decide +kernel
theorem dX6_addPipe_158 : decode cX6_addPipe 158 = .ok (.iastore, 1) := by decide +kernel
theorem dX6_addPipe_159 : decode cX6_addPipe 159 = .ok (.aload_n 0, 1) := by decide +kernel
theorem dX6_addPipe_160 : decode cX6_addPipe 160 = .ok (.getfield 19, 3) := by decide +kernel
theorem dX6_addPipe_163 : decode cX6_addPipe 163 = .ok (.aload_n 0, 1) := by decide +kernel
theorem dX6_addPipe_164 : decode cX6_addPipe 164 = .ok (.getfield 48, 3) := by decide +kernel
theorem dX6_addPipe_167 : decode cX6_addPipe 167 = .ok (.iload 4, 2) := by decide +kernel
theorem dX6_addPipe_169 : decode cX6_addPipe 169 = .ok (.iastore, 1) := by decide +kernel
theorem dX6_addPipe_170 : decode cX6_addPipe 170 = .ok (.aload_n 0, 1) := by decide +kernel
theorem dX6_addPipe_171 : decode cX6_addPipe 171 = .ok (.dup, 1) := by decide +kernel
theorem dX6_addPipe_172 : decode cX6_addPipe 172 = .ok (.getfield 48, 3) := by decide +kernel
theorem dX6_addPipe_175 : decode cX6_addPipe 175 = .ok (.iconst 1, 1) := by decide +kernel
theorem dX6_addPipe_176 : decode cX6_addPipe 176 = .ok (.iadd, 1) := by decide +kernel
theorem dX6_addPipe_177 : decode cX6_addPipe 177 = .ok (.putfield 48, 3) := by decide +kernel
theorem dX6_addPipe_180 : decode cX6_addPipe 180 = .ok (.aload_n 0, 1) := by decide +kernel
theorem dX6_addPipe_181 : decode cX6_addPipe 181 = .ok (.getfield 48, 3) := by decide +kernel
theorem dX6_addPipe_184 : decode cX6_addPipe 184 = .ok (.iconst 1, 1) := by decide +kernel
theorem dX6_addPipe_185 : decode cX6_addPipe 185 = .ok (.isub, 1) := by decide +kernel
theorem dX6_addPipe_186 : decode cX6_addPipe 186 = .ok (.ireturn, 1) := by decide +kernel
set_option maxRecDepth 20000 in
theorem ggX6_addValve_X6_in : GoodIn wsX6_addValve wsX6_in := goodIn_r _ [7] (by decide +kernel) (by decide +kernel)
set_option maxRecDepth 20000 in
theorem gX6_addValve_X6_in : GoodIn wsX6_addValve (va_wsS RX6 44 yX6_in wsX6_in) := goodIn_app (goodIn_of _ (by decide +kernel)) ggX6_addValve_X6_in
set_option maxRecDepth 20000 in
theorem ggX6_addValve_X6_isPipe : GoodIn wsX6_addValve wsX6_isPipe := goodIn_r _ [11, 12, 4, 5, 6, 7, 18, 19, 20, 21, 22, 23, 24, 25, 26, 27, 28, 29, 30, 31, 32, 33, 34] (by decide +kernel) (by decide +kernel)
set_option maxRecDepth 20000 in
theorem gX6_addValve_X6_isPipe : GoodIn wsX6_addValve (wsV RX6 64 RX6 yX6_isPipe wsX6_isPipe) := goodIn_app (goodIn_of _ (by decide +kernel)) ggX6_addValve_X6_isPipe
set_option maxRecDepth 20000 in
theorem ggX6_addValve_X6_refused : GoodIn wsX6_addValve wsX6_refused := goodIn_r _ [16, 17, 18, 19, 20, 21, 22, 23, 24, 25, 26, 27, 28, 29, 30, 31, 32, 33, 34] (by decide +kernel) (by decide +kernel)
set_option maxRecDepth 20000 in
theorem gX6_addValve_X6_refused : GoodIn wsX6_addValve (wsV RX6 54 RX6 yX6_refused wsX6_refused) := goodIn_app (goodIn_of _ (by decide +kernel)) ggX6_addValve_X6_refused
theorem dX6_addValve_0 : decode cX6_addValve 0 = .ok (.iload_n 2, 1) := by decide +kernel
theorem dX6_addValve_1 : decode cX6_addValve 1 = .ok (.iconst 0, 1) := by decide +kernel
theorem dX6_addValve_2 : decode cX6_addValve 2 = .ok (.iconst 1, 1) := by decide +kernel
theorem dX6_addValve_3 : decode cX6_addValve 3 = .ok (.invokestatic 44, 3) := by decide +kernel
theorem dX6_addValve_6 : decode cX6_addValve 6 = .ok (.istore_n 3, 1) := by decide +kernel
theorem dX6_addValve_7 : decode cX6_addValve 7 = .ok (.aload_n 0, 1) := by decide +kernel
theorem dX6_addValve_8 : decode cX6_addValve 8 = .ok (.iload_n 1, 1) := by decide +kernel
theorem dX6_addValve_9 : decode cX6_addValve 9 = .ok (.invokevirtual 64, 3) := by decide +kernel
theorem dX6_addValve_12 : decode cX6_addValve 12 = .ok (.ifCond .eq 34, 3) := by decide +kernel
theorem dX6_addValve_15 : decode cX6_addValve 15 = .ok (.iload_n 3, 1) := by decide +kernel
theorem dX6_addValve_16 : decode cX6_addValve 16 = .ok (.ifCond .eq 30, 3) := by decide +kernel
theorem dX6_addValve_19 : decode cX6_addValve 19 = .ok (.aload_n 0, 1) := by decide +kernel
theorem dX6_addValve_20 : decode cX6_addValve 20 = .ok (.getfield 13, 3) := by decide +kernel
theorem dX6_addValve_23 : decode cX6_addValve 23 = .ok (.iconst 2, 1) := by decide +kernel
theorem dX6_addValve_24 : decode cX6_addValve 24 = .ok (.iload_n 1, 1) := by decide +kernel
theorem dX6_addValve_25 : decode cX6_addValve 25 = .ok (.imul, 1) := by decide +kernel
theorem dX6_addValve_26 : decode cX6_addValve 26 = .ok (.iload_n 2, 1) := by decide +kernel
theorem dX6_addValve_27 : decode cX6_addValve 27 = .ok (.iadd, 1) := by decide +kernel
theorem dX6_addValve_28 : decode cX6_addValve 28 = .ok (.iaload, 1) := by decide +kernel
theorem dX6_addValve_29 : decode cX6_addValve 29 = .ok (.iconst (-1), 1) := by decide +kernel
theorem dX6_addValve_30 : decode cX6_addValve 30 = .ok (.if_icmp .ne 16, 3) := by decide +kernel
theorem dX6_addValve_33 : decode cX6_addValve 33 = .ok (.aload_n 0, 1) := by decide +kernel
theorem dX6_addValve_34 : decode cX6_addValve 34 = .ok (.getfield 51, 3) := by decide +kernel
theorem dX6_addValve_37 : decode cX6_addValve 37 = .ok (.bipush 12, 2) := by decide +kernel
theorem dX6_addValve_39 : decode cX6_addValve 39 = .ok (.if_icmp .ge 7, 3) := by decide +kernel
theorem dX6_addValve_42 : decode cX6_addValve 42 = .ok (.iconst 1, 1) := by decide +kernel
theorem dX6_addValve_43 : decode cX6_addValve 43 = .ok (.goto 4, 3) := by decide +kernel
theorem dX6_addValve_46 : decode cX6_addValve 46 = .ok (.iconst 0, 1) := by decide +kernel
theorem dX6_addValve_47 : decode cX6_addValve 47 = .ok (.istore 4, 2) := by decide +kernel
theorem dX6_addValve_49 : decode cX6_addValve 49 = .ok (.aload_n 0, 1) := by decide +kernel
theorem dX6_addValve_50 : decode cX6_addValve 50 = .ok (.aload_n 0, 1) := by decide +kernel
theorem dX6_addValve_51 : decode cX6_addValve 51 = .ok (.iload_n 1, 1) := by decide +kernel
theorem dX6_addValve_52 : decode cX6_addValve 52 = .ok (.invokevirtual 64, 3) := by decide +kernel
theorem dX6_addValve_55 : decode cX6_addValve 55 = .ok (.ifCond .ne 7, 3) := by decide +kernel
theorem dX6_addValve_58 : decode cX6_addValve 58 = .ok (.iconst 1, 1) := by decide +kernel
theorem dX6_addValve_59 : decode cX6_addValve 59 = .ok (.goto 21, 3) := by decide +kernel
theorem dX6_addValve_62 : decode cX6_addValve 62 = .ok (.iload_n 3, 1) := by decide +kernel
theorem dX6_addValve_63 : decode cX6_addValve 63 = .ok (.ifCond .ne 7, 3) := by decide +kernel
theorem dX6_addValve_66 : decode cX6_addValve 66 = .ok (.iconst 2, 1) := by decide +kernel
theorem dX6_addValve_67 : decode cX6_addValve 67 = .ok (.goto 13, 3) := by decide +kernel
theorem dX6_addValve_70 : decode cX6_addValve 70 = .ok (.iload 4, 2) := by decide +kernel
theorem dX6_addValve_72 : decode cX6_addValve 72 = .ok (.ifCond .eq 7, 3) := by decide +kernel
theorem dX6_addValve_75 : decode cX6_addValve 75 = .ok (.iconst 0, 1) := by decide +kernel
theorem dX6_addValve_76 : decode cX6_addValve 76 = .ok (.goto 4, 3) := by decide +kernel
theorem dX6_addValve_79 : decode cX6_addValve 79 = .ok (.iconst 3, 1) := by decide +kernel
theorem dX6_addValve_80 : decode cX6_addValve 80 = .ok (.invokevirtual 54, 3) := by decide +kernel
theorem dX6_addValve_83 : decode cX6_addValve 83 = .ok (.ifCond .eq 5, 3) := by decide +kernel
theorem dX6_addValve_86 : decode cX6_addValve 86 = .ok (.iconst 0, 1) := by decide +kernel
theorem dX6_addValve_87 : decode cX6_addValve 87 = .ok (.ireturn, 1) := by decide +kernel
theorem dX6_addValve_88 : decode cX6_addValve 88 = .ok (.aload_n 0, 1) := by decide +kernel
theorem dX6_addValve_89 : decode cX6_addValve 89 = .ok (.getfield 13, 3) := by decide +kernel
theorem dX6_addValve_92 : decode cX6_addValve 92 = .ok (.iconst 2, 1) := by decide +kernel
theorem dX6_addValve_93 : decode cX6_addValve 93 = .ok (.iload_n 1, 1) := by decide +kernel
theorem dX6_addValve_94 : decode cX6_addValve 94 = .ok (.imul, 1) := by decide +kernel
theorem dX6_addValve_95 : decode cX6_addValve 95 = .ok (.iload_n 2, 1) := by decide +kernel
theorem dX6_addValve_96 : decode cX6_addValve 96 = .ok (.iadd, 1) := by decide +kernel
theorem dX6_addValve_97 : decode cX6_addValve 97 = .ok (.aload_n 0, 1) := by decide +kernel
theorem dX6_addValve_98 : decode cX6_addValve 98 = .ok (.getfield 51, 3) := by decide +kernel
theorem dX6_addValve_101 : decode cX6_addValve 101 = .ok (.iastore, 1) := by decide +kernel
theorem dX6_addValve_102 : decode cX6_addValve 102 = .ok (.aload_n 0, 1) := by decide +kernel
theorem dX6_addValve_103 : decode cX6_addValve 103 = .ok (.getfield 22, 3) := by decide +kernel
theorem dX6_addValve_106 : decode cX6_addValve 106 = .ok (.aload_n 0, 1) := by decide +kernel
theorem dX6_addValve_107 : decode cX6_addValve 107 = .ok (.getfield 51, 3) := by decide +kernel
theorem dX6_addValve_110 : decode cX6_addValve 110 = .ok (.iconst 2, 1) := by decide +kernel
theorem dX6_addValve_111 : decode cX6_addValve 111 = .ok (.iload_n 1, 1) := by decide +kernel
theorem dX6_addValve_112 : decode cX6_addValve 112 = .ok (.imul, 1) := by decide +kernel
theorem dX6_addValve_113 : decode cX6_addValve 113 = .ok (.iload_n 2, 1) := by decide +kernel
theorem dX6_addValve_114 : decode cX6_addValve 114 = .ok (.iadd, 1) := by decide +kernel
theorem dX6_addValve_115 : decode cX6_addValve 115 = .ok (.iastore, 1) := by decide +kernel
theorem dX6_addValve_116 : decode cX6_addValve 116 = .ok (.aload_n 0, 1) := by decide +kernel
theorem dX6_addValve_117 : decode cX6_addValve 117 = .ok (.dup, 1) := by decide +kernel
theorem dX6_addValve_118 : decode cX6_addValve 118 = .ok (.getfield 51, 3) := by decide +kernel
theorem dX6_addValve_121 : decode cX6_addValve 121 = .ok (.iconst 1, 1) := by decide +kernel
theorem dX6_addValve_122 : decode cX6_addValve 122 = .ok (.iadd, 1) := by decide +kernel
theorem dX6_addValve_123 : decode cX6_addValve 123 = .ok (.putfield 51, 3) := by decide +kernel
theorem dX6_addValve_126 : decode cX6_addValve 126 = .ok (.aload_n 0, 1) := by decide +kernel
theorem dX6_addValve_127 : decode cX6_addValve 127 = .ok (.getfield 51, 3) := by decide +kernel
theorem dX6_addValve_130 : decode cX6_addValve 130 = .ok (.iconst 1, 1) := by decide +kernel
theorem dX6_addValve_131 : decode cX6_addValve 131 = .ok (.isub, 1) := by decide +kernel
theorem dX6_addValve_132 : decode cX6_addValve 132 = .ok (.ireturn, 1) := by decide +kernel
set_option maxRecDepth 20000 in
theorem ggX6_setSource_X6_isNode : GoodIn wsX6_setSource wsX6_isNode := goodIn_r _ [6, 7, 8, 9, 5, 10, 16, 17, 18, 19, 20, 21, 22, 23, 24, 25, 26, 27, 28, 29, 30, 31, 32] (by decide +kernel) (by decide +kernel)
set_option maxRecDepth 20000 in
theorem gX6_setSource_X6_isNode : GoodIn wsX6_setSource (wsV RX6 61 RX6 yX6_isNode wsX6_isNode) := goodIn_app (goodIn_of _ (by decide +kernel)) ggX6_setSource_X6_isNode
set_option maxRecDepth 20000 in
theorem ggX6_setSource_X6_refused : GoodIn wsX6_setSource wsX6_refused := goodIn_r _ [14, 15, 16, 17, 18, 19, 20, 21, 22, 23, 24, 25, 26, 27, 28, 29, 30, 31, 32] (by decide +kernel) (by decide +kernel)
set_option maxRecDepth 20000 in
theorem gX6_setSource_X6_refused : GoodIn wsX6_setSource (wsV RX6 54 RX6 yX6_refused wsX6_refused) := goodIn_app (goodIn_of _ (by decide +kernel)) ggX6_setSource_X6_refused
theorem dX6_setSource_0 : decode cX6_setSource 0 = .ok (.aload_n 0, 1) := by decide +kernel
theorem dX6_setSource_1 : decode cX6_setSource 1 = .ok (.aload_n 0, 1) := by decide +kernel
theorem dX6_setSource_2 : decode cX6_setSource 2 = .ok (.iload_n 1, 1) := by decide +kernel
theorem dX6_setSource_3 : decode cX6_setSource 3 = .ok (.invokevirtual 61, 3) := by decide +kernel
theorem dX6_setSource_6 : decode cX6_setSource 6 = .ok (.ifCond .eq 7, 3) := by decide +kernel
theorem dX6_setSource_9 : decode cX6_setSource 9 = .ok (.iconst 0, 1) := by decide +kernel
theorem dX6_setSource_10 : decode cX6_setSource 10 = .ok (.goto 4, 3) := by decide +kernel
theorem dX6_setSource_13 : decode cX6_setSource 13 = .ok (.iconst 1, 1) := by decide +kernel
theorem dX6_setSource_14 : decode cX6_setSource 14 = .ok (.invokevirtual 54, 3) := by decide +kernel
theorem dX6_setSource_17 : decode cX6_setSource 17 = .ok (.ifCond .eq 5, 3) := by decide +kernel
theorem dX6_setSource_20 : decode cX6_setSource 20 = .ok (.iconst 0, 1) := by decide +kernel
theorem dX6_setSource_21 : decode cX6_setSource 21 = .ok (.ireturn, 1) := by decide +kernel
theorem dX6_setSource_22 : decode cX6_setSource 22 = .ok (.aload_n 0, 1) := by decide +kernel
theorem dX6_setSource_23 : decode cX6_setSource 23 = .ok (.getfield 58, 3) := by decide +kernel
theorem dX6_setSource_26 : decode cX6_setSource 26 = .ok (.iload_n 1, 1) := by decide +kernel
theorem dX6_setSource_27 : decode cX6_setSource 27 = .ok (.ishr, 1) := by decide +kernel
theorem dX6_setSource_28 : decode cX6_setSource 28 = .ok (.iconst 1, 1) := by decide +kernel
theorem dX6_setSource_29 : decode cX6_setSource 29 = .ok (.iand, 1) := by decide +kernel
theorem dX6_setSource_30 : decode cX6_setSource 30 = .ok (.iconst 1, 1) := by decide +kernel
theorem dX6_setSource_31 : decode cX6_setSource 31 = .ok (.if_icmp .ne 7, 3) := by decide +kernel
theorem dX6_setSource_34 : decode cX6_setSource 34 = .ok (.iconst 1, 1) := by decide +kernel
theorem dX6_setSource_35 : decode cX6_setSource 35 = .ok (.goto 4, 3) := by decide +kernel
theorem dX6_setSource_38 : decode cX6_setSource 38 = .ok (.iconst 0, 1) := by decide +kernel
theorem dX6_setSource_39 : decode cX6_setSource 39 = .ok (.istore_n 3, 1) := by decide +kernel
theorem dX6_setSource_40 : decode cX6_setSource 40 = .ok (.aload_n 0, 1) := by decide +kernel
theorem dX6_setSource_41 : decode cX6_setSource 41 = .ok (.iload_n 2, 1) := by decide +kernel
theorem dX6_setSource_42 : decode cX6_setSource 42 = .ok (.ifCond .eq 14, 3) := by decide +kernel
theorem dX6_setSource_45 : decode cX6_setSource 45 = .ok (.aload_n 0, 1) := by decide +kernel
theorem dX6_setSource_46 : decode cX6_setSource 46 = .ok (.getfield 58, 3) := by decide +kernel
theorem dX6_setSource_49 : decode cX6_setSource 49 = .ok (.iconst 1, 1) := by decide +kernel
theorem dX6_setSource_50 : decode cX6_setSource 50 = .ok (.iload_n 1, 1) := by decide +kernel
theorem dX6_setSource_51 : decode cX6_setSource 51 = .ok (.ishl, 1) := by decide +kernel
theorem dX6_setSource_52 : decode cX6_setSource 52 = .ok (.ior, 1) := by decide +kernel
theorem dX6_setSource_53 : decode cX6_setSource 53 = .ok (.goto 13, 3) := by decide +kernel
theorem dX6_setSource_56 : decode cX6_setSource 56 = .ok (.aload_n 0, 1) := by decide +kernel
theorem dX6_setSource_57 : decode cX6_setSource 57 = .ok (.getfield 58, 3) := by decide +kernel
theorem dX6_setSource_60 : decode cX6_setSource 60 = .ok (.iconst 1, 1) := by decide +kernel
theorem dX6_setSource_61 : decode cX6_setSource 61 = .ok (.iload_n 1, 1) := by decide +kernel
theorem dX6_setSource_62 : decode cX6_setSource 62 = .ok (.ishl, 1) := by decide +kernel
theorem dX6_setSource_63 : decode cX6_setSource 63 = .ok (.iconst (-1), 1) := by decide +kernel
theorem dX6_setSource_64 : decode cX6_setSource 64 = .ok (.ixor, 1) := by decide +kernel
theorem dX6_setSource_65 : decode cX6_setSource 65 = .ok (.iand, 1) := by decide +kernel
theorem dX6_setSource_66 : decode cX6_setSource 66 = .ok (.putfield 58, 3) := by decide +kernel
theorem dX6_setSource_69 : decode cX6_setSource 69 = .ok (.iload_n 3, 1) := by decide +kernel
theorem dX6_setSource_70 : decode cX6_setSource 70 = .ok (.ireturn, 1) := by decide +kernel
set_option maxRecDepth 20000 in
theorem ggX6_setStuck_X6_isValve : GoodIn wsX6_setStuck wsX6_isValve := goodIn_r _ [6, 7, 8, 9, 5, 10, 16, 17, 18, 19, 20, 21, 22, 23, 24, 25, 26, 27, 28, 29, 30, 31, 32] (by decide +kernel) (by decide +kernel)
set_option maxRecDepth 20000 in
theorem gX6_setStuck_X6_isValve : GoodIn wsX6_setStuck (wsV RX6 67 RX6 yX6_isValve wsX6_isValve) := goodIn_app (goodIn_of _ (by decide +kernel)) ggX6_setStuck_X6_isValve
set_option maxRecDepth 20000 in
theorem ggX6_setStuck_X6_refused : GoodIn wsX6_setStuck wsX6_refused := goodIn_r _ [14, 15, 16, 17, 18, 19, 20, 21, 22, 23, 24, 25, 26, 27, 28, 29, 30, 31, 32] (by decide +kernel) (by decide +kernel)
set_option maxRecDepth 20000 in
theorem gX6_setStuck_X6_refused : GoodIn wsX6_setStuck (wsV RX6 54 RX6 yX6_refused wsX6_refused) := goodIn_app (goodIn_of _ (by decide +kernel)) ggX6_setStuck_X6_refused
theorem dX6_setStuck_0 : decode cX6_setStuck 0 = .ok (.aload_n 0, 1) := by decide +kernel
theorem dX6_setStuck_1 : decode cX6_setStuck 1 = .ok (.aload_n 0, 1) := by decide +kernel
theorem dX6_setStuck_2 : decode cX6_setStuck 2 = .ok (.iload_n 1, 1) := by decide +kernel
theorem dX6_setStuck_3 : decode cX6_setStuck 3 = .ok (.invokevirtual 67, 3) := by decide +kernel
theorem dX6_setStuck_6 : decode cX6_setStuck 6 = .ok (.ifCond .eq 7, 3) := by decide +kernel
theorem dX6_setStuck_9 : decode cX6_setStuck 9 = .ok (.iconst 0, 1) := by decide +kernel
theorem dX6_setStuck_10 : decode cX6_setStuck 10 = .ok (.goto 4, 3) := by decide +kernel
theorem dX6_setStuck_13 : decode cX6_setStuck 13 = .ok (.iconst 1, 1) := by decide +kernel
theorem dX6_setStuck_14 : decode cX6_setStuck 14 = .ok (.invokevirtual 54, 3) := by decide +kernel
theorem dX6_setStuck_17 : decode cX6_setStuck 17 = .ok (.ifCond .eq 5, 3) := by decide +kernel
theorem dX6_setStuck_20 : decode cX6_setStuck 20 = .ok (.iconst 0, 1) := by decide +kernel
theorem dX6_setStuck_21 : decode cX6_setStuck 21 = .ok (.ireturn, 1) := by decide +kernel
theorem dX6_setStuck_22 : decode cX6_setStuck 22 = .ok (.aload_n 0, 1) := by decide +kernel
theorem dX6_setStuck_23 : decode cX6_setStuck 23 = .ok (.getfield 70, 3) := by decide +kernel
theorem dX6_setStuck_26 : decode cX6_setStuck 26 = .ok (.iload_n 1, 1) := by decide +kernel
theorem dX6_setStuck_27 : decode cX6_setStuck 27 = .ok (.ishr, 1) := by decide +kernel
theorem dX6_setStuck_28 : decode cX6_setStuck 28 = .ok (.iconst 1, 1) := by decide +kernel
theorem dX6_setStuck_29 : decode cX6_setStuck 29 = .ok (.iand, 1) := by decide +kernel
theorem dX6_setStuck_30 : decode cX6_setStuck 30 = .ok (.iconst 1, 1) := by decide +kernel
theorem dX6_setStuck_31 : decode cX6_setStuck 31 = .ok (.if_icmp .ne 7, 3) := by decide +kernel
theorem dX6_setStuck_34 : decode cX6_setStuck 34 = .ok (.iconst 1, 1) := by decide +kernel
theorem dX6_setStuck_35 : decode cX6_setStuck 35 = .ok (.goto 4, 3) := by decide +kernel
theorem dX6_setStuck_38 : decode cX6_setStuck 38 = .ok (.iconst 0, 1) := by decide +kernel
theorem dX6_setStuck_39 : decode cX6_setStuck 39 = .ok (.istore_n 3, 1) := by decide +kernel
theorem dX6_setStuck_40 : decode cX6_setStuck 40 = .ok (.aload_n 0, 1) := by decide +kernel
theorem dX6_setStuck_41 : decode cX6_setStuck 41 = .ok (.iload_n 2, 1) := by decide +kernel
theorem dX6_setStuck_42 : decode cX6_setStuck 42 = .ok (.ifCond .eq 14, 3) := by decide +kernel
theorem dX6_setStuck_45 : decode cX6_setStuck 45 = .ok (.aload_n 0, 1) := by decide +kernel
theorem dX6_setStuck_46 : decode cX6_setStuck 46 = .ok (.getfield 70, 3) := by decide +kernel
theorem dX6_setStuck_49 : decode cX6_setStuck 49 = .ok (.iconst 1, 1) := by decide +kernel
theorem dX6_setStuck_50 : decode cX6_setStuck 50 = .ok (.iload_n 1, 1) := by decide +kernel
theorem dX6_setStuck_51 : decode cX6_setStuck 51 = .ok (.ishl, 1) := by decide +kernel
theorem dX6_setStuck_52 : decode cX6_setStuck 52 = .ok (.ior, 1) := by decide +kernel
theorem dX6_setStuck_53 : decode cX6_setStuck 53 = .ok (.goto 13, 3) := by decide +kernel
theorem dX6_setStuck_56 : decode cX6_setStuck 56 = .ok (.aload_n 0, 1) := by decide +kernel
theorem dX6_setStuck_57 : decode cX6_setStuck 57 = .ok (.getfield 70, 3) := by decide +kernel
theorem dX6_setStuck_60 : decode cX6_setStuck 60 = .ok (.iconst 1, 1) := by decide +kernel
theorem dX6_setStuck_61 : decode cX6_setStuck 61 = .ok (.iload_n 1, 1) := by decide +kernel
theorem dX6_setStuck_62 : decode cX6_setStuck 62 = .ok (.ishl, 1) := by decide +kernel
theorem dX6_setStuck_63 : decode cX6_setStuck 63 = .ok (.iconst (-1), 1) := by decide +kernel
theorem dX6_setStuck_64 : decode cX6_setStuck 64 = .ok (.ixor, 1) := by decide +kernel
theorem dX6_setStuck_65 : decode cX6_setStuck 65 = .ok (.iand, 1) := by decide +kernel
theorem dX6_setStuck_66 : decode cX6_setStuck 66 = .ok (.putfield 70, 3) := by decide +kernel
theorem dX6_setStuck_69 : decode cX6_setStuck 69 = .ok (.iload_n 3, 1) := by decide +kernel
theorem dX6_setStuck_70 : decode cX6_setStuck 70 = .ok (.ireturn, 1) := by decide +kernel
set_option maxRecDepth 20000 in
theorem ggX6_turn_X6_isValve : GoodIn wsX6_turn wsX6_isValve := goodIn_r _ [7, 8, 9, 10, 6, 11, 17, 18, 19, 20, 21, 22, 23, 24, 25, 26, 27, 28, 29, 30, 31, 32, 33] (by decide +kernel) (by decide +kernel)
set_option maxRecDepth 20000 in
theorem gX6_turn_X6_isValve : GoodIn wsX6_turn (wsV RX6 67 RX6 yX6_isValve wsX6_isValve) := goodIn_app (goodIn_of _ (by decide +kernel)) ggX6_turn_X6_isValve
set_option maxRecDepth 20000 in
theorem ggX6_turn_X6_refused : GoodIn wsX6_turn wsX6_refused := goodIn_r _ [15, 16, 17, 18, 19, 20, 21, 22, 23, 24, 25, 26, 27, 28, 29, 30, 31, 32, 33] (by decide +kernel) (by decide +kernel)
set_option maxRecDepth 20000 in
theorem gX6_turn_X6_refused : GoodIn wsX6_turn (wsV RX6 54 RX6 yX6_refused wsX6_refused) := goodIn_app (goodIn_of _ (by decide +kernel)) ggX6_turn_X6_refused
theorem dX6_turn_0 : decode cX6_turn 0 = .ok (.aload_n 0, 1) := by decide +kernel
theorem dX6_turn_1 : decode cX6_turn 1 = .ok (.aload_n 0, 1) := by decide +kernel
theorem dX6_turn_2 : decode cX6_turn 2 = .ok (.iload_n 1, 1) := by decide +kernel
theorem dX6_turn_3 : decode cX6_turn 3 = .ok (.invokevirtual 67, 3) := by decide +kernel
theorem dX6_turn_6 : decode cX6_turn 6 = .ok (.ifCond .ne 7, 3) := by decide +kernel
theorem dX6_turn_9 : decode cX6_turn 9 = .ok (.iconst 1, 1) := by decide +kernel
theorem dX6_turn_10 : decode cX6_turn 10 = .ok (.goto 20, 3) := by decide +kernel
theorem dX6_turn_13 : decode cX6_turn 13 = .ok (.aload_n 0, 1) := by decide +kernel
theorem dX6_turn_14 : decode cX6_turn 14 = .ok (.getfield 70, 3) := by decide +kernel
theorem dX6_turn_17 : decode cX6_turn 17 = .ok (.iload_n 1, 1) := by decide +kernel
theorem dX6_turn_18 : decode cX6_turn 18 = .ok (.ishr, 1) := by decide +kernel
theorem dX6_turn_19 : decode cX6_turn 19 = .ok (.iconst 1, 1) := by decide +kernel
theorem dX6_turn_20 : decode cX6_turn 20 = .ok (.iand, 1) := by decide +kernel
theorem dX6_turn_21 : decode cX6_turn 21 = .ok (.iconst 1, 1) := by decide +kernel
theorem dX6_turn_22 : decode cX6_turn 22 = .ok (.if_icmp .ne 7, 3) := by decide +kernel
theorem dX6_turn_25 : decode cX6_turn 25 = .ok (.iconst 2, 1) := by decide +kernel
theorem dX6_turn_26 : decode cX6_turn 26 = .ok (.goto 4, 3) := by decide +kernel
theorem dX6_turn_29 : decode cX6_turn 29 = .ok (.iconst 0, 1) := by decide +kernel
theorem dX6_turn_30 : decode cX6_turn 30 = .ok (.invokevirtual 54, 3) := by decide +kernel
theorem dX6_turn_33 : decode cX6_turn 33 = .ok (.ifCond .eq 5, 3) := by decide +kernel
theorem dX6_turn_36 : decode cX6_turn 36 = .ok (.iconst 0, 1) := by decide +kernel
theorem dX6_turn_37 : decode cX6_turn 37 = .ok (.ireturn, 1) := by decide +kernel
theorem dX6_turn_38 : decode cX6_turn 38 = .ok (.aload_n 0, 1) := by decide +kernel
theorem dX6_turn_39 : decode cX6_turn 39 = .ok (.getfield 73, 3) := by decide +kernel
theorem dX6_turn_42 : decode cX6_turn 42 = .ok (.iload_n 1, 1) := by decide +kernel
theorem dX6_turn_43 : decode cX6_turn 43 = .ok (.ishr, 1) := by decide +kernel
theorem dX6_turn_44 : decode cX6_turn 44 = .ok (.iconst 1, 1) := by decide +kernel
theorem dX6_turn_45 : decode cX6_turn 45 = .ok (.iand, 1) := by decide +kernel
theorem dX6_turn_46 : decode cX6_turn 46 = .ok (.iconst 1, 1) := by decide +kernel
theorem dX6_turn_47 : decode cX6_turn 47 = .ok (.if_icmp .ne 7, 3) := by decide +kernel
theorem dX6_turn_50 : decode cX6_turn 50 = .ok (.iconst 1, 1) := by decide +kernel
theorem dX6_turn_51 : decode cX6_turn 51 = .ok (.goto 4, 3) := by decide +kernel
theorem dX6_turn_54 : decode cX6_turn 54 = .ok (.iconst 0, 1) := by decide +kernel
theorem dX6_turn_55 : decode cX6_turn 55 = .ok (.istore_n 3, 1) := by decide +kernel
theorem dX6_turn_56 : decode cX6_turn 56 = .ok (.aload_n 0, 1) := by decide +kernel
theorem dX6_turn_57 : decode cX6_turn 57 = .ok (.iload_n 2, 1) := by decide +kernel
theorem dX6_turn_58 : decode cX6_turn 58 = .ok (.ifCond .eq 14, 3) := by decide +kernel
theorem dX6_turn_61 : decode cX6_turn 61 = .ok (.aload_n 0, 1) := by decide +kernel
theorem dX6_turn_62 : decode cX6_turn 62 = .ok (.getfield 73, 3) := by decide +kernel
theorem dX6_turn_65 : decode cX6_turn 65 = .ok (.iconst 1, 1) := by decide +kernel
theorem dX6_turn_66 : decode cX6_turn 66 = .ok (.iload_n 1, 1) := by decide +kernel
theorem dX6_turn_67 : decode cX6_turn 67 = .ok (.ishl, 1) := by decide +kernel
theorem dX6_turn_68 : decode cX6_turn 68 = .ok (.ior, 1) := by decide +kernel
theorem dX6_turn_69 : decode cX6_turn 69 = .ok (.goto 13, 3) := by decide +kernel
theorem dX6_turn_72 : decode cX6_turn 72 = .ok (.aload_n 0, 1) := by decide +kernel
theorem dX6_turn_73 : decode cX6_turn 73 = .ok (.getfield 73, 3) := by decide +kernel
theorem dX6_turn_76 : decode cX6_turn 76 = .ok (.iconst 1, 1) := by decide +kernel
theorem dX6_turn_77 : decode cX6_turn 77 = .ok (.iload_n 1, 1) := by decide +kernel
theorem dX6_turn_78 : decode cX6_turn 78 = .ok (.ishl, 1) := by decide +kernel
theorem dX6_turn_79 : decode cX6_turn 79 = .ok (.iconst (-1), 1) := by decide +kernel
theorem dX6_turn_80 : decode cX6_turn 80 = .ok (.ixor, 1) := by decide +kernel
theorem dX6_turn_81 : decode cX6_turn 81 = .ok (.iand, 1) := by decide +kernel
theorem dX6_turn_82 : decode cX6_turn 82 = .ok (.putfield 73, 3) := by decide +kernel
theorem dX6_turn_85 : decode cX6_turn 85 = .ok (.iload_n 3, 1) := by decide +kernel
theorem dX6_turn_86 : decode cX6_turn 86 = .ok (.ireturn, 1) := by decide +kernel
set_option maxRecDepth 20000 in
theorem ggX6_nodes_X6_fine : GoodIn wsX6_nodes wsX6_fine := goodIn_r _ [6, 7, 8, 9, 10, 11, 12, 13, 14, 15, 16, 17, 18, 19, 20, 21, 22, 23, 24] (by decide +kernel) (by decide +kernel)
set_option maxRecDepth 20000 in
theorem gX6_nodes_X6_fine : GoodIn wsX6_nodes (wsV RX6 76 RX6 yX6_fine wsX6_fine) := goodIn_app (goodIn_of _ (by decide +kernel)) ggX6_nodes_X6_fine
theorem dX6_nodes_0 : decode cX6_nodes 0 = .ok (.aload_n 0, 1) := by decide +kernel
theorem dX6_nodes_1 : decode cX6_nodes 1 = .ok (.aload_n 0, 1) := by decide +kernel
theorem dX6_nodes_2 : decode cX6_nodes 2 = .ok (.getfield 41, 3) := by decide +kernel
theorem dX6_nodes_5 : decode cX6_nodes 5 = .ok (.invokevirtual 76, 3) := by decide +kernel
theorem dX6_nodes_8 : decode cX6_nodes 8 = .ok (.ireturn, 1) := by decide +kernel
set_option maxRecDepth 20000 in
theorem ggX6_pipes_X6_fine : GoodIn wsX6_pipes wsX6_fine := goodIn_r _ [6, 7, 8, 9, 10, 11, 12, 13, 14, 15, 16, 17, 18, 19, 20, 21, 22, 23, 24] (by decide +kernel) (by decide +kernel)
set_option maxRecDepth 20000 in
theorem gX6_pipes_X6_fine : GoodIn wsX6_pipes (wsV RX6 76 RX6 yX6_fine wsX6_fine) := goodIn_app (goodIn_of _ (by decide +kernel)) ggX6_pipes_X6_fine
theorem dX6_pipes_0 : decode cX6_pipes 0 = .ok (.aload_n 0, 1) := by decide +kernel
theorem dX6_pipes_1 : decode cX6_pipes 1 = .ok (.aload_n 0, 1) := by decide +kernel
theorem dX6_pipes_2 : decode cX6_pipes 2 = .ok (.getfield 48, 3) := by decide +kernel
theorem dX6_pipes_5 : decode cX6_pipes 5 = .ok (.invokevirtual 76, 3) := by decide +kernel
theorem dX6_pipes_8 : decode cX6_pipes 8 = .ok (.ireturn, 1) := by decide +kernel
set_option maxRecDepth 20000 in
theorem ggX6_valves_X6_fine : GoodIn wsX6_valves wsX6_fine := goodIn_r _ [6, 7, 8, 9, 10, 11, 12, 13, 14, 15, 16, 17, 18, 19, 20, 21, 22, 23, 24] (by decide +kernel) (by decide +kernel)
set_option maxRecDepth 20000 in
theorem gX6_valves_X6_fine : GoodIn wsX6_valves (wsV RX6 76 RX6 yX6_fine wsX6_fine) := goodIn_app (goodIn_of _ (by decide +kernel)) ggX6_valves_X6_fine
theorem dX6_valves_0 : decode cX6_valves 0 = .ok (.aload_n 0, 1) := by decide +kernel
theorem dX6_valves_1 : decode cX6_valves 1 = .ok (.aload_n 0, 1) := by decide +kernel
theorem dX6_valves_2 : decode cX6_valves 2 = .ok (.getfield 51, 3) := by decide +kernel
theorem dX6_valves_5 : decode cX6_valves 5 = .ok (.invokevirtual 76, 3) := by decide +kernel
theorem dX6_valves_8 : decode cX6_valves 8 = .ok (.ireturn, 1) := by decide +kernel
theorem dX6_isOpen_0 : decode cX6_isOpen 0 = .ok (.aload_n 0, 1) := by decide +kernel
theorem dX6_isOpen_1 : decode cX6_isOpen 1 = .ok (.getfield 13, 3) := by decide +kernel
theorem dX6_isOpen_4 : decode cX6_isOpen 4 = .ok (.iload_n 1, 1) := by decide +kernel
theorem dX6_isOpen_5 : decode cX6_isOpen 5 = .ok (.iaload, 1) := by decide +kernel
theorem dX6_isOpen_6 : decode cX6_isOpen 6 = .ok (.istore 4, 2) := by decide +kernel
theorem dX6_isOpen_8 : decode cX6_isOpen 8 = .ok (.iload 4, 2) := by decide +kernel
theorem dX6_isOpen_10 : decode cX6_isOpen 10 = .ok (.iconst (-1), 1) := by decide +kernel
theorem dX6_isOpen_11 : decode cX6_isOpen 11 = .ok (.if_icmp .ne 5, 3) := by decide +kernel
theorem dX6_isOpen_14 : decode cX6_isOpen 14 = .ok (.iconst 1, 1) := by decide +kernel
theorem dX6_isOpen_15 : decode cX6_isOpen 15 = .ok (.ireturn, 1) := by decide +kernel
theorem dX6_isOpen_16 : decode cX6_isOpen 16 = .ok (.aload_n 0, 1) := by decide +kernel
theorem dX6_isOpen_17 : decode cX6_isOpen 17 = .ok (.getfield 73, 3) := by decide +kernel
theorem dX6_isOpen_20 : decode cX6_isOpen 20 = .ok (.iload_n 3, 1) := by decide +kernel
theorem dX6_isOpen_21 : decode cX6_isOpen 21 = .ok (.ior, 1) := by decide +kernel
theorem dX6_isOpen_22 : decode cX6_isOpen 22 = .ok (.iload 4, 2) := by decide +kernel
theorem dX6_isOpen_24 : decode cX6_isOpen 24 = .ok (.ishr, 1) := by decide +kernel
theorem dX6_isOpen_25 : decode cX6_isOpen 25 = .ok (.iconst 1, 1) := by decide +kernel
theorem dX6_isOpen_26 : decode cX6_isOpen 26 = .ok (.iand, 1) := by decide +kernel
theorem dX6_isOpen_27 : decode cX6_isOpen 27 = .ok (.iconst 1, 1) := by decide +kernel
theorem dX6_isOpen_28 : decode cX6_isOpen 28 = .ok (.if_icmp .ne 7, 3) := by decide +kernel
theorem dX6_isOpen_31 : decode cX6_isOpen 31 = .ok (.iconst 1, 1) := by decide +kernel
theorem dX6_isOpen_32 : decode cX6_isOpen 32 = .ok (.goto 4, 3) := by decide +kernel
theorem dX6_isOpen_35 : decode cX6_isOpen 35 = .ok (.iconst 0, 1) := by decide +kernel
theorem dX6_isOpen_36 : decode cX6_isOpen 36 = .ok (.istore 5, 2) := by decide +kernel
theorem dX6_isOpen_38 : decode cX6_isOpen 38 = .ok (.iload_n 2, 1) := by decide +kernel
theorem dX6_isOpen_39 : decode cX6_isOpen 39 = .ok (.ifCond .ne 8, 3) := by decide +kernel
theorem dX6_isOpen_42 : decode cX6_isOpen 42 = .ok (.iload 5, 2) := by decide +kernel
theorem dX6_isOpen_44 : decode cX6_isOpen 44 = .ok (.ifCond .eq 26, 3) := by decide +kernel
theorem dX6_isOpen_47 : decode cX6_isOpen 47 = .ok (.iload_n 2, 1) := by decide +kernel
theorem dX6_isOpen_48 : decode cX6_isOpen 48 = .ok (.iconst 2, 1) := by decide +kernel
theorem dX6_isOpen_49 : decode cX6_isOpen 49 = .ok (.if_icmp .ne 25, 3) := by decide +kernel
theorem dX6_isOpen_52 : decode cX6_isOpen 52 = .ok (.iload 5, 2) := by decide +kernel
theorem dX6_isOpen_54 : decode cX6_isOpen 54 = .ok (.ifCond .ne 20, 3) := by decide +kernel
theorem dX6_isOpen_57 : decode cX6_isOpen 57 = .ok (.aload_n 0, 1) := by decide +kernel
theorem dX6_isOpen_58 : decode cX6_isOpen 58 = .ok (.getfield 70, 3) := by decide +kernel
theorem dX6_isOpen_61 : decode cX6_isOpen 61 = .ok (.iload 4, 2) := by decide +kernel
theorem dX6_isOpen_63 : decode cX6_isOpen 63 = .ok (.ishr, 1) := by decide +kernel
theorem dX6_isOpen_64 : decode cX6_isOpen 64 = .ok (.iconst 1, 1) := by decide +kernel
theorem dX6_isOpen_65 : decode cX6_isOpen 65 = .ok (.iand, 1) := by decide +kernel
theorem dX6_isOpen_66 : decode cX6_isOpen 66 = .ok (.iconst 1, 1) := by decide +kernel
theorem dX6_isOpen_67 : decode cX6_isOpen 67 = .ok (.if_icmp .ne 7, 3) := by decide +kernel
theorem dX6_isOpen_70 : decode cX6_isOpen 70 = .ok (.iconst 1, 1) := by decide +kernel
theorem dX6_isOpen_71 : decode cX6_isOpen 71 = .ok (.goto 4, 3) := by decide +kernel
theorem dX6_isOpen_74 : decode cX6_isOpen 74 = .ok (.iconst 0, 1) := by decide +kernel
theorem dX6_isOpen_75 : decode cX6_isOpen 75 = .ok (.ireturn, 1) := by decide +kernel
theorem dX6_partOf_0 : decode cX6_partOf 0 = .ok (.iconst 1, 1) := by decide +kernel
theorem dX6_partOf_1 : decode cX6_partOf 1 = .ok (.bipush 12, 2) := by decide +kernel
theorem dX6_partOf_3 : decode cX6_partOf 3 = .ok (.iload_n 0, 1) := by decide +kernel
theorem dX6_partOf_4 : decode cX6_partOf 4 = .ok (.iadd, 1) := by decide +kernel
theorem dX6_partOf_5 : decode cX6_partOf 5 = .ok (.ishl, 1) := by decide +kernel
theorem dX6_partOf_6 : decode cX6_partOf 6 = .ok (.ireturn, 1) := by decide +kernel
set_option maxRecDepth 20000 in
theorem ggX6_spread_X6_partOf : GoodIn wsX6_spread wsX6_partOf := goodIn_r _ [6] (by decide +kernel) (by decide +kernel)
set_option maxRecDepth 20000 in
theorem gX6_spread_X6_partOf : GoodIn wsX6_spread (va_wsS RX6 80 yX6_partOf wsX6_partOf) := goodIn_app (goodIn_of _ (by decide +kernel)) ggX6_spread_X6_partOf
set_option maxRecDepth 20000 in
theorem ggX6_spread_X6_isOpen : GoodIn wsX6_spread wsX6_isOpen := goodIn_r _ [10, 11, 12, 13, 14, 15, 16, 17, 18, 19, 20, 21, 22, 23, 24, 25, 26, 27, 28, 29, 30] (by decide +kernel) (by decide +kernel)
set_option maxRecDepth 20000 in
theorem gX6_spread_X6_isOpen : GoodIn wsX6_spread (wsV RX6 83 RX6 yX6_isOpen wsX6_isOpen) := goodIn_app (goodIn_of _ (by decide +kernel)) ggX6_spread_X6_isOpen
theorem dX6_spread_0 : decode cX6_spread 0 = .ok (.iload_n 1, 1) := by decide +kernel
theorem dX6_spread_1 : decode cX6_spread 1 = .ok (.istore 4, 2) := by decide +kernel
theorem dX6_spread_3 : decode cX6_spread 3 = .ok (.iconst 0, 1) := by decide +kernel
theorem dX6_spread_4 : decode cX6_spread 4 = .ok (.istore 5, 2) := by decide +kernel
theorem dX6_spread_6 : decode cX6_spread 6 = .ok (.iload 4, 2) := by decide +kernel
theorem dX6_spread_8 : decode cX6_spread 8 = .ok (.iload 5, 2) := by decide +kernel
theorem dX6_spread_10 : decode cX6_spread 10 = .ok (.if_icmp .eq 75, 3) := by decide +kernel
theorem dX6_spread_13 : decode cX6_spread 13 = .ok (.iload 4, 2) := by decide +kernel
theorem dX6_spread_15 : decode cX6_spread 15 = .ok (.istore 5, 2) := by decide +kernel
theorem dX6_spread_17 : decode cX6_spread 17 = .ok (.iconst 0, 1) := by decide +kernel
theorem dX6_spread_18 : decode cX6_spread 18 = .ok (.istore 6, 2) := by decide +kernel
theorem dX6_spread_20 : decode cX6_spread 20 = .ok (.iload 6, 2) := by decide +kernel
theorem dX6_spread_22 : decode cX6_spread 22 = .ok (.iconst 2, 1) := by decide +kernel
theorem dX6_spread_23 : decode cX6_spread 23 = .ok (.aload_n 0, 1) := by decide +kernel
theorem dX6_spread_24 : decode cX6_spread 24 = .ok (.getfield 48, 3) := by decide +kernel
theorem dX6_spread_27 : decode cX6_spread 27 = .ok (.imul, 1) := by decide +kernel
theorem dX6_spread_28 : decode cX6_spread 28 = .ok (.if_icmp .ge 54, 3) := by decide +kernel
theorem dX6_spread_31 : decode cX6_spread 31 = .ok (.iload 6, 2) := by decide +kernel
theorem dX6_spread_33 : decode cX6_spread 33 = .ok (.iconst 2, 1) := by decide +kernel
theorem dX6_spread_34 : decode cX6_spread 34 = .ok (.idiv, 1) := by decide +kernel
theorem dX6_spread_35 : decode cX6_spread 35 = .ok (.invokestatic 80, 3) := by decide +kernel
theorem dX6_spread_38 : decode cX6_spread 38 = .ok (.iconst 1, 1) := by decide +kernel
theorem dX6_spread_39 : decode cX6_spread 39 = .ok (.aload_n 0, 1) := by decide +kernel
theorem dX6_spread_40 : decode cX6_spread 40 = .ok (.getfield 7, 3) := by decide +kernel
theorem dX6_spread_43 : decode cX6_spread 43 = .ok (.iload 6, 2) := by decide +kernel
theorem dX6_spread_45 : decode cX6_spread 45 = .ok (.iaload, 1) := by decide +kernel
theorem dX6_spread_46 : decode cX6_spread 46 = .ok (.ishl, 1) := by decide +kernel
theorem dX6_spread_47 : decode cX6_spread 47 = .ok (.ior, 1) := by decide +kernel
theorem dX6_spread_48 : decode cX6_spread 48 = .ok (.istore 7, 2) := by decide +kernel
theorem dX6_spread_50 : decode cX6_spread 50 = .ok (.iload 4, 2) := by decide +kernel
theorem dX6_spread_52 : decode cX6_spread 52 = .ok (.iload 7, 2) := by decide +kernel
theorem dX6_spread_54 : decode cX6_spread 54 = .ok (.iand, 1) := by decide +kernel
theorem dX6_spread_55 : decode cX6_spread 55 = .ok (.ifCond .eq 21, 3) := by decide +kernel
theorem dX6_spread_58 : decode cX6_spread 58 = .ok (.aload_n 0, 1) := by decide +kernel
theorem dX6_spread_59 : decode cX6_spread 59 = .ok (.iload 6, 2) := by decide +kernel
theorem dX6_spread_61 : decode cX6_spread 61 = .ok (.iload_n 2, 1) := by decide +kernel
theorem dX6_spread_62 : decode cX6_spread 62 = .ok (.iload_n 3, 1) := by decide +kernel
theorem dX6_spread_63 : decode cX6_spread 63 = .ok (.invokevirtual 83, 3) := by decide +kernel
theorem dX6_spread_66 : decode cX6_spread 66 = .ok (.ifCond .eq 10, 3) := by decide +kernel
theorem dX6_spread_69 : decode cX6_spread 69 = .ok (.iload 4, 2) := by decide +kernel
theorem dX6_spread_71 : decode cX6_spread 71 = .ok (.iload 7, 2) := by decide +kernel
theorem dX6_spread_73 : decode cX6_spread 73 = .ok (.ior, 1) := by decide +kernel
theorem dX6_spread_74 : decode cX6_spread 74 = .ok (.istore 4, 2) := by decide +kernel
theorem dX6_spread_76 : decode cX6_spread 76 = .ok (.iinc 6 1, 3) := by decide +kernel
theorem dX6_spread_79 : decode cX6_spread 79 = .ok (.goto (-59), 3) := by decide +kernel
theorem dX6_spread_82 : decode cX6_spread 82 = .ok (.goto (-76), 3) := by decide +kernel
theorem dX6_spread_85 : decode cX6_spread 85 = .ok (.iload 4, 2) := by decide +kernel
theorem dX6_spread_87 : decode cX6_spread 87 = .ok (.ireturn, 1) := by decide +kernel
set_option maxRecDepth 20000 in
theorem ggX6_wet_X6_spread : GoodIn wsX6_wet wsX6_spread := goodIn_r _ [6, 7, 8, 9, 10, 5, 11, 12, 13, 14, 15, 16, 17, 18, 19, 20, 21, 22, 23, 24, 25, 26, 27, 28, 29, 30, 31, 32, 33, 34, 35] (by decide +kernel) (by decide +kernel)
set_option maxRecDepth 20000 in
theorem gX6_wet_X6_spread : GoodIn wsX6_wet (wsV RX6 86 RX6 yX6_spread wsX6_spread) := goodIn_app (goodIn_of _ (by decide +kernel)) ggX6_wet_X6_spread
theorem dX6_wet_0 : decode cX6_wet 0 = .ok (.aload_n 0, 1) := by decide +kernel
theorem dX6_wet_1 : decode cX6_wet 1 = .ok (.aload_n 0, 1) := by decide +kernel
theorem dX6_wet_2 : decode cX6_wet 2 = .ok (.getfield 58, 3) := by decide +kernel
theorem dX6_wet_5 : decode cX6_wet 5 = .ok (.iconst 0, 1) := by decide +kernel
theorem dX6_wet_6 : decode cX6_wet 6 = .ok (.iload_n 1, 1) := by decide +kernel
theorem dX6_wet_7 : decode cX6_wet 7 = .ok (.invokevirtual 86, 3) := by decide +kernel
theorem dX6_wet_10 : decode cX6_wet 10 = .ok (.ireturn, 1) := by decide +kernel
set_option maxRecDepth 20000 in
theorem ggX6_supply_X6_partOf : GoodIn wsX6_supply wsX6_partOf := goodIn_r _ [6] (by decide +kernel) (by decide +kernel)
set_option maxRecDepth 20000 in
theorem gX6_supply_X6_partOf : GoodIn wsX6_supply (va_wsS RX6 80 yX6_partOf wsX6_partOf) := goodIn_app (goodIn_of _ (by decide +kernel)) ggX6_supply_X6_partOf
theorem dX6_supply_0 : decode cX6_supply 0 = .ok (.iconst 0, 1) := by decide +kernel
theorem dX6_supply_1 : decode cX6_supply 1 = .ok (.istore_n 2, 1) := by decide +kernel
theorem dX6_supply_2 : decode cX6_supply 2 = .ok (.iconst 0, 1) := by decide +kernel
theorem dX6_supply_3 : decode cX6_supply 3 = .ok (.istore_n 3, 1) := by decide +kernel
theorem dX6_supply_4 : decode cX6_supply 4 = .ok (.iload_n 3, 1) := by decide +kernel
theorem dX6_supply_5 : decode cX6_supply 5 = .ok (.aload_n 0, 1) := by decide +kernel
theorem dX6_supply_6 : decode cX6_supply 6 = .ok (.getfield 48, 3) := by decide +kernel
theorem dX6_supply_9 : decode cX6_supply 9 = .ok (.if_icmp .ge 31, 3) := by decide +kernel
theorem dX6_supply_12 : decode cX6_supply 12 = .ok (.iload_n 2, 1) := by decide +kernel
theorem dX6_supply_13 : decode cX6_supply 13 = .ok (.iload_n 1, 1) := by decide +kernel
theorem dX6_supply_14 : decode cX6_supply 14 = .ok (.iload_n 3, 1) := by decide +kernel
theorem dX6_supply_15 : decode cX6_supply 15 = .ok (.invokestatic 80, 3) := by decide +kernel
theorem dX6_supply_18 : decode cX6_supply 18 = .ok (.iand, 1) := by decide +kernel
theorem dX6_supply_19 : decode cX6_supply 19 = .ok (.ifCond .eq 12, 3) := by decide +kernel
theorem dX6_supply_22 : decode cX6_supply 22 = .ok (.aload_n 0, 1) := by decide +kernel
theorem dX6_supply_23 : decode cX6_supply 23 = .ok (.getfield 19, 3) := by decide +kernel
theorem dX6_supply_26 : decode cX6_supply 26 = .ok (.iload_n 3, 1) := by decide +kernel
theorem dX6_supply_27 : decode cX6_supply 27 = .ok (.iaload, 1) := by decide +kernel
theorem dX6_supply_28 : decode cX6_supply 28 = .ok (.goto 4, 3) := by decide +kernel
theorem dX6_supply_31 : decode cX6_supply 31 = .ok (.iconst 0, 1) := by decide +kernel
theorem dX6_supply_32 : decode cX6_supply 32 = .ok (.iadd, 1) := by decide +kernel
theorem dX6_supply_33 : decode cX6_supply 33 = .ok (.istore_n 2, 1) := by decide +kernel
theorem dX6_supply_34 : decode cX6_supply 34 = .ok (.iinc 3 1, 3) := by decide +kernel
theorem dX6_supply_37 : decode cX6_supply 37 = .ok (.goto (-33), 3) := by decide +kernel
theorem dX6_supply_40 : decode cX6_supply 40 = .ok (.iload_n 2, 1) := by decide +kernel
theorem dX6_supply_41 : decode cX6_supply 41 = .ok (.ireturn, 1) := by decide +kernel
set_option maxRecDepth 20000 in
theorem ggX6_isNodeDry_X6_isNode : GoodIn wsX6_isNodeDry wsX6_isNode := goodIn_r _ [5, 6, 7, 8, 4, 9, 36, 37, 38, 39, 40, 41, 42, 43, 44, 45, 46, 47, 48, 49, 50, 51, 52] (by decide +kernel) (by decide +kernel)
set_option maxRecDepth 20000 in
theorem gX6_isNodeDry_X6_isNode : GoodIn wsX6_isNodeDry (wsV RX6 61 RX6 yX6_isNode wsX6_isNode) := goodIn_app (goodIn_of _ (by decide +kernel)) ggX6_isNodeDry_X6_isNode
set_option maxRecDepth 20000 in
theorem ggX6_isNodeDry_X6_refused : GoodIn wsX6_isNodeDry wsX6_refused := goodIn_r _ [13, 14, 36, 37, 38, 39, 40, 41, 42, 43, 44, 45, 46, 47, 48, 49, 50, 51, 52] (by decide +kernel) (by decide +kernel)
set_option maxRecDepth 20000 in
theorem gX6_isNodeDry_X6_refused : GoodIn wsX6_isNodeDry (wsV RX6 54 RX6 yX6_refused wsX6_refused) := goodIn_app (goodIn_of _ (by decide +kernel)) ggX6_isNodeDry_X6_refused
set_option maxRecDepth 20000 in
theorem ggX6_isNodeDry_X6_wet : GoodIn wsX6_isNodeDry wsX6_wet := goodIn_r _ [18, 19, 20, 21, 22, 4, 23, 24, 25, 26, 27, 28, 29, 30, 31, 32, 33, 34, 35, 36, 37, 38, 39, 40, 41, 42, 43, 44, 45, 46, 47, 48, 49, 50, 51, 52] (by decide +kernel) (by decide +kernel)
set_option maxRecDepth 20000 in
theorem gX6_isNodeDry_X6_wet : GoodIn wsX6_isNodeDry (wsV RX6 90 RX6 yX6_wet wsX6_wet) := goodIn_app (goodIn_of _ (by decide +kernel)) ggX6_isNodeDry_X6_wet
theorem dX6_isNodeDry_0 : decode cX6_isNodeDry 0 = .ok (.aload_n 0, 1) := by decide +kernel
theorem dX6_isNodeDry_1 : decode cX6_isNodeDry 1 = .ok (.aload_n 0, 1) := by decide +kernel
theorem dX6_isNodeDry_2 : decode cX6_isNodeDry 2 = .ok (.iload_n 1, 1) := by decide +kernel
theorem dX6_isNodeDry_3 : decode cX6_isNodeDry 3 = .ok (.invokevirtual 61, 3) := by decide +kernel
theorem dX6_isNodeDry_6 : decode cX6_isNodeDry 6 = .ok (.ifCond .eq 7, 3) := by decide +kernel
theorem dX6_isNodeDry_9 : decode cX6_isNodeDry 9 = .ok (.iconst 0, 1) := by decide +kernel
theorem dX6_isNodeDry_10 : decode cX6_isNodeDry 10 = .ok (.goto 4, 3) := by decide +kernel
theorem dX6_isNodeDry_13 : decode cX6_isNodeDry 13 = .ok (.iconst 1, 1) := by decide +kernel
theorem dX6_isNodeDry_14 : decode cX6_isNodeDry 14 = .ok (.invokevirtual 54, 3) := by decide +kernel
theorem dX6_isNodeDry_17 : decode cX6_isNodeDry 17 = .ok (.ifCond .ne 19, 3) := by decide +kernel
theorem dX6_isNodeDry_20 : decode cX6_isNodeDry 20 = .ok (.aload_n 0, 1) := by decide +kernel
theorem dX6_isNodeDry_21 : decode cX6_isNodeDry 21 = .ok (.iconst 0, 1) := by decide +kernel
theorem dX6_isNodeDry_22 : decode cX6_isNodeDry 22 = .ok (.invokevirtual 90, 3) := by decide +kernel
theorem dX6_isNodeDry_25 : decode cX6_isNodeDry 25 = .ok (.iconst 1, 1) := by decide +kernel
theorem dX6_isNodeDry_26 : decode cX6_isNodeDry 26 = .ok (.iload_n 1, 1) := by decide +kernel
theorem dX6_isNodeDry_27 : decode cX6_isNodeDry 27 = .ok (.ishl, 1) := by decide +kernel
theorem dX6_isNodeDry_28 : decode cX6_isNodeDry 28 = .ok (.iand, 1) := by decide +kernel
theorem dX6_isNodeDry_29 : decode cX6_isNodeDry 29 = .ok (.ifCond .ne 7, 3) := by decide +kernel
theorem dX6_isNodeDry_32 : decode cX6_isNodeDry 32 = .ok (.iconst 1, 1) := by decide +kernel
theorem dX6_isNodeDry_33 : decode cX6_isNodeDry 33 = .ok (.goto 4, 3) := by decide +kernel
theorem dX6_isNodeDry_36 : decode cX6_isNodeDry 36 = .ok (.iconst 0, 1) := by decide +kernel
theorem dX6_isNodeDry_37 : decode cX6_isNodeDry 37 = .ok (.ireturn, 1) := by decide +kernel
set_option maxRecDepth 20000 in
theorem ggX6_isPipeDry_X6_isPipe : GoodIn wsX6_isPipeDry wsX6_isPipe := goodIn_r _ [5, 6, 7, 8, 4, 9, 35, 36, 37, 38, 39, 40, 41, 42, 43, 44, 45, 46, 47, 48, 49, 50, 51] (by decide +kernel) (by decide +kernel)
set_option maxRecDepth 20000 in
theorem gX6_isPipeDry_X6_isPipe : GoodIn wsX6_isPipeDry (wsV RX6 64 RX6 yX6_isPipe wsX6_isPipe) := goodIn_app (goodIn_of _ (by decide +kernel)) ggX6_isPipeDry_X6_isPipe
set_option maxRecDepth 20000 in
theorem ggX6_isPipeDry_X6_refused : GoodIn wsX6_isPipeDry wsX6_refused := goodIn_r _ [13, 14, 35, 36, 37, 38, 39, 40, 41, 42, 43, 44, 45, 46, 47, 48, 49, 50, 51] (by decide +kernel) (by decide +kernel)
set_option maxRecDepth 20000 in
theorem gX6_isPipeDry_X6_refused : GoodIn wsX6_isPipeDry (wsV RX6 54 RX6 yX6_refused wsX6_refused) := goodIn_app (goodIn_of _ (by decide +kernel)) ggX6_isPipeDry_X6_refused
set_option maxRecDepth 20000 in
theorem ggX6_isPipeDry_X6_wet : GoodIn wsX6_isPipeDry wsX6_wet := goodIn_r _ [18, 19, 20, 21, 22, 4, 23, 6, 24, 25, 26, 27, 28, 29, 30, 31, 32, 33, 34, 35, 36, 37, 38, 39, 40, 41, 42, 43, 44, 45, 46, 47, 48, 49, 50, 51] (by decide +kernel) (by decide +kernel)
set_option maxRecDepth 20000 in
theorem gX6_isPipeDry_X6_wet : GoodIn wsX6_isPipeDry (wsV RX6 90 RX6 yX6_wet wsX6_wet) := goodIn_app (goodIn_of _ (by decide +kernel)) ggX6_isPipeDry_X6_wet
set_option maxRecDepth 20000 in
theorem ggX6_isPipeDry_X6_partOf : GoodIn wsX6_isPipeDry wsX6_partOf := goodIn_r _ [27] (by decide +kernel) (by decide +kernel)
set_option maxRecDepth 20000 in
theorem gX6_isPipeDry_X6_partOf : GoodIn wsX6_isPipeDry (va_wsS RX6 80 yX6_partOf wsX6_partOf) := goodIn_app (goodIn_of _ (by decide +kernel)) ggX6_isPipeDry_X6_partOf
theorem dX6_isPipeDry_0 : decode cX6_isPipeDry 0 = .ok (.aload_n 0, 1) := by decide +kernel
theorem dX6_isPipeDry_1 : decode cX6_isPipeDry 1 = .ok (.aload_n 0, 1) := by decide +kernel
theorem dX6_isPipeDry_2 : decode cX6_isPipeDry 2 = .ok (.iload_n 1, 1) := by decide +kernel
theorem dX6_isPipeDry_3 : decode cX6_isPipeDry 3 = .ok (.invokevirtual 64, 3) := by decide +kernel
theorem dX6_isPipeDry_6 : decode cX6_isPipeDry 6 = .ok (.ifCond .eq 7, 3) := by decide +kernel
theorem dX6_isPipeDry_9 : decode cX6_isPipeDry 9 = .ok (.iconst 0, 1) := by decide +kernel
theorem dX6_isPipeDry_10 : decode cX6_isPipeDry 10 = .ok (.goto 4, 3) := by decide +kernel
theorem dX6_isPipeDry_13 : decode cX6_isPipeDry 13 = .ok (.iconst 1, 1) := by decide +kernel
theorem dX6_isPipeDry_14 : decode cX6_isPipeDry 14 = .ok (.invokevirtual 54, 3) := by decide +kernel
theorem dX6_isPipeDry_17 : decode cX6_isPipeDry 17 = .ok (.ifCond .ne 20, 3) := by decide +kernel
theorem dX6_isPipeDry_20 : decode cX6_isPipeDry 20 = .ok (.aload_n 0, 1) := by decide +kernel
theorem dX6_isPipeDry_21 : decode cX6_isPipeDry 21 = .ok (.iconst 0, 1) := by decide +kernel
theorem dX6_isPipeDry_22 : decode cX6_isPipeDry 22 = .ok (.invokevirtual 90, 3) := by decide +kernel
theorem dX6_isPipeDry_25 : decode cX6_isPipeDry 25 = .ok (.iload_n 1, 1) := by decide +kernel
theorem dX6_isPipeDry_26 : decode cX6_isPipeDry 26 = .ok (.invokestatic 80, 3) := by decide +kernel
theorem dX6_isPipeDry_29 : decode cX6_isPipeDry 29 = .ok (.iand, 1) := by decide +kernel
theorem dX6_isPipeDry_30 : decode cX6_isPipeDry 30 = .ok (.ifCond .ne 7, 3) := by decide +kernel
theorem dX6_isPipeDry_33 : decode cX6_isPipeDry 33 = .ok (.iconst 1, 1) := by decide +kernel
theorem dX6_isPipeDry_34 : decode cX6_isPipeDry 34 = .ok (.goto 4, 3) := by decide +kernel
theorem dX6_isPipeDry_37 : decode cX6_isPipeDry 37 = .ok (.iconst 0, 1) := by decide +kernel
theorem dX6_isPipeDry_38 : decode cX6_isPipeDry 38 = .ok (.ireturn, 1) := by decide +kernel
set_option maxRecDepth 20000 in
theorem ggX6_supplied_X6_wet : GoodIn wsX6_supplied wsX6_wet := goodIn_r _ [5, 6, 7, 8, 9, 4, 10, 11, 12, 13, 14, 15, 16, 17, 18, 19, 20, 21, 22, 33, 34, 35, 36, 37, 38, 39, 40, 41, 42, 43, 44, 45, 46, 47, 48, 49] (by decide +kernel) (by decide +kernel)
set_option maxRecDepth 20000 in
theorem gX6_supplied_X6_wet : GoodIn wsX6_supplied (wsV RX6 90 RX6 yX6_wet wsX6_wet) := goodIn_app (goodIn_of _ (by decide +kernel)) ggX6_supplied_X6_wet
set_option maxRecDepth 20000 in
theorem ggX6_supplied_X6_supply : GoodIn wsX6_supplied wsX6_supply := goodIn_r _ [26, 11, 27, 13, 14, 4, 15, 33, 34, 35, 36, 37, 38, 39, 40, 41, 42, 43, 44, 45, 46, 47, 48, 49] (by decide +kernel) (by decide +kernel)
set_option maxRecDepth 20000 in
theorem gX6_supplied_X6_supply : GoodIn wsX6_supplied (wsV RX6 93 RX6 yX6_supply wsX6_supply) := goodIn_app (goodIn_of _ (by decide +kernel)) ggX6_supplied_X6_supply
set_option maxRecDepth 20000 in
theorem ggX6_supplied_X6_fine : GoodIn wsX6_supplied wsX6_fine := goodIn_r _ [31, 32, 33, 34, 35, 36, 37, 38, 39, 40, 41, 42, 43, 44, 45, 46, 47, 48, 49] (by decide +kernel) (by decide +kernel)
set_option maxRecDepth 20000 in
theorem gX6_supplied_X6_fine : GoodIn wsX6_supplied (wsV RX6 76 RX6 yX6_fine wsX6_fine) := goodIn_app (goodIn_of _ (by decide +kernel)) ggX6_supplied_X6_fine
theorem dX6_supplied_0 : decode cX6_supplied 0 = .ok (.aload_n 0, 1) := by decide +kernel
theorem dX6_supplied_1 : decode cX6_supplied 1 = .ok (.aload_n 0, 1) := by decide +kernel
theorem dX6_supplied_2 : decode cX6_supplied 2 = .ok (.aload_n 0, 1) := by decide +kernel
theorem dX6_supplied_3 : decode cX6_supplied 3 = .ok (.iconst 0, 1) := by decide +kernel
theorem dX6_supplied_4 : decode cX6_supplied 4 = .ok (.invokevirtual 90, 3) := by decide +kernel
theorem dX6_supplied_7 : decode cX6_supplied 7 = .ok (.invokevirtual 93, 3) := by decide +kernel
theorem dX6_supplied_10 : decode cX6_supplied 10 = .ok (.invokevirtual 76, 3) := by decide +kernel
theorem dX6_supplied_13 : decode cX6_supplied 13 = .ok (.ireturn, 1) := by decide +kernel
set_option maxRecDepth 20000 in
theorem ggX6_segmentOf_X6_spread : GoodIn wsX6_segmentOf wsX6_spread := goodIn_r _ [7, 1, 8, 9, 10, 6, 11, 12, 13, 14, 15, 16, 17, 18, 19, 20, 21, 22, 23, 24, 25, 26, 27, 28, 29, 30, 31, 32, 33, 34, 35] (by decide +kernel) (by decide +kernel)
set_option maxRecDepth 20000 in
theorem gX6_segmentOf_X6_spread : GoodIn wsX6_segmentOf (wsV RX6 86 RX6 yX6_spread wsX6_spread) := goodIn_app (goodIn_of _ (by decide +kernel)) ggX6_segmentOf_X6_spread
theorem dX6_segmentOf_0 : decode cX6_segmentOf 0 = .ok (.iconst 0, 1) := by decide +kernel
theorem dX6_segmentOf_1 : decode cX6_segmentOf 1 = .ok (.istore_n 2, 1) := by decide +kernel
theorem dX6_segmentOf_2 : decode cX6_segmentOf 2 = .ok (.iconst 0, 1) := by decide +kernel
theorem dX6_segmentOf_3 : decode cX6_segmentOf 3 = .ok (.istore_n 3, 1) := by decide +kernel
theorem dX6_segmentOf_4 : decode cX6_segmentOf 4 = .ok (.iconst 0, 1) := by decide +kernel
theorem dX6_segmentOf_5 : decode cX6_segmentOf 5 = .ok (.istore 4, 2) := by decide +kernel
theorem dX6_segmentOf_7 : decode cX6_segmentOf 7 = .ok (.iload 4, 2) := by decide +kernel
theorem dX6_segmentOf_9 : decode cX6_segmentOf 9 = .ok (.bipush 12, 2) := by decide +kernel
theorem dX6_segmentOf_11 : decode cX6_segmentOf 11 = .ok (.aload_n 0, 1) := by decide +kernel
theorem dX6_segmentOf_12 : decode cX6_segmentOf 12 = .ok (.getfield 48, 3) := by decide +kernel
theorem dX6_segmentOf_15 : decode cX6_segmentOf 15 = .ok (.iadd, 1) := by decide +kernel
theorem dX6_segmentOf_16 : decode cX6_segmentOf 16 = .ok (.if_icmp .ge 75, 3) := by decide +kernel
theorem dX6_segmentOf_19 : decode cX6_segmentOf 19 = .ok (.iload 4, 2) := by decide +kernel
theorem dX6_segmentOf_21 : decode cX6_segmentOf 21 = .ok (.aload_n 0, 1) := by decide +kernel
theorem dX6_segmentOf_22 : decode cX6_segmentOf 22 = .ok (.getfield 41, 3) := by decide +kernel
theorem dX6_segmentOf_25 : decode cX6_segmentOf 25 = .ok (.if_icmp .lt 10, 3) := by decide +kernel
theorem dX6_segmentOf_28 : decode cX6_segmentOf 28 = .ok (.iload 4, 2) := by decide +kernel
theorem dX6_segmentOf_30 : decode cX6_segmentOf 30 = .ok (.bipush 12, 2) := by decide +kernel
theorem dX6_segmentOf_32 : decode cX6_segmentOf 32 = .ok (.if_icmp .lt 7, 3) := by decide +kernel
theorem dX6_segmentOf_35 : decode cX6_segmentOf 35 = .ok (.iconst 1, 1) := by decide +kernel
theorem dX6_segmentOf_36 : decode cX6_segmentOf 36 = .ok (.goto 4, 3) := by decide +kernel
theorem dX6_segmentOf_39 : decode cX6_segmentOf 39 = .ok (.iconst 0, 1) := by decide +kernel
theorem dX6_segmentOf_40 : decode cX6_segmentOf 40 = .ok (.istore 5, 2) := by decide +kernel
theorem dX6_segmentOf_42 : decode cX6_segmentOf 42 = .ok (.iload 5, 2) := by decide +kernel
theorem dX6_segmentOf_44 : decode cX6_segmentOf 44 = .ok (.ifCond .eq 41, 3) := by decide +kernel
theorem dX6_segmentOf_47 : decode cX6_segmentOf 47 = .ok (.iload_n 2, 1) := by decide +kernel
theorem dX6_segmentOf_48 : decode cX6_segmentOf 48 = .ok (.iload 4, 2) := by decide +kernel
theorem dX6_segmentOf_50 : decode cX6_segmentOf 50 = .ok (.ishr, 1) := by decide +kernel
theorem dX6_segmentOf_51 : decode cX6_segmentOf 51 = .ok (.iconst 1, 1) := by decide +kernel
theorem dX6_segmentOf_52 : decode cX6_segmentOf 52 = .ok (.iand, 1) := by decide +kernel
theorem dX6_segmentOf_53 : decode cX6_segmentOf 53 = .ok (.ifCond .ne 32, 3) := by decide +kernel
theorem dX6_segmentOf_56 : decode cX6_segmentOf 56 = .ok (.aload_n 0, 1) := by decide +kernel
theorem dX6_segmentOf_57 : decode cX6_segmentOf 57 = .ok (.iconst 1, 1) := by decide +kernel
theorem dX6_segmentOf_58 : decode cX6_segmentOf 58 = .ok (.iload 4, 2) := by decide +kernel
theorem dX6_segmentOf_60 : decode cX6_segmentOf 60 = .ok (.ishl, 1) := by decide +kernel
theorem dX6_segmentOf_61 : decode cX6_segmentOf 61 = .ok (.iconst 1, 1) := by decide +kernel
theorem dX6_segmentOf_62 : decode cX6_segmentOf 62 = .ok (.iconst 0, 1) := by decide +kernel
theorem dX6_segmentOf_63 : decode cX6_segmentOf 63 = .ok (.invokevirtual 86, 3) := by decide +kernel
theorem dX6_segmentOf_66 : decode cX6_segmentOf 66 = .ok (.istore 6, 2) := by decide +kernel
theorem dX6_segmentOf_68 : decode cX6_segmentOf 68 = .ok (.iload 6, 2) := by decide +kernel
theorem dX6_segmentOf_70 : decode cX6_segmentOf 70 = .ok (.iload_n 1, 1) := by decide +kernel
theorem dX6_segmentOf_71 : decode cX6_segmentOf 71 = .ok (.iand, 1) := by decide +kernel
theorem dX6_segmentOf_72 : decode cX6_segmentOf 72 = .ok (.ifCond .eq 5, 3) := by decide +kernel
theorem dX6_segmentOf_75 : decode cX6_segmentOf 75 = .ok (.iload_n 3, 1) := by decide +kernel
theorem dX6_segmentOf_76 : decode cX6_segmentOf 76 = .ok (.ireturn, 1) := by decide +kernel
theorem dX6_segmentOf_77 : decode cX6_segmentOf 77 = .ok (.iload_n 2, 1) := by decide +kernel
theorem dX6_segmentOf_78 : decode cX6_segmentOf 78 = .ok (.iload 6, 2) := by decide +kernel
theorem dX6_segmentOf_80 : decode cX6_segmentOf 80 = .ok (.ior, 1) := by decide +kernel
theorem dX6_segmentOf_81 : decode cX6_segmentOf 81 = .ok (.istore_n 2, 1) := by decide +kernel
theorem dX6_segmentOf_82 : decode cX6_segmentOf 82 = .ok (.iinc 3 1, 3) := by decide +kernel
theorem dX6_segmentOf_85 : decode cX6_segmentOf 85 = .ok (.iinc 4 1, 3) := by decide +kernel
theorem dX6_segmentOf_88 : decode cX6_segmentOf 88 = .ok (.goto (-81), 3) := by decide +kernel
theorem dX6_segmentOf_91 : decode cX6_segmentOf 91 = .ok (.iload_n 3, 1) := by decide +kernel
theorem dX6_segmentOf_92 : decode cX6_segmentOf 92 = .ok (.ireturn, 1) := by decide +kernel
set_option maxRecDepth 20000 in
theorem ggX6_segments_X6_segmentOf : GoodIn wsX6_segments wsX6_segmentOf := goodIn_r _ [5, 6, 7, 8, 9, 10, 4, 11, 12, 13, 14, 15, 16, 17, 18, 19, 20, 21, 22, 28, 29, 30, 31, 32, 33, 34, 35, 36, 37, 38, 39, 40, 41, 42, 43, 44] (by decide +kernel) (by decide +kernel)
set_option maxRecDepth 20000 in
theorem gX6_segments_X6_segmentOf : GoodIn wsX6_segments (wsV RX6 96 RX6 yX6_segmentOf wsX6_segmentOf) := goodIn_app (goodIn_of _ (by decide +kernel)) ggX6_segments_X6_segmentOf
set_option maxRecDepth 20000 in
theorem ggX6_segments_X6_fine : GoodIn wsX6_segments wsX6_fine := goodIn_r _ [26, 27, 28, 29, 30, 31, 32, 33, 34, 35, 36, 37, 38, 39, 40, 41, 42, 43, 44] (by decide +kernel) (by decide +kernel)
set_option maxRecDepth 20000 in
theorem gX6_segments_X6_fine : GoodIn wsX6_segments (wsV RX6 76 RX6 yX6_fine wsX6_fine) := goodIn_app (goodIn_of _ (by decide +kernel)) ggX6_segments_X6_fine
theorem dX6_segments_0 : decode cX6_segments 0 = .ok (.aload_n 0, 1) := by decide +kernel
theorem dX6_segments_1 : decode cX6_segments 1 = .ok (.aload_n 0, 1) := by decide +kernel
theorem dX6_segments_2 : decode cX6_segments 2 = .ok (.iconst 0, 1) := by decide +kernel
theorem dX6_segments_3 : decode cX6_segments 3 = .ok (.invokevirtual 96, 3) := by decide +kernel
theorem dX6_segments_6 : decode cX6_segments 6 = .ok (.invokevirtual 76, 3) := by decide +kernel
theorem dX6_segments_9 : decode cX6_segments 9 = .ok (.ireturn, 1) := by decide +kernel
set_option maxRecDepth 20000 in
theorem ggX6_segmentOfNode_X6_isNode : GoodIn wsX6_segmentOfNode wsX6_isNode := goodIn_r _ [5, 6, 7, 8, 4, 9, 35, 36, 37, 38, 39, 40, 41, 42, 43, 44, 45, 46, 47, 48, 49, 50, 51] (by decide +kernel) (by decide +kernel)
set_option maxRecDepth 20000 in
theorem gX6_segmentOfNode_X6_isNode : GoodIn wsX6_segmentOfNode (wsV RX6 61 RX6 yX6_isNode wsX6_isNode) := goodIn_app (goodIn_of _ (by decide +kernel)) ggX6_segmentOfNode_X6_isNode
set_option maxRecDepth 20000 in
theorem ggX6_segmentOfNode_X6_refused : GoodIn wsX6_segmentOfNode wsX6_refused := goodIn_r _ [13, 14, 35, 36, 37, 38, 39, 40, 41, 42, 43, 44, 45, 46, 47, 48, 49, 50, 51] (by decide +kernel) (by decide +kernel)
set_option maxRecDepth 20000 in
theorem gX6_segmentOfNode_X6_refused : GoodIn wsX6_segmentOfNode (wsV RX6 54 RX6 yX6_refused wsX6_refused) := goodIn_app (goodIn_of _ (by decide +kernel)) ggX6_segmentOfNode_X6_refused
set_option maxRecDepth 20000 in
theorem ggX6_segmentOfNode_X6_segmentOf : GoodIn wsX6_segmentOfNode wsX6_segmentOf := goodIn_r _ [18, 19, 6, 20, 21, 22, 4, 23, 24, 25, 26, 27, 28, 29, 30, 31, 32, 33, 34, 35, 36, 37, 38, 39, 40, 41, 42, 43, 44, 45, 46, 47, 48, 49, 50, 51] (by decide +kernel) (by decide +kernel)
set_option maxRecDepth 20000 in
theorem gX6_segmentOfNode_X6_segmentOf : GoodIn wsX6_segmentOfNode (wsV RX6 96 RX6 yX6_segmentOf wsX6_segmentOf) := goodIn_app (goodIn_of _ (by decide +kernel)) ggX6_segmentOfNode_X6_segmentOf
theorem dX6_segmentOfNode_0 : decode cX6_segmentOfNode 0 = .ok (.aload_n 0, 1) := by decide +kernel
theorem dX6_segmentOfNode_1 : decode cX6_segmentOfNode 1 = .ok (.aload_n 0, 1) := by decide +kernel
theorem dX6_segmentOfNode_2 : decode cX6_segmentOfNode 2 = .ok (.iload_n 1, 1) := by decide +kernel
theorem dX6_segmentOfNode_3 : decode cX6_segmentOfNode 3 = .ok (.invokevirtual 61, 3) := by decide +kernel
theorem dX6_segmentOfNode_6 : decode cX6_segmentOfNode 6 = .ok (.ifCond .eq 7, 3) := by decide +kernel
theorem dX6_segmentOfNode_9 : decode cX6_segmentOfNode 9 = .ok (.iconst 0, 1) := by decide +kernel
theorem dX6_segmentOfNode_10 : decode cX6_segmentOfNode 10 = .ok (.goto 4, 3) := by decide +kernel
theorem dX6_segmentOfNode_13 : decode cX6_segmentOfNode 13 = .ok (.iconst 1, 1) := by decide +kernel
theorem dX6_segmentOfNode_14 : decode cX6_segmentOfNode 14 = .ok (.invokevirtual 54, 3) := by decide +kernel
theorem dX6_segmentOfNode_17 : decode cX6_segmentOfNode 17 = .ok (.ifCond .eq 7, 3) := by decide +kernel
theorem dX6_segmentOfNode_20 : decode cX6_segmentOfNode 20 = .ok (.iconst 0, 1) := by decide +kernel
theorem dX6_segmentOfNode_21 : decode cX6_segmentOfNode 21 = .ok (.goto 10, 3) := by decide +kernel
theorem dX6_segmentOfNode_24 : decode cX6_segmentOfNode 24 = .ok (.aload_n 0, 1) := by decide +kernel
theorem dX6_segmentOfNode_25 : decode cX6_segmentOfNode 25 = .ok (.iconst 1, 1) := by decide +kernel
theorem dX6_segmentOfNode_26 : decode cX6_segmentOfNode 26 = .ok (.iload_n 1, 1) := by decide +kernel
theorem dX6_segmentOfNode_27 : decode cX6_segmentOfNode 27 = .ok (.ishl, 1) := by decide +kernel
theorem dX6_segmentOfNode_28 : decode cX6_segmentOfNode 28 = .ok (.invokevirtual 96, 3) := by decide +kernel
theorem dX6_segmentOfNode_31 : decode cX6_segmentOfNode 31 = .ok (.ireturn, 1) := by decide +kernel
set_option maxRecDepth 20000 in
theorem ggX6_segmentOfPipe_X6_isPipe : GoodIn wsX6_segmentOfPipe wsX6_isPipe := goodIn_r _ [5, 6, 7, 8, 4, 9, 35, 36, 37, 38, 39, 40, 41, 42, 43, 44, 45, 46, 47, 48, 49, 50, 51] (by decide +kernel) (by decide +kernel)
set_option maxRecDepth 20000 in
theorem gX6_segmentOfPipe_X6_isPipe : GoodIn wsX6_segmentOfPipe (wsV RX6 64 RX6 yX6_isPipe wsX6_isPipe) := goodIn_app (goodIn_of _ (by decide +kernel)) ggX6_segmentOfPipe_X6_isPipe
set_option maxRecDepth 20000 in
theorem ggX6_segmentOfPipe_X6_refused : GoodIn wsX6_segmentOfPipe wsX6_refused := goodIn_r _ [13, 14, 35, 36, 37, 38, 39, 40, 41, 42, 43, 44, 45, 46, 47, 48, 49, 50, 51] (by decide +kernel) (by decide +kernel)
set_option maxRecDepth 20000 in
theorem gX6_segmentOfPipe_X6_refused : GoodIn wsX6_segmentOfPipe (wsV RX6 54 RX6 yX6_refused wsX6_refused) := goodIn_app (goodIn_of _ (by decide +kernel)) ggX6_segmentOfPipe_X6_refused
set_option maxRecDepth 20000 in
theorem ggX6_segmentOfPipe_X6_partOf : GoodIn wsX6_segmentOfPipe wsX6_partOf := goodIn_r _ [17] (by decide +kernel) (by decide +kernel)
set_option maxRecDepth 20000 in
theorem gX6_segmentOfPipe_X6_partOf : GoodIn wsX6_segmentOfPipe (va_wsS RX6 80 yX6_partOf wsX6_partOf) := goodIn_app (goodIn_of _ (by decide +kernel)) ggX6_segmentOfPipe_X6_partOf
set_option maxRecDepth 20000 in
theorem ggX6_segmentOfPipe_X6_segmentOf : GoodIn wsX6_segmentOfPipe wsX6_segmentOf := goodIn_r _ [21, 6, 22, 23, 24, 25, 4, 26, 27, 15, 16, 17, 28, 29, 30, 31, 32, 33, 34, 35, 36, 37, 38, 39, 40, 41, 42, 43, 44, 45, 46, 47, 48, 49, 50, 51] (by decide +kernel) (by decide +kernel)
set_option maxRecDepth 20000 in
theorem gX6_segmentOfPipe_X6_segmentOf : GoodIn wsX6_segmentOfPipe (wsV RX6 96 RX6 yX6_segmentOf wsX6_segmentOf) := goodIn_app (goodIn_of _ (by decide +kernel)) ggX6_segmentOfPipe_X6_segmentOf
theorem dX6_segmentOfPipe_0 : decode cX6_segmentOfPipe 0 = .ok (.aload_n 0, 1) := by decide +kernel
theorem dX6_segmentOfPipe_1 : decode cX6_segmentOfPipe 1 = .ok (.aload_n 0, 1) := by decide +kernel
theorem dX6_segmentOfPipe_2 : decode cX6_segmentOfPipe 2 = .ok (.iload_n 1, 1) := by decide +kernel
theorem dX6_segmentOfPipe_3 : decode cX6_segmentOfPipe 3 = .ok (.invokevirtual 64, 3) := by decide +kernel
theorem dX6_segmentOfPipe_6 : decode cX6_segmentOfPipe 6 = .ok (.ifCond .eq 7, 3) := by decide +kernel
theorem dX6_segmentOfPipe_9 : decode cX6_segmentOfPipe 9 = .ok (.iconst 0, 1) := by decide +kernel
theorem dX6_segmentOfPipe_10 : decode cX6_segmentOfPipe 10 = .ok (.goto 4, 3) := by decide +kernel
theorem dX6_segmentOfPipe_13 : decode cX6_segmentOfPipe 13 = .ok (.iconst 1, 1) := by decide +kernel
theorem dX6_segmentOfPipe_14 : decode cX6_segmentOfPipe 14 = .ok (.invokevirtual 54, 3) := by decide +kernel
theorem dX6_segmentOfPipe_17 : decode cX6_segmentOfPipe 17 = .ok (.ifCond .eq 7, 3) := by decide +kernel
theorem dX6_segmentOfPipe_20 : decode cX6_segmentOfPipe 20 = .ok (.iconst 0, 1) := by decide +kernel
theorem dX6_segmentOfPipe_21 : decode cX6_segmentOfPipe 21 = .ok (.goto 11, 3) := by decide +kernel
theorem dX6_segmentOfPipe_24 : decode cX6_segmentOfPipe 24 = .ok (.aload_n 0, 1) := by decide +kernel
theorem dX6_segmentOfPipe_25 : decode cX6_segmentOfPipe 25 = .ok (.iload_n 1, 1) := by decide +kernel
theorem dX6_segmentOfPipe_26 : decode cX6_segmentOfPipe 26 = .ok (.invokestatic 80, 3) := by decide +kernel
theorem dX6_segmentOfPipe_29 : decode cX6_segmentOfPipe 29 = .ok (.invokevirtual 96, 3) := by decide +kernel
theorem dX6_segmentOfPipe_32 : decode cX6_segmentOfPipe 32 = .ok (.ireturn, 1) := by decide +kernel
set_option maxRecDepth 20000 in
theorem ggX6_segmentByMerging_X6_segmentOfPipe : GoodIn wsX6_segmentByMerging wsX6_segmentOfPipe := goodIn_r _ [5, 6, 7, 8, 4, 9, 10, 11, 12, 13, 14, 15, 16, 17, 18, 19, 20, 21, 22, 23, 24, 25, 26, 27, 28, 29, 30, 31, 32, 33, 34, 35, 36, 37, 38, 39, 40, 41, 42, 43, 44, 45, 46, 47, 48, 49, 50, 51, 52, 53, 54, 55] (by decide +kernel) (by decide +kernel)
set_option maxRecDepth 20000 in
theorem gX6_segmentByMerging_X6_segmentOfPipe : GoodIn wsX6_segmentByMerging (wsV RX6 99 RX6 yX6_segmentOfPipe wsX6_segmentOfPipe) := goodIn_app (goodIn_of _ (by decide +kernel)) ggX6_segmentByMerging_X6_segmentOfPipe
theorem dX6_segmentByMerging_0 : decode cX6_segmentByMerging 0 = .ok (.aload_n 0, 1) := by decide +kernel
theorem dX6_segmentByMerging_1 : decode cX6_segmentByMerging 1 = .ok (.iload_n 1, 1) := by decide +kernel
theorem dX6_segmentByMerging_2 : decode cX6_segmentByMerging 2 = .ok (.invokevirtual 99, 3) := by decide +kernel
theorem dX6_segmentByMerging_5 : decode cX6_segmentByMerging 5 = .ok (.ireturn, 1) := by decide +kernel
set_option maxRecDepth 20000 in
theorem ggX6_ringOf_X6_partOf : GoodIn wsX6_ringOf wsX6_partOf := goodIn_r _ [9] (by decide +kernel) (by decide +kernel)
set_option maxRecDepth 20000 in
theorem gX6_ringOf_X6_partOf : GoodIn wsX6_ringOf (va_wsS RX6 80 yX6_partOf wsX6_partOf) := goodIn_app (goodIn_of _ (by decide +kernel)) ggX6_ringOf_X6_partOf
set_option maxRecDepth 20000 in
theorem ggX6_ringOf_X6_spread : GoodIn wsX6_ringOf wsX6_spread := goodIn_r _ [13, 14, 3, 6, 7, 8, 9, 15, 16, 17, 18, 19, 4, 5, 20, 21, 22, 23, 24, 25, 26, 27, 28, 29, 30, 31, 32, 33, 34, 35, 36] (by decide +kernel) (by decide +kernel)
set_option maxRecDepth 20000 in
theorem gX6_ringOf_X6_spread : GoodIn wsX6_ringOf (wsV RX6 86 RX6 yX6_spread wsX6_spread) := goodIn_app (goodIn_of _ (by decide +kernel)) ggX6_ringOf_X6_spread
theorem dX6_ringOf_0 : decode cX6_ringOf 0 = .ok (.aload_n 0, 1) := by decide +kernel
theorem dX6_ringOf_1 : decode cX6_ringOf 1 = .ok (.iload_n 1, 1) := by decide +kernel
theorem dX6_ringOf_2 : decode cX6_ringOf 2 = .ok (.invokestatic 80, 3) := by decide +kernel
theorem dX6_ringOf_5 : decode cX6_ringOf 5 = .ok (.iconst 2, 1) := by decide +kernel
theorem dX6_ringOf_6 : decode cX6_ringOf 6 = .ok (.iconst 0, 1) := by decide +kernel
theorem dX6_ringOf_7 : decode cX6_ringOf 7 = .ok (.invokevirtual 86, 3) := by decide +kernel
theorem dX6_ringOf_10 : decode cX6_ringOf 10 = .ok (.istore_n 2, 1) := by decide +kernel
theorem dX6_ringOf_11 : decode cX6_ringOf 11 = .ok (.iconst 0, 1) := by decide +kernel
theorem dX6_ringOf_12 : decode cX6_ringOf 12 = .ok (.istore_n 3, 1) := by decide +kernel
theorem dX6_ringOf_13 : decode cX6_ringOf 13 = .ok (.iconst 0, 1) := by decide +kernel
theorem dX6_ringOf_14 : decode cX6_ringOf 14 = .ok (.istore 4, 2) := by decide +kernel
theorem dX6_ringOf_16 : decode cX6_ringOf 16 = .ok (.iload 4, 2) := by decide +kernel
theorem dX6_ringOf_18 : decode cX6_ringOf 18 = .ok (.aload_n 0, 1) := by decide +kernel
theorem dX6_ringOf_19 : decode cX6_ringOf 19 = .ok (.getfield 51, 3) := by decide +kernel
theorem dX6_ringOf_22 : decode cX6_ringOf 22 = .ok (.if_icmp .ge 105, 3) := by decide +kernel
theorem dX6_ringOf_25 : decode cX6_ringOf 25 = .ok (.aload_n 0, 1) := by decide +kernel
theorem dX6_ringOf_26 : decode cX6_ringOf 26 = .ok (.getfield 22, 3) := by decide +kernel
theorem dX6_ringOf_29 : decode cX6_ringOf 29 = .ok (.iload 4, 2) := by decide +kernel
theorem dX6_ringOf_31 : decode cX6_ringOf 31 = .ok (.iaload, 1) := by decide +kernel
theorem dX6_ringOf_32 : decode cX6_ringOf 32 = .ok (.istore 5, 2) := by decide +kernel
theorem dX6_ringOf_34 : decode cX6_ringOf 34 = .ok (.iload_n 2, 1) := by decide +kernel
theorem dX6_ringOf_35 : decode cX6_ringOf 35 = .ok (.iload 5, 2) := by decide +kernel
theorem dX6_ringOf_37 : decode cX6_ringOf 37 = .ok (.iconst 2, 1) := by decide +kernel
theorem dX6_ringOf_38 : decode cX6_ringOf 38 = .ok (.idiv, 1) := by decide +kernel
theorem dX6_ringOf_39 : decode cX6_ringOf 39 = .ok (.invokestatic 80, 3) := by decide +kernel
theorem dX6_ringOf_42 : decode cX6_ringOf 42 = .ok (.iand, 1) := by decide +kernel
theorem dX6_ringOf_43 : decode cX6_ringOf 43 = .ok (.ifCond .eq 7, 3) := by decide +kernel
theorem dX6_ringOf_46 : decode cX6_ringOf 46 = .ok (.iconst 1, 1) := by decide +kernel
theorem dX6_ringOf_47 : decode cX6_ringOf 47 = .ok (.goto 4, 3) := by decide +kernel
theorem dX6_ringOf_50 : decode cX6_ringOf 50 = .ok (.iconst 0, 1) := by decide +kernel
theorem dX6_ringOf_51 : decode cX6_ringOf 51 = .ok (.istore 6, 2) := by decide +kernel
theorem dX6_ringOf_53 : decode cX6_ringOf 53 = .ok (.iload_n 2, 1) := by decide +kernel
theorem dX6_ringOf_54 : decode cX6_ringOf 54 = .ok (.iconst 1, 1) := by decide +kernel
theorem dX6_ringOf_55 : decode cX6_ringOf 55 = .ok (.aload_n 0, 1) := by decide +kernel
theorem dX6_ringOf_56 : decode cX6_ringOf 56 = .ok (.getfield 7, 3) := by decide +kernel
theorem dX6_ringOf_59 : decode cX6_ringOf 59 = .ok (.iload 5, 2) := by decide +kernel
theorem dX6_ringOf_61 : decode cX6_ringOf 61 = .ok (.iaload, 1) := by decide +kernel
theorem dX6_ringOf_62 : decode cX6_ringOf 62 = .ok (.ishl, 1) := by decide +kernel
theorem dX6_ringOf_63 : decode cX6_ringOf 63 = .ok (.iand, 1) := by decide +kernel
theorem dX6_ringOf_64 : decode cX6_ringOf 64 = .ok (.ifCond .eq 7, 3) := by decide +kernel
theorem dX6_ringOf_67 : decode cX6_ringOf 67 = .ok (.iconst 1, 1) := by decide +kernel
theorem dX6_ringOf_68 : decode cX6_ringOf 68 = .ok (.goto 4, 3) := by decide +kernel
theorem dX6_ringOf_71 : decode cX6_ringOf 71 = .ok (.iconst 0, 1) := by decide +kernel
theorem dX6_ringOf_72 : decode cX6_ringOf 72 = .ok (.istore 7, 2) := by decide +kernel
theorem dX6_ringOf_74 : decode cX6_ringOf 74 = .ok (.aload_n 0, 1) := by decide +kernel
theorem dX6_ringOf_75 : decode cX6_ringOf 75 = .ok (.getfield 73, 3) := by decide +kernel
theorem dX6_ringOf_78 : decode cX6_ringOf 78 = .ok (.aload_n 0, 1) := by decide +kernel
theorem dX6_ringOf_79 : decode cX6_ringOf 79 = .ok (.getfield 70, 3) := by decide +kernel
theorem dX6_ringOf_82 : decode cX6_ringOf 82 = .ok (.ior, 1) := by decide +kernel
theorem dX6_ringOf_83 : decode cX6_ringOf 83 = .ok (.iload 4, 2) := by decide +kernel
theorem dX6_ringOf_85 : decode cX6_ringOf 85 = .ok (.ishr, 1) := by decide +kernel
theorem dX6_ringOf_86 : decode cX6_ringOf 86 = .ok (.iconst 1, 1) := by decide +kernel
theorem dX6_ringOf_87 : decode cX6_ringOf 87 = .ok (.iand, 1) := by decide +kernel
theorem dX6_ringOf_88 : decode cX6_ringOf 88 = .ok (.ifCond .ne 7, 3) := by decide +kernel
theorem dX6_ringOf_91 : decode cX6_ringOf 91 = .ok (.iconst 1, 1) := by decide +kernel
theorem dX6_ringOf_92 : decode cX6_ringOf 92 = .ok (.goto 4, 3) := by decide +kernel
theorem dX6_ringOf_95 : decode cX6_ringOf 95 = .ok (.iconst 0, 1) := by decide +kernel
theorem dX6_ringOf_96 : decode cX6_ringOf 96 = .ok (.istore 8, 2) := by decide +kernel
theorem dX6_ringOf_98 : decode cX6_ringOf 98 = .ok (.iload_n 3, 1) := by decide +kernel
theorem dX6_ringOf_99 : decode cX6_ringOf 99 = .ok (.iload 8, 2) := by decide +kernel
theorem dX6_ringOf_101 : decode cX6_ringOf 101 = .ok (.ifCond .eq 17, 3) := by decide +kernel
theorem dX6_ringOf_104 : decode cX6_ringOf 104 = .ok (.iload 6, 2) := by decide +kernel
theorem dX6_ringOf_106 : decode cX6_ringOf 106 = .ok (.iload 7, 2) := by decide +kernel
theorem dX6_ringOf_108 : decode cX6_ringOf 108 = .ok (.if_icmp .eq 10, 3) := by decide +kernel
theorem dX6_ringOf_111 : decode cX6_ringOf 111 = .ok (.iconst 1, 1) := by decide +kernel
theorem dX6_ringOf_112 : decode cX6_ringOf 112 = .ok (.iload 4, 2) := by decide +kernel
theorem dX6_ringOf_114 : decode cX6_ringOf 114 = .ok (.ishl, 1) := by decide +kernel
theorem dX6_ringOf_115 : decode cX6_ringOf 115 = .ok (.goto 4, 3) := by decide +kernel
theorem dX6_ringOf_118 : decode cX6_ringOf 118 = .ok (.iconst 0, 1) := by decide +kernel
theorem dX6_ringOf_119 : decode cX6_ringOf 119 = .ok (.ior, 1) := by decide +kernel
theorem dX6_ringOf_120 : decode cX6_ringOf 120 = .ok (.istore_n 3, 1) := by decide +kernel
theorem dX6_ringOf_121 : decode cX6_ringOf 121 = .ok (.iinc 4 1, 3) := by decide +kernel
theorem dX6_ringOf_124 : decode cX6_ringOf 124 = .ok (.goto (-108), 3) := by decide +kernel
theorem dX6_ringOf_127 : decode cX6_ringOf 127 = .ok (.iload_n 3, 1) := by decide +kernel
theorem dX6_ringOf_128 : decode cX6_ringOf 128 = .ok (.ireturn, 1) := by decide +kernel
set_option maxRecDepth 20000 in
theorem ggX6_noRing_X6_isPipe : GoodIn wsX6_noRing wsX6_isPipe := goodIn_r _ [6, 7, 8, 9, 5, 10, 31, 32, 33, 34, 35, 36, 37, 38, 39, 40, 41, 42, 43, 44, 45, 46, 47] (by decide +kernel) (by decide +kernel)
set_option maxRecDepth 20000 in
theorem gX6_noRing_X6_isPipe : GoodIn wsX6_noRing (wsV RX6 64 RX6 yX6_isPipe wsX6_isPipe) := goodIn_app (goodIn_of _ (by decide +kernel)) ggX6_noRing_X6_isPipe
set_option maxRecDepth 20000 in
theorem ggX6_noRing_X6_partOf : GoodIn wsX6_noRing wsX6_partOf := goodIn_r _ [13] (by decide +kernel) (by decide +kernel)
set_option maxRecDepth 20000 in
theorem gX6_noRing_X6_partOf : GoodIn wsX6_noRing (va_wsS RX6 80 yX6_partOf wsX6_partOf) := goodIn_app (goodIn_of _ (by decide +kernel)) ggX6_noRing_X6_partOf
set_option maxRecDepth 20000 in
theorem ggX6_noRing_X6_spread : GoodIn wsX6_noRing wsX6_spread := goodIn_r _ [17, 7, 18, 11, 12, 5, 13, 19, 20, 21, 22, 23, 24, 25, 31, 32, 33, 34, 35, 36, 37, 38, 39, 40, 41, 42, 43, 44, 45, 46, 47] (by decide +kernel) (by decide +kernel)
set_option maxRecDepth 20000 in
theorem gX6_noRing_X6_spread : GoodIn wsX6_noRing (wsV RX6 86 RX6 yX6_spread wsX6_spread) := goodIn_app (goodIn_of _ (by decide +kernel)) ggX6_noRing_X6_spread
set_option maxRecDepth 20000 in
theorem ggX6_noRing_X6_refused : GoodIn wsX6_noRing wsX6_refused := goodIn_r _ [29, 30, 31, 32, 33, 34, 35, 36, 37, 38, 39, 40, 41, 42, 43, 44, 45, 46, 47] (by decide +kernel) (by decide +kernel)
set_option maxRecDepth 20000 in
theorem gX6_noRing_X6_refused : GoodIn wsX6_noRing (wsV RX6 54 RX6 yX6_refused wsX6_refused) := goodIn_app (goodIn_of _ (by decide +kernel)) ggX6_noRing_X6_refused
theorem dX6_noRing_0 : decode cX6_noRing 0 = .ok (.aload_n 0, 1) := by decide +kernel
theorem dX6_noRing_1 : decode cX6_noRing 1 = .ok (.aload_n 0, 1) := by decide +kernel
theorem dX6_noRing_2 : decode cX6_noRing 2 = .ok (.iload_n 1, 1) := by decide +kernel
theorem dX6_noRing_3 : decode cX6_noRing 3 = .ok (.invokevirtual 64, 3) := by decide +kernel
theorem dX6_noRing_6 : decode cX6_noRing 6 = .ok (.ifCond .ne 7, 3) := by decide +kernel
theorem dX6_noRing_9 : decode cX6_noRing 9 = .ok (.iconst 1, 1) := by decide +kernel
theorem dX6_noRing_10 : decode cX6_noRing 10 = .ok (.goto 26, 3) := by decide +kernel
theorem dX6_noRing_13 : decode cX6_noRing 13 = .ok (.aload_n 0, 1) := by decide +kernel
theorem dX6_noRing_14 : decode cX6_noRing 14 = .ok (.iload_n 1, 1) := by decide +kernel
theorem dX6_noRing_15 : decode cX6_noRing 15 = .ok (.invokestatic 80, 3) := by decide +kernel
theorem dX6_noRing_18 : decode cX6_noRing 18 = .ok (.iconst 2, 1) := by decide +kernel
theorem dX6_noRing_19 : decode cX6_noRing 19 = .ok (.iconst 0, 1) := by decide +kernel
theorem dX6_noRing_20 : decode cX6_noRing 20 = .ok (.invokevirtual 86, 3) := by decide +kernel
theorem dX6_noRing_23 : decode cX6_noRing 23 = .ok (.aload_n 0, 1) := by decide +kernel
theorem dX6_noRing_24 : decode cX6_noRing 24 = .ok (.getfield 58, 3) := by decide +kernel
theorem dX6_noRing_27 : decode cX6_noRing 27 = .ok (.iand, 1) := by decide +kernel
theorem dX6_noRing_28 : decode cX6_noRing 28 = .ok (.ifCond .eq 7, 3) := by decide +kernel
theorem dX6_noRing_31 : decode cX6_noRing 31 = .ok (.iconst 2, 1) := by decide +kernel
theorem dX6_noRing_32 : decode cX6_noRing 32 = .ok (.goto 4, 3) := by decide +kernel
theorem dX6_noRing_35 : decode cX6_noRing 35 = .ok (.iconst 0, 1) := by decide +kernel
theorem dX6_noRing_36 : decode cX6_noRing 36 = .ok (.invokevirtual 54, 3) := by decide +kernel
theorem dX6_noRing_39 : decode cX6_noRing 39 = .ok (.ireturn, 1) := by decide +kernel
set_option maxRecDepth 20000 in
theorem ggX6_ring_X6_noRing : GoodIn wsX6_ring wsX6_noRing := goodIn_r _ [5, 6, 7, 8, 9, 4, 10, 11, 12, 13, 14, 15, 16, 17, 18, 19, 20, 21, 22, 23, 24, 25, 26, 27, 28, 29, 30, 31, 32, 33, 34, 41, 42, 43, 44, 45, 46, 47, 48, 49, 50, 51, 52, 53, 54, 55, 56, 57] (by decide +kernel) (by decide +kernel)
set_option maxRecDepth 20000 in
theorem gX6_ring_X6_noRing : GoodIn wsX6_ring (wsV RX6 102 RX6 yX6_noRing wsX6_noRing) := goodIn_app (goodIn_of _ (by decide +kernel)) ggX6_ring_X6_noRing
set_option maxRecDepth 20000 in
theorem ggX6_ring_X6_ringOf : GoodIn wsX6_ring wsX6_ringOf := goodIn_r _ [38, 39, 40, 22, 28, 29, 15, 16, 4, 17, 18, 19, 20, 21, 11, 23, 24, 25, 26, 27, 41, 42, 43, 44, 45, 46, 47, 48, 49, 50, 51, 52, 53, 54, 55, 56, 57] (by decide +kernel) (by decide +kernel)
set_option maxRecDepth 20000 in
theorem gX6_ring_X6_ringOf : GoodIn wsX6_ring (wsV RX6 105 RX6 yX6_ringOf wsX6_ringOf) := goodIn_app (goodIn_of _ (by decide +kernel)) ggX6_ring_X6_ringOf
theorem dX6_ring_0 : decode cX6_ring 0 = .ok (.aload_n 0, 1) := by decide +kernel
theorem dX6_ring_1 : decode cX6_ring 1 = .ok (.iload_n 1, 1) := by decide +kernel
theorem dX6_ring_2 : decode cX6_ring 2 = .ok (.invokevirtual 102, 3) := by decide +kernel
theorem dX6_ring_5 : decode cX6_ring 5 = .ok (.ifCond .eq 7, 3) := by decide +kernel
theorem dX6_ring_8 : decode cX6_ring 8 = .ok (.iconst 0, 1) := by decide +kernel
theorem dX6_ring_9 : decode cX6_ring 9 = .ok (.goto 8, 3) := by decide +kernel
theorem dX6_ring_12 : decode cX6_ring 12 = .ok (.aload_n 0, 1) := by decide +kernel
theorem dX6_ring_13 : decode cX6_ring 13 = .ok (.iload_n 1, 1) := by decide +kernel
theorem dX6_ring_14 : decode cX6_ring 14 = .ok (.invokevirtual 105, 3) := by decide +kernel
theorem dX6_ring_17 : decode cX6_ring 17 = .ok (.ireturn, 1) := by decide +kernel
set_option maxRecDepth 20000 in
theorem ggX6_cutOff_X6_noRing : GoodIn wsX6_cutOff wsX6_noRing := goodIn_r _ [5, 6, 7, 8, 9, 4, 10, 11, 12, 13, 14, 15, 16, 17, 18, 19, 20, 21, 22, 23, 24, 25, 26, 27, 28, 29, 30, 31, 32, 33, 34, 50, 51, 52, 53, 54, 55, 56, 57, 58, 59, 60, 61, 62, 63, 64, 65, 66] (by decide +kernel) (by decide +kernel)
set_option maxRecDepth 20000 in
theorem gX6_cutOff_X6_noRing : GoodIn wsX6_cutOff (wsV RX6 102 RX6 yX6_noRing wsX6_noRing) := goodIn_app (goodIn_of _ (by decide +kernel)) ggX6_cutOff_X6_noRing
set_option maxRecDepth 20000 in
theorem ggX6_cutOff_X6_wet : GoodIn wsX6_cutOff wsX6_wet := goodIn_r _ [38, 6, 18, 19, 20, 4, 21, 11, 22, 15, 16, 17, 23, 24, 25, 26, 27, 28, 29, 50, 51, 52, 53, 54, 55, 56, 57, 58, 59, 60, 61, 62, 63, 64, 65, 66] (by decide +kernel) (by decide +kernel)
set_option maxRecDepth 20000 in
theorem gX6_cutOff_X6_wet : GoodIn wsX6_cutOff (wsV RX6 90 RX6 yX6_wet wsX6_wet) := goodIn_app (goodIn_of _ (by decide +kernel)) ggX6_cutOff_X6_wet
set_option maxRecDepth 20000 in
theorem ggX6_cutOff_X6_supply : GoodIn wsX6_cutOff wsX6_supply := goodIn_r _ [42, 11, 43, 15, 16, 4, 17, 50, 51, 52, 53, 54, 55, 56, 57, 58, 59, 60, 61, 62, 63, 64, 65, 66] (by decide +kernel) (by decide +kernel)
set_option maxRecDepth 20000 in
theorem gX6_cutOff_X6_supply : GoodIn wsX6_cutOff (wsV RX6 93 RX6 yX6_supply wsX6_supply) := goodIn_app (goodIn_of _ (by decide +kernel)) ggX6_cutOff_X6_supply
set_option maxRecDepth 20000 in
theorem ggX6_cutOff_X6_ringOf : GoodIn wsX6_cutOff wsX6_ringOf := goodIn_r _ [47, 48, 49, 22, 28, 29, 15, 16, 4, 17, 18, 19, 20, 21, 11, 23, 24, 25, 26, 27, 50, 51, 52, 53, 54, 55, 56, 57, 58, 59, 60, 61, 62, 63, 64, 65, 66] (by decide +kernel) (by decide +kernel)
set_option maxRecDepth 20000 in
theorem gX6_cutOff_X6_ringOf : GoodIn wsX6_cutOff (wsV RX6 105 RX6 yX6_ringOf wsX6_ringOf) := goodIn_app (goodIn_of _ (by decide +kernel)) ggX6_cutOff_X6_ringOf
theorem dX6_cutOff_0 : decode cX6_cutOff 0 = .ok (.aload_n 0, 1) := by decide +kernel
theorem dX6_cutOff_1 : decode cX6_cutOff 1 = .ok (.iload_n 1, 1) := by decide +kernel
theorem dX6_cutOff_2 : decode cX6_cutOff 2 = .ok (.invokevirtual 102, 3) := by decide +kernel
theorem dX6_cutOff_5 : decode cX6_cutOff 5 = .ok (.ifCond .eq 7, 3) := by decide +kernel
theorem dX6_cutOff_8 : decode cX6_cutOff 8 = .ok (.iconst 0, 1) := by decide +kernel
theorem dX6_cutOff_9 : decode cX6_cutOff 9 = .ok (.goto 26, 3) := by decide +kernel
theorem dX6_cutOff_12 : decode cX6_cutOff 12 = .ok (.aload_n 0, 1) := by decide +kernel
theorem dX6_cutOff_13 : decode cX6_cutOff 13 = .ok (.aload_n 0, 1) := by decide +kernel
theorem dX6_cutOff_14 : decode cX6_cutOff 14 = .ok (.iconst 0, 1) := by decide +kernel
theorem dX6_cutOff_15 : decode cX6_cutOff 15 = .ok (.invokevirtual 90, 3) := by decide +kernel
theorem dX6_cutOff_18 : decode cX6_cutOff 18 = .ok (.invokevirtual 93, 3) := by decide +kernel
theorem dX6_cutOff_21 : decode cX6_cutOff 21 = .ok (.aload_n 0, 1) := by decide +kernel
theorem dX6_cutOff_22 : decode cX6_cutOff 22 = .ok (.aload_n 0, 1) := by decide +kernel
theorem dX6_cutOff_23 : decode cX6_cutOff 23 = .ok (.aload_n 0, 1) := by decide +kernel
theorem dX6_cutOff_24 : decode cX6_cutOff 24 = .ok (.iload_n 1, 1) := by decide +kernel
theorem dX6_cutOff_25 : decode cX6_cutOff 25 = .ok (.invokevirtual 105, 3) := by decide +kernel
theorem dX6_cutOff_28 : decode cX6_cutOff 28 = .ok (.invokevirtual 90, 3) := by decide +kernel
theorem dX6_cutOff_31 : decode cX6_cutOff 31 = .ok (.invokevirtual 93, 3) := by decide +kernel
theorem dX6_cutOff_34 : decode cX6_cutOff 34 = .ok (.isub, 1) := by decide +kernel
theorem dX6_cutOff_35 : decode cX6_cutOff 35 = .ok (.ireturn, 1) := by decide +kernel
set_option maxRecDepth 20000 in
theorem ggX6_least_X6_bits : GoodIn wsX6_least wsX6_bits := goodIn_r _ [7] (by decide +kernel) (by decide +kernel)
set_option maxRecDepth 20000 in
theorem gX6_least_X6_bits : GoodIn wsX6_least (va_wsS RX6 108 yX6_bits wsX6_bits) := goodIn_app (goodIn_of _ (by decide +kernel)) ggX6_least_X6_bits
set_option maxRecDepth 20000 in
theorem ggX6_least_X6_wet : GoodIn wsX6_least wsX6_wet := goodIn_r _ [11, 12, 13, 14, 15, 6, 16, 17, 18, 19, 20, 21, 22, 23, 24, 25, 26, 2, 3, 27, 28, 29, 30, 31, 32, 33, 34, 35, 36, 37, 38, 39, 40, 41, 42, 43] (by decide +kernel) (by decide +kernel)
set_option maxRecDepth 20000 in
theorem gX6_least_X6_wet : GoodIn wsX6_least (wsV RX6 90 RX6 yX6_wet wsX6_wet) := goodIn_app (goodIn_of _ (by decide +kernel)) ggX6_least_X6_wet
set_option maxRecDepth 20000 in
theorem ggX6_least_X6_partOf : GoodIn wsX6_least wsX6_partOf := goodIn_r _ [21] (by decide +kernel) (by decide +kernel)
set_option maxRecDepth 20000 in
theorem gX6_least_X6_partOf : GoodIn wsX6_least (va_wsS RX6 80 yX6_partOf wsX6_partOf) := goodIn_app (goodIn_of _ (by decide +kernel)) ggX6_least_X6_partOf
theorem dX6_least_0 : decode cX6_least 0 = .ok (.iconst (-1), 1) := by decide +kernel
theorem dX6_least_1 : decode cX6_least 1 = .ok (.istore_n 2, 1) := by decide +kernel
theorem dX6_least_2 : decode cX6_least 2 = .ok (.iconst 0, 1) := by decide +kernel
theorem dX6_least_3 : decode cX6_least 3 = .ok (.istore_n 3, 1) := by decide +kernel
theorem dX6_least_4 : decode cX6_least 4 = .ok (.iload_n 3, 1) := by decide +kernel
theorem dX6_least_5 : decode cX6_least 5 = .ok (.iconst 1, 1) := by decide +kernel
theorem dX6_least_6 : decode cX6_least 6 = .ok (.aload_n 0, 1) := by decide +kernel
theorem dX6_least_7 : decode cX6_least 7 = .ok (.getfield 51, 3) := by decide +kernel
theorem dX6_least_10 : decode cX6_least 10 = .ok (.ishl, 1) := by decide +kernel
theorem dX6_least_11 : decode cX6_least 11 = .ok (.if_icmp .ge 66, 3) := by decide +kernel
theorem dX6_least_14 : decode cX6_least 14 = .ok (.iload_n 3, 1) := by decide +kernel
theorem dX6_least_15 : decode cX6_least 15 = .ok (.aload_n 0, 1) := by decide +kernel
theorem dX6_least_16 : decode cX6_least 16 = .ok (.getfield 73, 3) := by decide +kernel
theorem dX6_least_19 : decode cX6_least 19 = .ok (.aload_n 0, 1) := by decide +kernel
theorem dX6_least_20 : decode cX6_least 20 = .ok (.getfield 70, 3) := by decide +kernel
theorem dX6_least_23 : decode cX6_least 23 = .ok (.ior, 1) := by decide +kernel
theorem dX6_least_24 : decode cX6_least 24 = .ok (.iand, 1) := by decide +kernel
theorem dX6_least_25 : decode cX6_least 25 = .ok (.ifCond .ne 7, 3) := by decide +kernel
theorem dX6_least_28 : decode cX6_least 28 = .ok (.iconst 1, 1) := by decide +kernel
theorem dX6_least_29 : decode cX6_least 29 = .ok (.goto 4, 3) := by decide +kernel
theorem dX6_least_32 : decode cX6_least 32 = .ok (.iconst 0, 1) := by decide +kernel
theorem dX6_least_33 : decode cX6_least 33 = .ok (.istore 4, 2) := by decide +kernel
theorem dX6_least_35 : decode cX6_least 35 = .ok (.iload 4, 2) := by decide +kernel
theorem dX6_least_37 : decode cX6_least 37 = .ok (.ifCond .eq 34, 3) := by decide +kernel
theorem dX6_least_40 : decode cX6_least 40 = .ok (.iload_n 2, 1) := by decide +kernel
theorem dX6_least_41 : decode cX6_least 41 = .ok (.iconst (-1), 1) := by decide +kernel
theorem dX6_least_42 : decode cX6_least 42 = .ok (.if_icmp .eq 14, 3) := by decide +kernel
theorem dX6_least_45 : decode cX6_least 45 = .ok (.iload_n 3, 1) := by decide +kernel
theorem dX6_least_46 : decode cX6_least 46 = .ok (.invokestatic 108, 3) := by decide +kernel
theorem dX6_least_49 : decode cX6_least 49 = .ok (.iload_n 2, 1) := by decide +kernel
theorem dX6_least_50 : decode cX6_least 50 = .ok (.invokestatic 108, 3) := by decide +kernel
theorem dX6_least_53 : decode cX6_least 53 = .ok (.if_icmp .ge 18, 3) := by decide +kernel
theorem dX6_least_56 : decode cX6_least 56 = .ok (.aload_n 0, 1) := by decide +kernel
theorem dX6_least_57 : decode cX6_least 57 = .ok (.iload_n 3, 1) := by decide +kernel
theorem dX6_least_58 : decode cX6_least 58 = .ok (.invokevirtual 90, 3) := by decide +kernel
theorem dX6_least_61 : decode cX6_least 61 = .ok (.iload_n 1, 1) := by decide +kernel
theorem dX6_least_62 : decode cX6_least 62 = .ok (.invokestatic 80, 3) := by decide +kernel
theorem dX6_least_65 : decode cX6_least 65 = .ok (.iand, 1) := by decide +kernel
theorem dX6_least_66 : decode cX6_least 66 = .ok (.ifCond .ne 5, 3) := by decide +kernel
theorem dX6_least_69 : decode cX6_least 69 = .ok (.iload_n 3, 1) := by decide +kernel
theorem dX6_least_70 : decode cX6_least 70 = .ok (.istore_n 2, 1) := by decide +kernel
theorem dX6_least_71 : decode cX6_least 71 = .ok (.iinc 3 1, 3) := by decide +kernel
theorem dX6_least_74 : decode cX6_least 74 = .ok (.goto (-70), 3) := by decide +kernel
theorem dX6_least_77 : decode cX6_least 77 = .ok (.iload_n 2, 1) := by decide +kernel
theorem dX6_least_78 : decode cX6_least 78 = .ok (.ireturn, 1) := by decide +kernel
set_option maxRecDepth 20000 in
theorem ggX6_fewest_X6_isPipe : GoodIn wsX6_fewest wsX6_isPipe := goodIn_r _ [5, 6, 7, 8, 4, 9, 43, 44, 45, 46, 47, 48, 49, 50, 51, 52, 53, 54, 55, 56, 57, 58, 59] (by decide +kernel) (by decide +kernel)
set_option maxRecDepth 20000 in
theorem gX6_fewest_X6_isPipe : GoodIn wsX6_fewest (wsV RX6 64 RX6 yX6_isPipe wsX6_isPipe) := goodIn_app (goodIn_of _ (by decide +kernel)) ggX6_fewest_X6_isPipe
set_option maxRecDepth 20000 in
theorem ggX6_fewest_X6_refused : GoodIn wsX6_fewest wsX6_refused := goodIn_r _ [13, 14, 43, 44, 45, 46, 47, 48, 49, 50, 51, 52, 53, 54, 55, 56, 57, 58, 59] (by decide +kernel) (by decide +kernel)
set_option maxRecDepth 20000 in
theorem gX6_fewest_X6_refused : GoodIn wsX6_fewest (wsV RX6 54 RX6 yX6_refused wsX6_refused) := goodIn_app (goodIn_of _ (by decide +kernel)) ggX6_fewest_X6_refused
set_option maxRecDepth 20000 in
theorem ggX6_fewest_X6_least : GoodIn wsX6_fewest wsX6_least := goodIn_r _ [18, 19, 20, 21, 22, 23, 4, 24, 25, 26, 27, 28, 29, 30, 31, 32, 33, 6, 34, 35, 36, 37, 38, 39, 40, 41, 42, 43, 44, 45, 46, 47, 48, 49, 50, 51, 52, 53, 54, 55, 56, 57, 58, 59] (by decide +kernel) (by decide +kernel)
set_option maxRecDepth 20000 in
theorem gX6_fewest_X6_least : GoodIn wsX6_fewest (wsV RX6 111 RX6 yX6_least wsX6_least) := goodIn_app (goodIn_of _ (by decide +kernel)) ggX6_fewest_X6_least
set_option maxRecDepth 20000 in
theorem ggX6_fewest_X6_bits : GoodIn wsX6_fewest wsX6_bits := goodIn_r _ [24] (by decide +kernel) (by decide +kernel)
set_option maxRecDepth 20000 in
theorem gX6_fewest_X6_bits : GoodIn wsX6_fewest (va_wsS RX6 108 yX6_bits wsX6_bits) := goodIn_app (goodIn_of _ (by decide +kernel)) ggX6_fewest_X6_bits
theorem dX6_fewest_0 : decode cX6_fewest 0 = .ok (.aload_n 0, 1) := by decide +kernel
theorem dX6_fewest_1 : decode cX6_fewest 1 = .ok (.aload_n 0, 1) := by decide +kernel
theorem dX6_fewest_2 : decode cX6_fewest 2 = .ok (.iload_n 1, 1) := by decide +kernel
theorem dX6_fewest_3 : decode cX6_fewest 3 = .ok (.invokevirtual 64, 3) := by decide +kernel
theorem dX6_fewest_6 : decode cX6_fewest 6 = .ok (.ifCond .eq 7, 3) := by decide +kernel
theorem dX6_fewest_9 : decode cX6_fewest 9 = .ok (.iconst 0, 1) := by decide +kernel
theorem dX6_fewest_10 : decode cX6_fewest 10 = .ok (.goto 4, 3) := by decide +kernel
theorem dX6_fewest_13 : decode cX6_fewest 13 = .ok (.iconst 1, 1) := by decide +kernel
theorem dX6_fewest_14 : decode cX6_fewest 14 = .ok (.invokevirtual 54, 3) := by decide +kernel
theorem dX6_fewest_17 : decode cX6_fewest 17 = .ok (.ifCond .eq 5, 3) := by decide +kernel
theorem dX6_fewest_20 : decode cX6_fewest 20 = .ok (.iconst 0, 1) := by decide +kernel
theorem dX6_fewest_21 : decode cX6_fewest 21 = .ok (.ireturn, 1) := by decide +kernel
theorem dX6_fewest_22 : decode cX6_fewest 22 = .ok (.aload_n 0, 1) := by decide +kernel
theorem dX6_fewest_23 : decode cX6_fewest 23 = .ok (.iload_n 1, 1) := by decide +kernel
theorem dX6_fewest_24 : decode cX6_fewest 24 = .ok (.invokevirtual 111, 3) := by decide +kernel
theorem dX6_fewest_27 : decode cX6_fewest 27 = .ok (.istore_n 2, 1) := by decide +kernel
theorem dX6_fewest_28 : decode cX6_fewest 28 = .ok (.iload_n 2, 1) := by decide +kernel
theorem dX6_fewest_29 : decode cX6_fewest 29 = .ok (.iconst (-1), 1) := by decide +kernel
theorem dX6_fewest_30 : decode cX6_fewest 30 = .ok (.if_icmp .ne 7, 3) := by decide +kernel
theorem dX6_fewest_33 : decode cX6_fewest 33 = .ok (.iconst (-1), 1) := by decide +kernel
theorem dX6_fewest_34 : decode cX6_fewest 34 = .ok (.goto 7, 3) := by decide +kernel
theorem dX6_fewest_37 : decode cX6_fewest 37 = .ok (.iload_n 2, 1) := by decide +kernel
theorem dX6_fewest_38 : decode cX6_fewest 38 = .ok (.invokestatic 108, 3) := by decide +kernel
theorem dX6_fewest_41 : decode cX6_fewest 41 = .ok (.ireturn, 1) := by decide +kernel
set_option maxRecDepth 20000 in
theorem ggX6_fewestByTrying_X6_isPipe : GoodIn wsX6_fewestByTrying wsX6_isPipe := goodIn_r _ [5, 6, 7, 8, 4, 9, 43, 44, 45, 46, 47, 48, 49, 50, 51, 52, 53, 54, 55, 56, 57, 58, 59] (by decide +kernel) (by decide +kernel)
set_option maxRecDepth 20000 in
theorem gX6_fewestByTrying_X6_isPipe : GoodIn wsX6_fewestByTrying (wsV RX6 64 RX6 yX6_isPipe wsX6_isPipe) := goodIn_app (goodIn_of _ (by decide +kernel)) ggX6_fewestByTrying_X6_isPipe
set_option maxRecDepth 20000 in
theorem ggX6_fewestByTrying_X6_refused : GoodIn wsX6_fewestByTrying wsX6_refused := goodIn_r _ [13, 14, 43, 44, 45, 46, 47, 48, 49, 50, 51, 52, 53, 54, 55, 56, 57, 58, 59] (by decide +kernel) (by decide +kernel)
set_option maxRecDepth 20000 in
theorem gX6_fewestByTrying_X6_refused : GoodIn wsX6_fewestByTrying (wsV RX6 54 RX6 yX6_refused wsX6_refused) := goodIn_app (goodIn_of _ (by decide +kernel)) ggX6_fewestByTrying_X6_refused
set_option maxRecDepth 20000 in
theorem ggX6_fewestByTrying_X6_least : GoodIn wsX6_fewestByTrying wsX6_least := goodIn_r _ [18, 19, 20, 21, 22, 23, 4, 24, 25, 26, 27, 28, 29, 30, 31, 32, 33, 6, 34, 35, 36, 37, 38, 39, 40, 41, 42, 43, 44, 45, 46, 47, 48, 49, 50, 51, 52, 53, 54, 55, 56, 57, 58, 59] (by decide +kernel) (by decide +kernel)
set_option maxRecDepth 20000 in
theorem gX6_fewestByTrying_X6_least : GoodIn wsX6_fewestByTrying (wsV RX6 111 RX6 yX6_least wsX6_least) := goodIn_app (goodIn_of _ (by decide +kernel)) ggX6_fewestByTrying_X6_least
theorem dX6_fewestByTrying_0 : decode cX6_fewestByTrying 0 = .ok (.aload_n 0, 1) := by decide +kernel
theorem dX6_fewestByTrying_1 : decode cX6_fewestByTrying 1 = .ok (.aload_n 0, 1) := by decide +kernel
theorem dX6_fewestByTrying_2 : decode cX6_fewestByTrying 2 = .ok (.iload_n 1, 1) := by decide +kernel
theorem dX6_fewestByTrying_3 : decode cX6_fewestByTrying 3 = .ok (.invokevirtual 64, 3) := by decide +kernel
theorem dX6_fewestByTrying_6 : decode cX6_fewestByTrying 6 = .ok (.ifCond .eq 7, 3) := by decide +kernel
theorem dX6_fewestByTrying_9 : decode cX6_fewestByTrying 9 = .ok (.iconst 0, 1) := by decide +kernel
theorem dX6_fewestByTrying_10 : decode cX6_fewestByTrying 10 = .ok (.goto 4, 3) := by decide +kernel
theorem dX6_fewestByTrying_13 : decode cX6_fewestByTrying 13 = .ok (.iconst 1, 1) := by decide +kernel
theorem dX6_fewestByTrying_14 : decode cX6_fewestByTrying 14 = .ok (.invokevirtual 54, 3) := by decide +kernel
theorem dX6_fewestByTrying_17 : decode cX6_fewestByTrying 17 = .ok (.ifCond .eq 7, 3) := by decide +kernel
theorem dX6_fewestByTrying_20 : decode cX6_fewestByTrying 20 = .ok (.iconst 0, 1) := by decide +kernel
theorem dX6_fewestByTrying_21 : decode cX6_fewestByTrying 21 = .ok (.goto 8, 3) := by decide +kernel
theorem dX6_fewestByTrying_24 : decode cX6_fewestByTrying 24 = .ok (.aload_n 0, 1) := by decide +kernel
theorem dX6_fewestByTrying_25 : decode cX6_fewestByTrying 25 = .ok (.iload_n 1, 1) := by decide +kernel
theorem dX6_fewestByTrying_26 : decode cX6_fewestByTrying 26 = .ok (.invokevirtual 111, 3) := by decide +kernel
theorem dX6_fewestByTrying_29 : decode cX6_fewestByTrying 29 = .ok (.ireturn, 1) := by decide +kernel
set_option maxRecDepth 20000 in
theorem ggX6_measure_X6_isOpen : GoodIn wsX6_measure wsX6_isOpen := goodIn_r _ [12, 13, 14, 15, 16, 17, 18, 19, 20, 21, 22, 23, 24, 25, 26, 27, 28, 29, 30, 31, 32] (by decide +kernel) (by decide +kernel)
set_option maxRecDepth 20000 in
theorem gX6_measure_X6_isOpen : GoodIn wsX6_measure (wsV RX6 83 RX6 yX6_isOpen wsX6_isOpen) := goodIn_app (goodIn_of _ (by decide +kernel)) ggX6_measure_X6_isOpen
theorem dX6_measure_0 : decode cX6_measure 0 = .ok (.iconst 0, 1) := by decide +kernel
theorem dX6_measure_1 : decode cX6_measure 1 = .ok (.istore_n 1, 1) := by decide +kernel
theorem dX6_measure_2 : decode cX6_measure 2 = .ok (.iload_n 1, 1) := by decide +kernel
theorem dX6_measure_3 : decode cX6_measure 3 = .ok (.aload_n 0, 1) := by decide +kernel
theorem dX6_measure_4 : decode cX6_measure 4 = .ok (.getfield 41, 3) := by decide +kernel
theorem dX6_measure_7 : decode cX6_measure 7 = .ok (.if_icmp .ge 33, 3) := by decide +kernel
theorem dX6_measure_10 : decode cX6_measure 10 = .ok (.aload_n 0, 1) := by decide +kernel
theorem dX6_measure_11 : decode cX6_measure 11 = .ok (.getfield 25, 3) := by decide +kernel
theorem dX6_measure_14 : decode cX6_measure 14 = .ok (.iload_n 1, 1) := by decide +kernel
theorem dX6_measure_15 : decode cX6_measure 15 = .ok (.aload_n 0, 1) := by decide +kernel
theorem dX6_measure_16 : decode cX6_measure 16 = .ok (.getfield 58, 3) := by decide +kernel
theorem dX6_measure_19 : decode cX6_measure 19 = .ok (.iload_n 1, 1) := by decide +kernel
theorem dX6_measure_20 : decode cX6_measure 20 = .ok (.ishr, 1) := by decide +kernel
theorem dX6_measure_21 : decode cX6_measure 21 = .ok (.iconst 1, 1) := by decide +kernel
theorem dX6_measure_22 : decode cX6_measure 22 = .ok (.iand, 1) := by decide +kernel
theorem dX6_measure_23 : decode cX6_measure 23 = .ok (.iconst 1, 1) := by decide +kernel
theorem dX6_measure_24 : decode cX6_measure 24 = .ok (.if_icmp .ne 7, 3) := by decide +kernel
theorem dX6_measure_27 : decode cX6_measure 27 = .ok (.iconst 0, 1) := by decide +kernel
theorem dX6_measure_28 : decode cX6_measure 28 = .ok (.goto 5, 3) := by decide +kernel
theorem dX6_measure_31 : decode cX6_measure 31 = .ok (.ldc 114, 2) := by decide +kernel
theorem dX6_measure_33 : decode cX6_measure 33 = .ok (.iastore, 1) := by decide +kernel
theorem dX6_measure_34 : decode cX6_measure 34 = .ok (.iinc 1 1, 3) := by decide +kernel
theorem dX6_measure_37 : decode cX6_measure 37 = .ok (.goto (-35), 3) := by decide +kernel
theorem dX6_measure_40 : decode cX6_measure 40 = .ok (.iconst 0, 1) := by decide +kernel
theorem dX6_measure_41 : decode cX6_measure 41 = .ok (.istore_n 1, 1) := by decide +kernel
theorem dX6_measure_42 : decode cX6_measure 42 = .ok (.iload_n 1, 1) := by decide +kernel
theorem dX6_measure_43 : decode cX6_measure 43 = .ok (.aload_n 0, 1) := by decide +kernel
theorem dX6_measure_44 : decode cX6_measure 44 = .ok (.getfield 41, 3) := by decide +kernel
theorem dX6_measure_47 : decode cX6_measure 47 = .ok (.if_icmp .ge 177, 3) := by decide +kernel
theorem dX6_measure_50 : decode cX6_measure 50 = .ok (.iconst 0, 1) := by decide +kernel
theorem dX6_measure_51 : decode cX6_measure 51 = .ok (.istore_n 2, 1) := by decide +kernel
theorem dX6_measure_52 : decode cX6_measure 52 = .ok (.iload_n 2, 1) := by decide +kernel
theorem dX6_measure_53 : decode cX6_measure 53 = .ok (.aload_n 0, 1) := by decide +kernel
theorem dX6_measure_54 : decode cX6_measure 54 = .ok (.getfield 48, 3) := by decide +kernel
theorem dX6_measure_57 : decode cX6_measure 57 = .ok (.if_icmp .ge 161, 3) := by decide +kernel
theorem dX6_measure_60 : decode cX6_measure 60 = .ok (.aload_n 0, 1) := by decide +kernel
theorem dX6_measure_61 : decode cX6_measure 61 = .ok (.iconst 2, 1) := by decide +kernel
theorem dX6_measure_62 : decode cX6_measure 62 = .ok (.iload_n 2, 1) := by decide +kernel
theorem dX6_measure_63 : decode cX6_measure 63 = .ok (.imul, 1) := by decide +kernel
theorem dX6_measure_64 : decode cX6_measure 64 = .ok (.iconst 0, 1) := by decide +kernel
theorem dX6_measure_65 : decode cX6_measure 65 = .ok (.iconst 0, 1) := by decide +kernel
theorem dX6_measure_66 : decode cX6_measure 66 = .ok (.invokevirtual 83, 3) := by decide +kernel
theorem dX6_measure_69 : decode cX6_measure 69 = .ok (.ifCond .eq 143, 3) := by decide +kernel
theorem dX6_measure_72 : decode cX6_measure 72 = .ok (.aload_n 0, 1) := by decide +kernel
theorem dX6_measure_73 : decode cX6_measure 73 = .ok (.iconst 2, 1) := by decide +kernel
theorem dX6_measure_74 : decode cX6_measure 74 = .ok (.iload_n 2, 1) := by decide +kernel
theorem dX6_measure_75 : decode cX6_measure 75 = .ok (.imul, 1) := by decide +kernel
theorem dX6_measure_76 : decode cX6_measure 76 = .ok (.iconst 1, 1) := by decide +kernel
theorem dX6_measure_77 : decode cX6_measure 77 = .ok (.iadd, 1) := by decide +kernel
theorem dX6_measure_78 : decode cX6_measure 78 = .ok (.iconst 0, 1) := by decide +kernel
theorem dX6_measure_79 : decode cX6_measure 79 = .ok (.iconst 0, 1) := by decide +kernel
theorem dX6_measure_80 : decode cX6_measure 80 = .ok (.invokevirtual 83, 3) := by decide +kernel
theorem dX6_measure_83 : decode cX6_measure 83 = .ok (.ifCond .eq 129, 3) := by decide +kernel
theorem dX6_measure_86 : decode cX6_measure 86 = .ok (.aload_n 0, 1) := by decide +kernel
theorem dX6_measure_87 : decode cX6_measure 87 = .ok (.getfield 7, 3) := by decide +kernel
theorem dX6_measure_90 : decode cX6_measure 90 = .ok (.iconst 2, 1) := by decide +kernel
theorem dX6_measure_91 : decode cX6_measure 91 = .ok (.iload_n 2, 1) := by decide +kernel
theorem dX6_measure_92 : decode cX6_measure 92 = .ok (.imul, 1) := by decide +kernel
theorem dX6_measure_93 : decode cX6_measure 93 = .ok (.iaload, 1) := by decide +kernel
theorem dX6_measure_94 : decode cX6_measure 94 = .ok (.istore_n 3, 1) := by decide +kernel
theorem dX6_measure_95 : decode cX6_measure 95 = .ok (.aload_n 0, 1) := by decide +kernel
theorem dX6_measure_96 : decode cX6_measure 96 = .ok (.getfield 7, 3) := by decide +kernel
theorem dX6_measure_99 : decode cX6_measure 99 = .ok (.iconst 2, 1) := by decide +kernel
theorem dX6_measure_100 : decode cX6_measure 100 = .ok (.iload_n 2, 1) := by decide +kernel
theorem dX6_measure_101 : decode cX6_measure 101 = .ok (.imul, 1) := by decide +kernel
theorem dX6_measure_102 : decode cX6_measure 102 = .ok (.iconst 1, 1) := by decide +kernel
theorem dX6_measure_103 : decode cX6_measure 103 = .ok (.iadd, 1) := by decide +kernel
theorem dX6_measure_104 : decode cX6_measure 104 = .ok (.iaload, 1) := by decide +kernel
theorem dX6_measure_105 : decode cX6_measure 105 = .ok (.istore 4, 2) := by decide +kernel
theorem dX6_measure_107 : decode cX6_measure 107 = .ok (.aload_n 0, 1) := by decide +kernel
theorem dX6_measure_108 : decode cX6_measure 108 = .ok (.getfield 25, 3) := by decide +kernel
theorem dX6_measure_111 : decode cX6_measure 111 = .ok (.iload_n 3, 1) := by decide +kernel
theorem dX6_measure_112 : decode cX6_measure 112 = .ok (.aload_n 0, 1) := by decide +kernel
theorem dX6_measure_113 : decode cX6_measure 113 = .ok (.getfield 25, 3) := by decide +kernel
theorem dX6_measure_116 : decode cX6_measure 116 = .ok (.iload 4, 2) := by decide +kernel
theorem dX6_measure_118 : decode cX6_measure 118 = .ok (.iaload, 1) := by decide +kernel
theorem dX6_measure_119 : decode cX6_measure 119 = .ok (.aload_n 0, 1) := by decide +kernel
theorem dX6_measure_120 : decode cX6_measure 120 = .ok (.getfield 16, 3) := by decide +kernel
theorem dX6_measure_123 : decode cX6_measure 123 = .ok (.iload_n 2, 1) := by decide +kernel
theorem dX6_measure_124 : decode cX6_measure 124 = .ok (.iaload, 1) := by decide +kernel
theorem dX6_measure_125 : decode cX6_measure 125 = .ok (.iadd, 1) := by decide +kernel
theorem dX6_measure_126 : decode cX6_measure 126 = .ok (.aload_n 0, 1) := by decide +kernel
theorem dX6_measure_127 : decode cX6_measure 127 = .ok (.getfield 25, 3) := by decide +kernel
theorem dX6_measure_130 : decode cX6_measure 130 = .ok (.iload_n 3, 1) := by decide +kernel
theorem dX6_measure_131 : decode cX6_measure 131 = .ok (.iaload, 1) := by decide +kernel
theorem dX6_measure_132 : decode cX6_measure 132 = .ok (.if_icmp .ge 20, 3) := by decide +kernel
theorem dX6_measure_135 : decode cX6_measure 135 = .ok (.aload_n 0, 1) := by decide +kernel
theorem dX6_measure_136 : decode cX6_measure 136 = .ok (.getfield 25, 3) := by decide +kernel
theorem dX6_measure_139 : decode cX6_measure 139 = .ok (.iload 4, 2) := by decide +kernel
theorem dX6_measure_141 : decode cX6_measure 141 = .ok (.iaload, 1) := by decide +kernel
theorem dX6_measure_142 : decode cX6_measure 142 = .ok (.aload_n 0, 1) := by decide +kernel
theorem dX6_measure_143 : decode cX6_measure 143 = .ok (.getfield 16, 3) := by decide +kernel
theorem dX6_measure_146 : decode cX6_measure 146 = .ok (.iload_n 2, 1) := by decide +kernel
theorem dX6_measure_147 : decode cX6_measure 147 = .ok (.iaload, 1) := by decide +kernel
theorem dX6_measure_148 : decode cX6_measure 148 = .ok (.iadd, 1) := by decide +kernel
theorem dX6_measure_149 : decode cX6_measure 149 = .ok (.goto 9, 3) := by decide +kernel
theorem dX6_measure_152 : decode cX6_measure 152 = .ok (.aload_n 0, 1) := by decide +kernel
theorem dX6_measure_153 : decode cX6_measure 153 = .ok (.getfield 25, 3) := by decide +kernel
theorem dX6_measure_156 : decode cX6_measure 156 = .ok (.iload_n 3, 1) := by decide +kernel
theorem dX6_measure_157 : decode cX6_measure 157 = .ok (.iaload, 1) := by decide +kernel
theorem dX6_measure_158 : decode cX6_measure 158 = .ok (.iastore, 1) := by decide +kernel
theorem dX6_measure_159 : decode cX6_measure 159 = .ok (.aload_n 0, 1) := by decide +kernel
theorem dX6_measure_160 : decode cX6_measure 160 = .ok (.getfield 25, 3) := by decide +kernel
theorem dX6_measure_163 : decode cX6_measure 163 = .ok (.iload 4, 2) := by decide +kernel
theorem dX6_measure_165 : decode cX6_measure 165 = .ok (.aload_n 0, 1) := by decide +kernel
theorem dX6_measure_166 : decode cX6_measure 166 = .ok (.getfield 25, 3) := by decide +kernel
theorem dX6_measure_169 : decode cX6_measure 169 = .ok (.iload_n 3, 1) := by decide +kernel
theorem dX6_measure_170 : decode cX6_measure 170 = .ok (.iaload, 1) := by decide +kernel
theorem dX6_measure_171 : decode cX6_measure 171 = .ok (.aload_n 0, 1) := by decide +kernel
theorem dX6_measure_172 : decode cX6_measure 172 = .ok (.getfield 16, 3) := by decide +kernel
theorem dX6_measure_175 : decode cX6_measure 175 = .ok (.iload_n 2, 1) := by decide +kernel
theorem dX6_measure_176 : decode cX6_measure 176 = .ok (.iaload, 1) := by decide +kernel
theorem dX6_measure_177 : decode cX6_measure 177 = .ok (.iadd, 1) := by decide +kernel
theorem dX6_measure_178 : decode cX6_measure 178 = .ok (.aload_n 0, 1) := by decide +kernel
theorem dX6_measure_179 : decode cX6_measure 179 = .ok (.getfield 25, 3) := by decide +kernel
theorem dX6_measure_182 : decode cX6_measure 182 = .ok (.iload 4, 2) := by decide +kernel
theorem dX6_measure_184 : decode cX6_measure 184 = .ok (.iaload, 1) := by decide +kernel
theorem dX6_measure_185 : decode cX6_measure 185 = .ok (.if_icmp .ge 19, 3) := by decide +kernel
theorem dX6_measure_188 : decode cX6_measure 188 = .ok (.aload_n 0, 1) := by decide +kernel
theorem dX6_measure_189 : decode cX6_measure 189 = .ok (.getfield 25, 3) := by decide +kernel
theorem dX6_measure_192 : decode cX6_measure 192 = .ok (.iload_n 3, 1) := by decide +kernel
theorem dX6_measure_193 : decode cX6_measure 193 = .ok (.iaload, 1) := by decide +kernel
theorem dX6_measure_194 : decode cX6_measure 194 = .ok (.aload_n 0, 1) := by decide +kernel
theorem dX6_measure_195 : decode cX6_measure 195 = .ok (.getfield 16, 3) := by decide +kernel
theorem dX6_measure_198 : decode cX6_measure 198 = .ok (.iload_n 2, 1) := by decide +kernel
theorem dX6_measure_199 : decode cX6_measure 199 = .ok (.iaload, 1) := by decide +kernel
theorem dX6_measure_200 : decode cX6_measure 200 = .ok (.iadd, 1) := by decide +kernel
theorem dX6_measure_201 : decode cX6_measure 201 = .ok (.goto 10, 3) := by decide +kernel
theorem dX6_measure_204 : decode cX6_measure 204 = .ok (.aload_n 0, 1) := by decide +kernel
theorem dX6_measure_205 : decode cX6_measure 205 = .ok (.getfield 25, 3) := by decide +kernel
theorem dX6_measure_208 : decode cX6_measure 208 = .ok (.iload 4, 2) := by decide +kernel
theorem dX6_measure_210 : decode cX6_measure 210 = .ok (.iaload, 1) := by decide +kernel
theorem dX6_measure_211 : decode cX6_measure 211 = .ok (.iastore, 1) := by decide +kernel
theorem dX6_measure_212 : decode cX6_measure 212 = .ok (.iinc 2 1, 3) := by decide +kernel
theorem dX6_measure_215 : decode cX6_measure 215 = .ok (.goto (-163), 3) := by decide +kernel
theorem dX6_measure_218 : decode cX6_measure 218 = .ok (.iinc 1 1, 3) := by decide +kernel
theorem dX6_measure_221 : decode cX6_measure 221 = .ok (.goto (-179), 3) := by decide +kernel
theorem dX6_measure_224 : decode cX6_measure 224 = .ok (.return_, 1) := by decide +kernel
set_option maxRecDepth 20000 in
theorem ggX6_distance_X6_isNode : GoodIn wsX6_distance wsX6_isNode := goodIn_r _ [7, 8, 9, 10, 6, 11, 32, 33, 34, 35, 36, 37, 38, 39, 40, 41, 42, 43, 44, 45, 46, 47, 48] (by decide +kernel) (by decide +kernel)
set_option maxRecDepth 20000 in
theorem gX6_distance_X6_isNode : GoodIn wsX6_distance (wsV RX6 61 RX6 yX6_isNode wsX6_isNode) := goodIn_app (goodIn_of _ (by decide +kernel)) ggX6_distance_X6_isNode
set_option maxRecDepth 20000 in
theorem ggX6_distance_X6_refused : GoodIn wsX6_distance wsX6_refused := goodIn_r _ [15, 16, 32, 33, 34, 35, 36, 37, 38, 39, 40, 41, 42, 43, 44, 45, 46, 47, 48] (by decide +kernel) (by decide +kernel)
set_option maxRecDepth 20000 in
theorem gX6_distance_X6_refused : GoodIn wsX6_distance (wsV RX6 54 RX6 yX6_refused wsX6_refused) := goodIn_app (goodIn_of _ (by decide +kernel)) ggX6_distance_X6_refused
set_option maxRecDepth 20000 in
theorem ggX6_distance_X6_measure : GoodIn wsX6_distance wsX6_measure := goodIn_r _ [20, 8, 1, 21, 2, 22, 23, 24, 25, 26, 27, 6, 28, 29, 30, 31, 32, 33, 34, 35, 36, 37, 38, 39, 40, 41, 42, 43, 44, 45, 46, 47, 48] (by decide +kernel) (by decide +kernel)
set_option maxRecDepth 20000 in
theorem gX6_distance_X6_measure : GoodIn wsX6_distance (wsV RX6 115 RX6 yX6_measure wsX6_measure) := goodIn_app (goodIn_of _ (by decide +kernel)) ggX6_distance_X6_measure
theorem dX6_distance_0 : decode cX6_distance 0 = .ok (.aload_n 0, 1) := by decide +kernel
theorem dX6_distance_1 : decode cX6_distance 1 = .ok (.aload_n 0, 1) := by decide +kernel
theorem dX6_distance_2 : decode cX6_distance 2 = .ok (.iload_n 1, 1) := by decide +kernel
theorem dX6_distance_3 : decode cX6_distance 3 = .ok (.invokevirtual 61, 3) := by decide +kernel
theorem dX6_distance_6 : decode cX6_distance 6 = .ok (.ifCond .eq 7, 3) := by decide +kernel
theorem dX6_distance_9 : decode cX6_distance 9 = .ok (.iconst 0, 1) := by decide +kernel
theorem dX6_distance_10 : decode cX6_distance 10 = .ok (.goto 4, 3) := by decide +kernel
theorem dX6_distance_13 : decode cX6_distance 13 = .ok (.iconst 1, 1) := by decide +kernel
theorem dX6_distance_14 : decode cX6_distance 14 = .ok (.invokevirtual 54, 3) := by decide +kernel
theorem dX6_distance_17 : decode cX6_distance 17 = .ok (.ifCond .eq 5, 3) := by decide +kernel
theorem dX6_distance_20 : decode cX6_distance 20 = .ok (.iconst 0, 1) := by decide +kernel
theorem dX6_distance_21 : decode cX6_distance 21 = .ok (.ireturn, 1) := by decide +kernel
theorem dX6_distance_22 : decode cX6_distance 22 = .ok (.aload_n 0, 1) := by decide +kernel
theorem dX6_distance_23 : decode cX6_distance 23 = .ok (.invokevirtual 115, 3) := by decide +kernel
theorem dX6_distance_26 : decode cX6_distance 26 = .ok (.aload_n 0, 1) := by decide +kernel
theorem dX6_distance_27 : decode cX6_distance 27 = .ok (.getfield 25, 3) := by decide +kernel
theorem dX6_distance_30 : decode cX6_distance 30 = .ok (.iload_n 1, 1) := by decide +kernel
theorem dX6_distance_31 : decode cX6_distance 31 = .ok (.iaload, 1) := by decide +kernel
theorem dX6_distance_32 : decode cX6_distance 32 = .ok (.ldc 114, 2) := by decide +kernel
theorem dX6_distance_34 : decode cX6_distance 34 = .ok (.if_icmp .lt 7, 3) := by decide +kernel
theorem dX6_distance_37 : decode cX6_distance 37 = .ok (.iconst (-1), 1) := by decide +kernel
theorem dX6_distance_38 : decode cX6_distance 38 = .ok (.goto 9, 3) := by decide +kernel
theorem dX6_distance_41 : decode cX6_distance 41 = .ok (.aload_n 0, 1) := by decide +kernel
theorem dX6_distance_42 : decode cX6_distance 42 = .ok (.getfield 25, 3) := by decide +kernel
theorem dX6_distance_45 : decode cX6_distance 45 = .ok (.iload_n 1, 1) := by decide +kernel
theorem dX6_distance_46 : decode cX6_distance 46 = .ok (.iaload, 1) := by decide +kernel
theorem dX6_distance_47 : decode cX6_distance 47 = .ok (.ireturn, 1) := by decide +kernel
set_option maxRecDepth 20000 in
theorem ggX6_reach_X6_isOpen : GoodIn wsX6_reach wsX6_isOpen := goodIn_r _ [8, 9, 10, 11, 12, 13, 14, 15, 16, 17, 18, 19, 20, 21, 22, 23, 24, 25, 26, 27, 28] (by decide +kernel) (by decide +kernel)
set_option maxRecDepth 20000 in
theorem gX6_reach_X6_isOpen : GoodIn wsX6_reach (wsV RX6 83 RX6 yX6_isOpen wsX6_isOpen) := goodIn_app (goodIn_of _ (by decide +kernel)) ggX6_reach_X6_isOpen
theorem dX6_reach_0 : decode cX6_reach 0 = .ok (.aload_n 0, 1) := by decide +kernel
theorem dX6_reach_1 : decode cX6_reach 1 = .ok (.iload_n 1, 1) := by decide +kernel
theorem dX6_reach_2 : decode cX6_reach 2 = .ok (.iconst 0, 1) := by decide +kernel
theorem dX6_reach_3 : decode cX6_reach 3 = .ok (.iconst 0, 1) := by decide +kernel
theorem dX6_reach_4 : decode cX6_reach 4 = .ok (.invokevirtual 83, 3) := by decide +kernel
theorem dX6_reach_7 : decode cX6_reach 7 = .ok (.ifCond .eq 17, 3) := by decide +kernel
theorem dX6_reach_10 : decode cX6_reach 10 = .ok (.aload_n 0, 1) := by decide +kernel
theorem dX6_reach_11 : decode cX6_reach 11 = .ok (.getfield 25, 3) := by decide +kernel
theorem dX6_reach_14 : decode cX6_reach 14 = .ok (.aload_n 0, 1) := by decide +kernel
theorem dX6_reach_15 : decode cX6_reach 15 = .ok (.getfield 7, 3) := by decide +kernel
theorem dX6_reach_18 : decode cX6_reach 18 = .ok (.iload_n 1, 1) := by decide +kernel
theorem dX6_reach_19 : decode cX6_reach 19 = .ok (.iaload, 1) := by decide +kernel
theorem dX6_reach_20 : decode cX6_reach 20 = .ok (.iaload, 1) := by decide +kernel
theorem dX6_reach_21 : decode cX6_reach 21 = .ok (.goto 5, 3) := by decide +kernel
theorem dX6_reach_24 : decode cX6_reach 24 = .ok (.ldc 114, 2) := by decide +kernel
theorem dX6_reach_26 : decode cX6_reach 26 = .ok (.ireturn, 1) := by decide +kernel
set_option maxRecDepth 20000 in
theorem ggX6_sort_X6_measure : GoodIn wsX6_sort wsX6_measure := goodIn_r _ [9, 10, 11, 12, 3, 2, 13, 14, 15, 16, 17, 8, 18, 19, 20, 21, 26, 27, 28, 29, 30, 31, 32, 33, 34, 35, 36, 37, 38, 39, 40, 41, 42] (by decide +kernel) (by decide +kernel)
set_option maxRecDepth 20000 in
theorem gX6_sort_X6_measure : GoodIn wsX6_sort (wsV RX6 115 RX6 yX6_measure wsX6_measure) := goodIn_app (goodIn_of _ (by decide +kernel)) ggX6_sort_X6_measure
set_option maxRecDepth 20000 in
theorem ggX6_sort_X6_reach : GoodIn wsX6_sort wsX6_reach := goodIn_r _ [25, 11, 13, 3, 15, 16, 17, 8, 18, 19, 20, 21, 26, 27, 28, 29, 30, 31, 32, 33, 34, 35, 36, 37, 38, 39, 40, 41, 42] (by decide +kernel) (by decide +kernel)
set_option maxRecDepth 20000 in
theorem gX6_sort_X6_reach : GoodIn wsX6_sort (wsV RX6 121 RX6 yX6_reach wsX6_reach) := goodIn_app (goodIn_of _ (by decide +kernel)) ggX6_sort_X6_reach
theorem dX6_sort_0 : decode cX6_sort 0 = .ok (.aload_n 0, 1) := by decide +kernel
theorem dX6_sort_1 : decode cX6_sort 1 = .ok (.invokevirtual 115, 3) := by decide +kernel
theorem dX6_sort_4 : decode cX6_sort 4 = .ok (.aload_n 0, 1) := by decide +kernel
theorem dX6_sort_5 : decode cX6_sort 5 = .ok (.iconst 0, 1) := by decide +kernel
theorem dX6_sort_6 : decode cX6_sort 6 = .ok (.putfield 118, 3) := by decide +kernel
theorem dX6_sort_9 : decode cX6_sort 9 = .ok (.iconst 0, 1) := by decide +kernel
theorem dX6_sort_10 : decode cX6_sort 10 = .ok (.istore_n 1, 1) := by decide +kernel
theorem dX6_sort_11 : decode cX6_sort 11 = .ok (.iload_n 1, 1) := by decide +kernel
theorem dX6_sort_12 : decode cX6_sort 12 = .ok (.aload_n 0, 1) := by decide +kernel
theorem dX6_sort_13 : decode cX6_sort 13 = .ok (.getfield 48, 3) := by decide +kernel
theorem dX6_sort_16 : decode cX6_sort 16 = .ok (.if_icmp .ge 122, 3) := by decide +kernel
theorem dX6_sort_19 : decode cX6_sort 19 = .ok (.aload_n 0, 1) := by decide +kernel
theorem dX6_sort_20 : decode cX6_sort 20 = .ok (.iconst 2, 1) := by decide +kernel
theorem dX6_sort_21 : decode cX6_sort 21 = .ok (.iload_n 1, 1) := by decide +kernel
theorem dX6_sort_22 : decode cX6_sort 22 = .ok (.imul, 1) := by decide +kernel
theorem dX6_sort_23 : decode cX6_sort 23 = .ok (.iconst 1, 1) := by decide +kernel
theorem dX6_sort_24 : decode cX6_sort 24 = .ok (.iadd, 1) := by decide +kernel
theorem dX6_sort_25 : decode cX6_sort 25 = .ok (.invokevirtual 121, 3) := by decide +kernel
theorem dX6_sort_28 : decode cX6_sort 28 = .ok (.aload_n 0, 1) := by decide +kernel
theorem dX6_sort_29 : decode cX6_sort 29 = .ok (.iconst 2, 1) := by decide +kernel
theorem dX6_sort_30 : decode cX6_sort 30 = .ok (.iload_n 1, 1) := by decide +kernel
theorem dX6_sort_31 : decode cX6_sort 31 = .ok (.imul, 1) := by decide +kernel
theorem dX6_sort_32 : decode cX6_sort 32 = .ok (.invokevirtual 121, 3) := by decide +kernel
theorem dX6_sort_35 : decode cX6_sort 35 = .ok (.if_icmp .ge 7, 3) := by decide +kernel
theorem dX6_sort_38 : decode cX6_sort 38 = .ok (.iconst 1, 1) := by decide +kernel
theorem dX6_sort_39 : decode cX6_sort 39 = .ok (.goto 4, 3) := by decide +kernel
theorem dX6_sort_42 : decode cX6_sort 42 = .ok (.iconst 0, 1) := by decide +kernel
theorem dX6_sort_43 : decode cX6_sort 43 = .ok (.istore_n 2, 1) := by decide +kernel
theorem dX6_sort_44 : decode cX6_sort 44 = .ok (.aload_n 0, 1) := by decide +kernel
theorem dX6_sort_45 : decode cX6_sort 45 = .ok (.iconst 2, 1) := by decide +kernel
theorem dX6_sort_46 : decode cX6_sort 46 = .ok (.iload_n 1, 1) := by decide +kernel
theorem dX6_sort_47 : decode cX6_sort 47 = .ok (.imul, 1) := by decide +kernel
theorem dX6_sort_48 : decode cX6_sort 48 = .ok (.iload_n 2, 1) := by decide +kernel
theorem dX6_sort_49 : decode cX6_sort 49 = .ok (.iadd, 1) := by decide +kernel
theorem dX6_sort_50 : decode cX6_sort 50 = .ok (.invokevirtual 121, 3) := by decide +kernel
theorem dX6_sort_53 : decode cX6_sort 53 = .ok (.istore_n 3, 1) := by decide +kernel
theorem dX6_sort_54 : decode cX6_sort 54 = .ok (.iload_n 3, 1) := by decide +kernel
theorem dX6_sort_55 : decode cX6_sort 55 = .ok (.ldc 114, 2) := by decide +kernel
theorem dX6_sort_57 : decode cX6_sort 57 = .ok (.if_icmp .ge 75, 3) := by decide +kernel
theorem dX6_sort_60 : decode cX6_sort 60 = .ok (.aload_n 0, 1) := by decide +kernel
theorem dX6_sort_61 : decode cX6_sort 61 = .ok (.getfield 118, 3) := by decide +kernel
theorem dX6_sort_64 : decode cX6_sort 64 = .ok (.istore 4, 2) := by decide +kernel
theorem dX6_sort_66 : decode cX6_sort 66 = .ok (.iload 4, 2) := by decide +kernel
theorem dX6_sort_68 : decode cX6_sort 68 = .ok (.ifCond .le 42, 3) := by decide +kernel
theorem dX6_sort_71 : decode cX6_sort 71 = .ok (.aload_n 0, 1) := by decide +kernel
theorem dX6_sort_72 : decode cX6_sort 72 = .ok (.aload_n 0, 1) := by decide +kernel
theorem dX6_sort_73 : decode cX6_sort 73 = .ok (.getfield 34, 3) := by decide +kernel
theorem dX6_sort_76 : decode cX6_sort 76 = .ok (.iload 4, 2) := by decide +kernel
theorem dX6_sort_78 : decode cX6_sort 78 = .ok (.iconst 1, 1) := by decide +kernel
theorem dX6_sort_79 : decode cX6_sort 79 = .ok (.isub, 1) := by decide +kernel
theorem dX6_sort_80 : decode cX6_sort 80 = .ok (.iaload, 1) := by decide +kernel
theorem dX6_sort_81 : decode cX6_sort 81 = .ok (.invokevirtual 121, 3) := by decide +kernel
theorem dX6_sort_84 : decode cX6_sort 84 = .ok (.iload_n 3, 1) := by decide +kernel
theorem dX6_sort_85 : decode cX6_sort 85 = .ok (.if_icmp .le 25, 3) := by decide +kernel
theorem dX6_sort_88 : decode cX6_sort 88 = .ok (.aload_n 0, 1) := by decide +kernel
theorem dX6_sort_89 : decode cX6_sort 89 = .ok (.getfield 34, 3) := by decide +kernel
theorem dX6_sort_92 : decode cX6_sort 92 = .ok (.iload 4, 2) := by decide +kernel
theorem dX6_sort_94 : decode cX6_sort 94 = .ok (.aload_n 0, 1) := by decide +kernel
theorem dX6_sort_95 : decode cX6_sort 95 = .ok (.getfield 34, 3) := by decide +kernel
theorem dX6_sort_98 : decode cX6_sort 98 = .ok (.iload 4, 2) := by decide +kernel
theorem dX6_sort_100 : decode cX6_sort 100 = .ok (.iconst 1, 1) := by decide +kernel
theorem dX6_sort_101 : decode cX6_sort 101 = .ok (.isub, 1) := by decide +kernel
theorem dX6_sort_102 : decode cX6_sort 102 = .ok (.iaload, 1) := by decide +kernel
theorem dX6_sort_103 : decode cX6_sort 103 = .ok (.iastore, 1) := by decide +kernel
theorem dX6_sort_104 : decode cX6_sort 104 = .ok (.iinc 4 (-1), 3) := by decide +kernel
theorem dX6_sort_107 : decode cX6_sort 107 = .ok (.goto (-41), 3) := by decide +kernel
theorem dX6_sort_110 : decode cX6_sort 110 = .ok (.aload_n 0, 1) := by decide +kernel
theorem dX6_sort_111 : decode cX6_sort 111 = .ok (.getfield 34, 3) := by decide +kernel
theorem dX6_sort_114 : decode cX6_sort 114 = .ok (.iload 4, 2) := by decide +kernel
theorem dX6_sort_116 : decode cX6_sort 116 = .ok (.iconst 2, 1) := by decide +kernel
theorem dX6_sort_117 : decode cX6_sort 117 = .ok (.iload_n 1, 1) := by decide +kernel
theorem dX6_sort_118 : decode cX6_sort 118 = .ok (.imul, 1) := by decide +kernel
theorem dX6_sort_119 : decode cX6_sort 119 = .ok (.iload_n 2, 1) := by decide +kernel
theorem dX6_sort_120 : decode cX6_sort 120 = .ok (.iadd, 1) := by decide +kernel
theorem dX6_sort_121 : decode cX6_sort 121 = .ok (.iastore, 1) := by decide +kernel
theorem dX6_sort_122 : decode cX6_sort 122 = .ok (.aload_n 0, 1) := by decide +kernel
theorem dX6_sort_123 : decode cX6_sort 123 = .ok (.dup, 1) := by decide +kernel
theorem dX6_sort_124 : decode cX6_sort 124 = .ok (.getfield 118, 3) := by decide +kernel
theorem dX6_sort_127 : decode cX6_sort 127 = .ok (.iconst 1, 1) := by decide +kernel
theorem dX6_sort_128 : decode cX6_sort 128 = .ok (.iadd, 1) := by decide +kernel
theorem dX6_sort_129 : decode cX6_sort 129 = .ok (.putfield 118, 3) := by decide +kernel
theorem dX6_sort_132 : decode cX6_sort 132 = .ok (.iinc 1 1, 3) := by decide +kernel
theorem dX6_sort_135 : decode cX6_sort 135 = .ok (.goto (-124), 3) := by decide +kernel
theorem dX6_sort_138 : decode cX6_sort 138 = .ok (.return_, 1) := by decide +kernel
set_option maxRecDepth 20000 in
theorem ggX6_flushAt_X6_sort : GoodIn wsX6_flushAt wsX6_sort := goodIn_r _ [7, 1, 8, 9, 2, 10, 11, 12, 6, 13, 14, 15, 16, 17, 18, 19, 20, 21, 22, 23, 24, 25, 26, 27, 28, 29, 38, 39, 40, 41, 42, 43, 44, 45, 46, 47, 48, 49, 50, 51, 52, 53, 54] (by decide +kernel) (by decide +kernel)
set_option maxRecDepth 20000 in
theorem gX6_flushAt_X6_sort : GoodIn wsX6_flushAt (wsV RX6 124 RX6 yX6_sort wsX6_sort) := goodIn_app (goodIn_of _ (by decide +kernel)) ggX6_flushAt_X6_sort
set_option maxRecDepth 20000 in
theorem ggX6_flushAt_X6_in : GoodIn wsX6_flushAt wsX6_in := goodIn_r _ [32] (by decide +kernel) (by decide +kernel)
set_option maxRecDepth 20000 in
theorem gX6_flushAt_X6_in : GoodIn wsX6_flushAt (va_wsS RX6 44 yX6_in wsX6_in) := goodIn_app (goodIn_of _ (by decide +kernel)) ggX6_flushAt_X6_in
set_option maxRecDepth 20000 in
theorem ggX6_flushAt_X6_refused : GoodIn wsX6_flushAt wsX6_refused := goodIn_r _ [36, 37, 38, 39, 40, 41, 42, 43, 44, 45, 46, 47, 48, 49, 50, 51, 52, 53, 54] (by decide +kernel) (by decide +kernel)
set_option maxRecDepth 20000 in
theorem gX6_flushAt_X6_refused : GoodIn wsX6_flushAt (wsV RX6 54 RX6 yX6_refused wsX6_refused) := goodIn_app (goodIn_of _ (by decide +kernel)) ggX6_flushAt_X6_refused
theorem dX6_flushAt_0 : decode cX6_flushAt 0 = .ok (.aload_n 0, 1) := by decide +kernel
theorem dX6_flushAt_1 : decode cX6_flushAt 1 = .ok (.invokevirtual 124, 3) := by decide +kernel
theorem dX6_flushAt_4 : decode cX6_flushAt 4 = .ok (.aload_n 0, 1) := by decide +kernel
theorem dX6_flushAt_5 : decode cX6_flushAt 5 = .ok (.iload_n 1, 1) := by decide +kernel
theorem dX6_flushAt_6 : decode cX6_flushAt 6 = .ok (.iconst 0, 1) := by decide +kernel
theorem dX6_flushAt_7 : decode cX6_flushAt 7 = .ok (.aload_n 0, 1) := by decide +kernel
theorem dX6_flushAt_8 : decode cX6_flushAt 8 = .ok (.getfield 118, 3) := by decide +kernel
theorem dX6_flushAt_11 : decode cX6_flushAt 11 = .ok (.iconst 1, 1) := by decide +kernel
theorem dX6_flushAt_12 : decode cX6_flushAt 12 = .ok (.isub, 1) := by decide +kernel
theorem dX6_flushAt_13 : decode cX6_flushAt 13 = .ok (.invokestatic 44, 3) := by decide +kernel
theorem dX6_flushAt_16 : decode cX6_flushAt 16 = .ok (.ifCond .eq 7, 3) := by decide +kernel
theorem dX6_flushAt_19 : decode cX6_flushAt 19 = .ok (.iconst 0, 1) := by decide +kernel
theorem dX6_flushAt_20 : decode cX6_flushAt 20 = .ok (.goto 4, 3) := by decide +kernel
theorem dX6_flushAt_23 : decode cX6_flushAt 23 = .ok (.iconst 1, 1) := by decide +kernel
theorem dX6_flushAt_24 : decode cX6_flushAt 24 = .ok (.invokevirtual 54, 3) := by decide +kernel
theorem dX6_flushAt_27 : decode cX6_flushAt 27 = .ok (.ifCond .eq 7, 3) := by decide +kernel
theorem dX6_flushAt_30 : decode cX6_flushAt 30 = .ok (.iconst 0, 1) := by decide +kernel
theorem dX6_flushAt_31 : decode cX6_flushAt 31 = .ok (.goto 9, 3) := by decide +kernel
theorem dX6_flushAt_34 : decode cX6_flushAt 34 = .ok (.aload_n 0, 1) := by decide +kernel
theorem dX6_flushAt_35 : decode cX6_flushAt 35 = .ok (.getfield 34, 3) := by decide +kernel
theorem dX6_flushAt_38 : decode cX6_flushAt 38 = .ok (.iload_n 1, 1) := by decide +kernel
theorem dX6_flushAt_39 : decode cX6_flushAt 39 = .ok (.iaload, 1) := by decide +kernel
theorem dX6_flushAt_40 : decode cX6_flushAt 40 = .ok (.ireturn, 1) := by decide +kernel
theorem dX6_connect_0 : decode cX6_connect 0 = .ok (.iconst 0, 1) := by decide +kernel
theorem dX6_connect_1 : decode cX6_connect 1 = .ok (.istore_n 1, 1) := by decide +kernel
theorem dX6_connect_2 : decode cX6_connect 2 = .ok (.iload_n 1, 1) := by decide +kernel
theorem dX6_connect_3 : decode cX6_connect 3 = .ok (.sipush 144, 3) := by decide +kernel
theorem dX6_connect_6 : decode cX6_connect 6 = .ok (.if_icmp .ge 32, 3) := by decide +kernel
theorem dX6_connect_9 : decode cX6_connect 9 = .ok (.aload_n 0, 1) := by decide +kernel
theorem dX6_connect_10 : decode cX6_connect 10 = .ok (.getfield 28, 3) := by decide +kernel
theorem dX6_connect_13 : decode cX6_connect 13 = .ok (.iload_n 1, 1) := by decide +kernel
theorem dX6_connect_14 : decode cX6_connect 14 = .ok (.iload_n 1, 1) := by decide +kernel
theorem dX6_connect_15 : decode cX6_connect 15 = .ok (.bipush 12, 2) := by decide +kernel
theorem dX6_connect_17 : decode cX6_connect 17 = .ok (.idiv, 1) := by decide +kernel
theorem dX6_connect_18 : decode cX6_connect 18 = .ok (.iload_n 1, 1) := by decide +kernel
theorem dX6_connect_19 : decode cX6_connect 19 = .ok (.bipush 12, 2) := by decide +kernel
theorem dX6_connect_21 : decode cX6_connect 21 = .ok (.irem, 1) := by decide +kernel
theorem dX6_connect_22 : decode cX6_connect 22 = .ok (.if_icmp .ne 7, 3) := by decide +kernel
theorem dX6_connect_25 : decode cX6_connect 25 = .ok (.iconst 0, 1) := by decide +kernel
theorem dX6_connect_26 : decode cX6_connect 26 = .ok (.goto 5, 3) := by decide +kernel
theorem dX6_connect_29 : decode cX6_connect 29 = .ok (.ldc 114, 2) := by decide +kernel
theorem dX6_connect_31 : decode cX6_connect 31 = .ok (.iastore, 1) := by decide +kernel
theorem dX6_connect_32 : decode cX6_connect 32 = .ok (.iinc 1 1, 3) := by decide +kernel
theorem dX6_connect_35 : decode cX6_connect 35 = .ok (.goto (-33), 3) := by decide +kernel
theorem dX6_connect_38 : decode cX6_connect 38 = .ok (.iconst 0, 1) := by decide +kernel
theorem dX6_connect_39 : decode cX6_connect 39 = .ok (.istore_n 1, 1) := by decide +kernel
theorem dX6_connect_40 : decode cX6_connect 40 = .ok (.iload_n 1, 1) := by decide +kernel
theorem dX6_connect_41 : decode cX6_connect 41 = .ok (.aload_n 0, 1) := by decide +kernel
theorem dX6_connect_42 : decode cX6_connect 42 = .ok (.getfield 48, 3) := by decide +kernel
theorem dX6_connect_45 : decode cX6_connect 45 = .ok (.if_icmp .ge 103, 3) := by decide +kernel
theorem dX6_connect_48 : decode cX6_connect 48 = .ok (.bipush 12, 2) := by decide +kernel
theorem dX6_connect_50 : decode cX6_connect 50 = .ok (.aload_n 0, 1) := by decide +kernel
theorem dX6_connect_51 : decode cX6_connect 51 = .ok (.getfield 7, 3) := by decide +kernel
theorem dX6_connect_54 : decode cX6_connect 54 = .ok (.iconst 2, 1) := by decide +kernel
theorem dX6_connect_55 : decode cX6_connect 55 = .ok (.iload_n 1, 1) := by decide +kernel
theorem dX6_connect_56 : decode cX6_connect 56 = .ok (.imul, 1) := by decide +kernel
theorem dX6_connect_57 : decode cX6_connect 57 = .ok (.iaload, 1) := by decide +kernel
theorem dX6_connect_58 : decode cX6_connect 58 = .ok (.imul, 1) := by decide +kernel
theorem dX6_connect_59 : decode cX6_connect 59 = .ok (.aload_n 0, 1) := by decide +kernel
theorem dX6_connect_60 : decode cX6_connect 60 = .ok (.getfield 7, 3) := by decide +kernel
theorem dX6_connect_63 : decode cX6_connect 63 = .ok (.iconst 2, 1) := by decide +kernel
theorem dX6_connect_64 : decode cX6_connect 64 = .ok (.iload_n 1, 1) := by decide +kernel
theorem dX6_connect_65 : decode cX6_connect 65 = .ok (.imul, 1) := by decide +kernel
theorem dX6_connect_66 : decode cX6_connect 66 = .ok (.iconst 1, 1) := by decide +kernel
theorem dX6_connect_67 : decode cX6_connect 67 = .ok (.iadd, 1) := by decide +kernel
theorem dX6_connect_68 : decode cX6_connect 68 = .ok (.iaload, 1) := by decide +kernel
theorem dX6_connect_69 : decode cX6_connect 69 = .ok (.iadd, 1) := by decide +kernel
theorem dX6_connect_70 : decode cX6_connect 70 = .ok (.istore_n 2, 1) := by decide +kernel
theorem dX6_connect_71 : decode cX6_connect 71 = .ok (.bipush 12, 2) := by decide +kernel
theorem dX6_connect_73 : decode cX6_connect 73 = .ok (.aload_n 0, 1) := by decide +kernel
theorem dX6_connect_74 : decode cX6_connect 74 = .ok (.getfield 7, 3) := by decide +kernel
theorem dX6_connect_77 : decode cX6_connect 77 = .ok (.iconst 2, 1) := by decide +kernel
theorem dX6_connect_78 : decode cX6_connect 78 = .ok (.iload_n 1, 1) := by decide +kernel
theorem dX6_connect_79 : decode cX6_connect 79 = .ok (.imul, 1) := by decide +kernel
theorem dX6_connect_80 : decode cX6_connect 80 = .ok (.iconst 1, 1) := by decide +kernel
theorem dX6_connect_81 : decode cX6_connect 81 = .ok (.iadd, 1) := by decide +kernel
theorem dX6_connect_82 : decode cX6_connect 82 = .ok (.iaload, 1) := by decide +kernel
theorem dX6_connect_83 : decode cX6_connect 83 = .ok (.imul, 1) := by decide +kernel
theorem dX6_connect_84 : decode cX6_connect 84 = .ok (.aload_n 0, 1) := by decide +kernel
theorem dX6_connect_85 : decode cX6_connect 85 = .ok (.getfield 7, 3) := by decide +kernel
theorem dX6_connect_88 : decode cX6_connect 88 = .ok (.iconst 2, 1) := by decide +kernel
theorem dX6_connect_89 : decode cX6_connect 89 = .ok (.iload_n 1, 1) := by decide +kernel
theorem dX6_connect_90 : decode cX6_connect 90 = .ok (.imul, 1) := by decide +kernel
theorem dX6_connect_91 : decode cX6_connect 91 = .ok (.iaload, 1) := by decide +kernel
theorem dX6_connect_92 : decode cX6_connect 92 = .ok (.iadd, 1) := by decide +kernel
theorem dX6_connect_93 : decode cX6_connect 93 = .ok (.istore_n 3, 1) := by decide +kernel
theorem dX6_connect_94 : decode cX6_connect 94 = .ok (.aload_n 0, 1) := by decide +kernel
theorem dX6_connect_95 : decode cX6_connect 95 = .ok (.getfield 28, 3) := by decide +kernel
theorem dX6_connect_98 : decode cX6_connect 98 = .ok (.iload_n 2, 1) := by decide +kernel
theorem dX6_connect_99 : decode cX6_connect 99 = .ok (.aload_n 0, 1) := by decide +kernel
theorem dX6_connect_100 : decode cX6_connect 100 = .ok (.getfield 16, 3) := by decide +kernel
theorem dX6_connect_103 : decode cX6_connect 103 = .ok (.iload_n 1, 1) := by decide +kernel
theorem dX6_connect_104 : decode cX6_connect 104 = .ok (.iaload, 1) := by decide +kernel
theorem dX6_connect_105 : decode cX6_connect 105 = .ok (.aload_n 0, 1) := by decide +kernel
theorem dX6_connect_106 : decode cX6_connect 106 = .ok (.getfield 28, 3) := by decide +kernel
theorem dX6_connect_109 : decode cX6_connect 109 = .ok (.iload_n 2, 1) := by decide +kernel
theorem dX6_connect_110 : decode cX6_connect 110 = .ok (.iaload, 1) := by decide +kernel
theorem dX6_connect_111 : decode cX6_connect 111 = .ok (.if_icmp .ge 12, 3) := by decide +kernel
theorem dX6_connect_114 : decode cX6_connect 114 = .ok (.aload_n 0, 1) := by decide +kernel
theorem dX6_connect_115 : decode cX6_connect 115 = .ok (.getfield 16, 3) := by decide +kernel
theorem dX6_connect_118 : decode cX6_connect 118 = .ok (.iload_n 1, 1) := by decide +kernel
theorem dX6_connect_119 : decode cX6_connect 119 = .ok (.iaload, 1) := by decide +kernel
theorem dX6_connect_120 : decode cX6_connect 120 = .ok (.goto 9, 3) := by decide +kernel
theorem dX6_connect_123 : decode cX6_connect 123 = .ok (.aload_n 0, 1) := by decide +kernel
theorem dX6_connect_124 : decode cX6_connect 124 = .ok (.getfield 28, 3) := by decide +kernel
theorem dX6_connect_127 : decode cX6_connect 127 = .ok (.iload_n 2, 1) := by decide +kernel
theorem dX6_connect_128 : decode cX6_connect 128 = .ok (.iaload, 1) := by decide +kernel
theorem dX6_connect_129 : decode cX6_connect 129 = .ok (.iastore, 1) := by decide +kernel
theorem dX6_connect_130 : decode cX6_connect 130 = .ok (.aload_n 0, 1) := by decide +kernel
theorem dX6_connect_131 : decode cX6_connect 131 = .ok (.getfield 28, 3) := by decide +kernel
theorem dX6_connect_134 : decode cX6_connect 134 = .ok (.iload_n 3, 1) := by decide +kernel
theorem dX6_connect_135 : decode cX6_connect 135 = .ok (.aload_n 0, 1) := by decide +kernel
theorem dX6_connect_136 : decode cX6_connect 136 = .ok (.getfield 28, 3) := by decide +kernel
theorem dX6_connect_139 : decode cX6_connect 139 = .ok (.iload_n 2, 1) := by decide +kernel
theorem dX6_connect_140 : decode cX6_connect 140 = .ok (.iaload, 1) := by decide +kernel
theorem dX6_connect_141 : decode cX6_connect 141 = .ok (.iastore, 1) := by decide +kernel
theorem dX6_connect_142 : decode cX6_connect 142 = .ok (.iinc 1 1, 3) := by decide +kernel
theorem dX6_connect_145 : decode cX6_connect 145 = .ok (.goto (-105), 3) := by decide +kernel
theorem dX6_connect_148 : decode cX6_connect 148 = .ok (.iconst 0, 1) := by decide +kernel
theorem dX6_connect_149 : decode cX6_connect 149 = .ok (.istore_n 1, 1) := by decide +kernel
theorem dX6_connect_150 : decode cX6_connect 150 = .ok (.iload_n 1, 1) := by decide +kernel
theorem dX6_connect_151 : decode cX6_connect 151 = .ok (.aload_n 0, 1) := by decide +kernel
theorem dX6_connect_152 : decode cX6_connect 152 = .ok (.getfield 41, 3) := by decide +kernel
theorem dX6_connect_155 : decode cX6_connect 155 = .ok (.if_icmp .ge 80, 3) := by decide +kernel
theorem dX6_connect_158 : decode cX6_connect 158 = .ok (.iconst 0, 1) := by decide +kernel
theorem dX6_connect_159 : decode cX6_connect 159 = .ok (.istore_n 2, 1) := by decide +kernel
theorem dX6_connect_160 : decode cX6_connect 160 = .ok (.iload_n 2, 1) := by decide +kernel
theorem dX6_connect_161 : decode cX6_connect 161 = .ok (.sipush 144, 3) := by decide +kernel
theorem dX6_connect_164 : decode cX6_connect 164 = .ok (.if_icmp .ge 65, 3) := by decide +kernel
theorem dX6_connect_167 : decode cX6_connect 167 = .ok (.aload_n 0, 1) := by decide +kernel
theorem dX6_connect_168 : decode cX6_connect 168 = .ok (.getfield 28, 3) := by decide +kernel
theorem dX6_connect_171 : decode cX6_connect 171 = .ok (.iload_n 2, 1) := by decide +kernel
theorem dX6_connect_172 : decode cX6_connect 172 = .ok (.bipush 12, 2) := by decide +kernel
theorem dX6_connect_174 : decode cX6_connect 174 = .ok (.idiv, 1) := by decide +kernel
theorem dX6_connect_175 : decode cX6_connect 175 = .ok (.bipush 12, 2) := by decide +kernel
theorem dX6_connect_177 : decode cX6_connect 177 = .ok (.imul, 1) := by decide +kernel
theorem dX6_connect_178 : decode cX6_connect 178 = .ok (.iload_n 1, 1) := by decide +kernel
theorem dX6_connect_179 : decode cX6_connect 179 = .ok (.iadd, 1) := by decide +kernel
theorem dX6_connect_180 : decode cX6_connect 180 = .ok (.iaload, 1) := by decide +kernel
theorem dX6_connect_181 : decode cX6_connect 181 = .ok (.aload_n 0, 1) := by decide +kernel
theorem dX6_connect_182 : decode cX6_connect 182 = .ok (.getfield 28, 3) := by decide +kernel
theorem dX6_connect_185 : decode cX6_connect 185 = .ok (.bipush 12, 2) := by decide +kernel
theorem dX6_connect_187 : decode cX6_connect 187 = .ok (.iload_n 1, 1) := by decide +kernel
theorem dX6_connect_188 : decode cX6_connect 188 = .ok (.imul, 1) := by decide +kernel
theorem dX6_connect_189 : decode cX6_connect 189 = .ok (.iload_n 2, 1) := by decide +kernel
theorem dX6_connect_190 : decode cX6_connect 190 = .ok (.bipush 12, 2) := by decide +kernel
theorem dX6_connect_192 : decode cX6_connect 192 = .ok (.irem, 1) := by decide +kernel
theorem dX6_connect_193 : decode cX6_connect 193 = .ok (.iadd, 1) := by decide +kernel
theorem dX6_connect_194 : decode cX6_connect 194 = .ok (.iaload, 1) := by decide +kernel
theorem dX6_connect_195 : decode cX6_connect 195 = .ok (.iadd, 1) := by decide +kernel
theorem dX6_connect_196 : decode cX6_connect 196 = .ok (.istore_n 3, 1) := by decide +kernel
theorem dX6_connect_197 : decode cX6_connect 197 = .ok (.aload_n 0, 1) := by decide +kernel
theorem dX6_connect_198 : decode cX6_connect 198 = .ok (.getfield 28, 3) := by decide +kernel
theorem dX6_connect_201 : decode cX6_connect 201 = .ok (.iload_n 2, 1) := by decide +kernel
theorem dX6_connect_202 : decode cX6_connect 202 = .ok (.iload_n 3, 1) := by decide +kernel
theorem dX6_connect_203 : decode cX6_connect 203 = .ok (.aload_n 0, 1) := by decide +kernel
theorem dX6_connect_204 : decode cX6_connect 204 = .ok (.getfield 28, 3) := by decide +kernel
theorem dX6_connect_207 : decode cX6_connect 207 = .ok (.iload_n 2, 1) := by decide +kernel
theorem dX6_connect_208 : decode cX6_connect 208 = .ok (.iaload, 1) := by decide +kernel
theorem dX6_connect_209 : decode cX6_connect 209 = .ok (.if_icmp .ge 7, 3) := by decide +kernel
theorem dX6_connect_212 : decode cX6_connect 212 = .ok (.iload_n 3, 1) := by decide +kernel
theorem dX6_connect_213 : decode cX6_connect 213 = .ok (.goto 9, 3) := by decide +kernel
theorem dX6_connect_216 : decode cX6_connect 216 = .ok (.aload_n 0, 1) := by decide +kernel
theorem dX6_connect_217 : decode cX6_connect 217 = .ok (.getfield 28, 3) := by decide +kernel
theorem dX6_connect_220 : decode cX6_connect 220 = .ok (.iload_n 2, 1) := by decide +kernel
theorem dX6_connect_221 : decode cX6_connect 221 = .ok (.iaload, 1) := by decide +kernel
theorem dX6_connect_222 : decode cX6_connect 222 = .ok (.iastore, 1) := by decide +kernel
theorem dX6_connect_223 : decode cX6_connect 223 = .ok (.iinc 2 1, 3) := by decide +kernel
theorem dX6_connect_226 : decode cX6_connect 226 = .ok (.goto (-66), 3) := by decide +kernel
theorem dX6_connect_229 : decode cX6_connect 229 = .ok (.iinc 1 1, 3) := by decide +kernel
theorem dX6_connect_232 : decode cX6_connect 232 = .ok (.goto (-82), 3) := by decide +kernel
theorem dX6_connect_235 : decode cX6_connect 235 = .ok (.return_, 1) := by decide +kernel
theorem dX6_walked_0 : decode cX6_walked 0 = .ok (.iload_n 1, 1) := by decide +kernel
theorem dX6_walked_1 : decode cX6_walked 1 = .ok (.istore 4, 2) := by decide +kernel
theorem dX6_walked_3 : decode cX6_walked 3 = .ok (.iconst 0, 1) := by decide +kernel
theorem dX6_walked_4 : decode cX6_walked 4 = .ok (.istore 5, 2) := by decide +kernel
theorem dX6_walked_6 : decode cX6_walked 6 = .ok (.iconst 0, 1) := by decide +kernel
theorem dX6_walked_7 : decode cX6_walked 7 = .ok (.istore 6, 2) := by decide +kernel
theorem dX6_walked_9 : decode cX6_walked 9 = .ok (.iload_n 3, 1) := by decide +kernel
theorem dX6_walked_10 : decode cX6_walked 10 = .ok (.istore 7, 2) := by decide +kernel
theorem dX6_walked_12 : decode cX6_walked 12 = .ok (.iconst 0, 1) := by decide +kernel
theorem dX6_walked_13 : decode cX6_walked 13 = .ok (.istore 8, 2) := by decide +kernel
theorem dX6_walked_15 : decode cX6_walked 15 = .ok (.iload 8, 2) := by decide +kernel
theorem dX6_walked_17 : decode cX6_walked 17 = .ok (.iload_n 2, 1) := by decide +kernel
theorem dX6_walked_18 : decode cX6_walked 18 = .ok (.if_icmp .ge 76, 3) := by decide +kernel
theorem dX6_walked_21 : decode cX6_walked 21 = .ok (.iload 7, 2) := by decide +kernel
theorem dX6_walked_23 : decode cX6_walked 23 = .ok (.iload_n 2, 1) := by decide +kernel
theorem dX6_walked_24 : decode cX6_walked 24 = .ok (.irem, 1) := by decide +kernel
theorem dX6_walked_25 : decode cX6_walked 25 = .ok (.istore 9, 2) := by decide +kernel
theorem dX6_walked_27 : decode cX6_walked 27 = .ok (.iload 6, 2) := by decide +kernel
theorem dX6_walked_29 : decode cX6_walked 29 = .ok (.iload 9, 2) := by decide +kernel
theorem dX6_walked_31 : decode cX6_walked 31 = .ok (.ishr, 1) := by decide +kernel
theorem dX6_walked_32 : decode cX6_walked 32 = .ok (.iconst 1, 1) := by decide +kernel
theorem dX6_walked_33 : decode cX6_walked 33 = .ok (.iand, 1) := by decide +kernel
theorem dX6_walked_34 : decode cX6_walked 34 = .ok (.iconst 1, 1) := by decide +kernel
theorem dX6_walked_35 : decode cX6_walked 35 = .ok (.if_icmp .ne 6, 3) := by decide +kernel
theorem dX6_walked_38 : decode cX6_walked 38 = .ok (.ldc 114, 2) := by decide +kernel
theorem dX6_walked_40 : decode cX6_walked 40 = .ok (.ireturn, 1) := by decide +kernel
theorem dX6_walked_41 : decode cX6_walked 41 = .ok (.iload 6, 2) := by decide +kernel
theorem dX6_walked_43 : decode cX6_walked 43 = .ok (.iconst 1, 1) := by decide +kernel
theorem dX6_walked_44 : decode cX6_walked 44 = .ok (.iload 9, 2) := by decide +kernel
theorem dX6_walked_46 : decode cX6_walked 46 = .ok (.ishl, 1) := by decide +kernel
theorem dX6_walked_47 : decode cX6_walked 47 = .ok (.ior, 1) := by decide +kernel
theorem dX6_walked_48 : decode cX6_walked 48 = .ok (.istore 6, 2) := by decide +kernel
theorem dX6_walked_50 : decode cX6_walked 50 = .ok (.iload 5, 2) := by decide +kernel
theorem dX6_walked_52 : decode cX6_walked 52 = .ok (.aload_n 0, 1) := by decide +kernel
theorem dX6_walked_53 : decode cX6_walked 53 = .ok (.getfield 28, 3) := by decide +kernel
theorem dX6_walked_56 : decode cX6_walked 56 = .ok (.bipush 12, 2) := by decide +kernel
theorem dX6_walked_58 : decode cX6_walked 58 = .ok (.iload 4, 2) := by decide +kernel
theorem dX6_walked_60 : decode cX6_walked 60 = .ok (.imul, 1) := by decide +kernel
theorem dX6_walked_61 : decode cX6_walked 61 = .ok (.aload_n 0, 1) := by decide +kernel
theorem dX6_walked_62 : decode cX6_walked 62 = .ok (.getfield 31, 3) := by decide +kernel
theorem dX6_walked_65 : decode cX6_walked 65 = .ok (.iload 9, 2) := by decide +kernel
theorem dX6_walked_67 : decode cX6_walked 67 = .ok (.iaload, 1) := by decide +kernel
theorem dX6_walked_68 : decode cX6_walked 68 = .ok (.iadd, 1) := by decide +kernel
theorem dX6_walked_69 : decode cX6_walked 69 = .ok (.iaload, 1) := by decide +kernel
theorem dX6_walked_70 : decode cX6_walked 70 = .ok (.iadd, 1) := by decide +kernel
theorem dX6_walked_71 : decode cX6_walked 71 = .ok (.istore 5, 2) := by decide +kernel
theorem dX6_walked_73 : decode cX6_walked 73 = .ok (.aload_n 0, 1) := by decide +kernel
theorem dX6_walked_74 : decode cX6_walked 74 = .ok (.getfield 31, 3) := by decide +kernel
theorem dX6_walked_77 : decode cX6_walked 77 = .ok (.iload 9, 2) := by decide +kernel
theorem dX6_walked_79 : decode cX6_walked 79 = .ok (.iaload, 1) := by decide +kernel
theorem dX6_walked_80 : decode cX6_walked 80 = .ok (.istore 4, 2) := by decide +kernel
theorem dX6_walked_82 : decode cX6_walked 82 = .ok (.iload 7, 2) := by decide +kernel
theorem dX6_walked_84 : decode cX6_walked 84 = .ok (.iload_n 2, 1) := by decide +kernel
theorem dX6_walked_85 : decode cX6_walked 85 = .ok (.idiv, 1) := by decide +kernel
theorem dX6_walked_86 : decode cX6_walked 86 = .ok (.istore 7, 2) := by decide +kernel
theorem dX6_walked_88 : decode cX6_walked 88 = .ok (.iinc 8 1, 3) := by decide +kernel
theorem dX6_walked_91 : decode cX6_walked 91 = .ok (.goto (-76), 3) := by decide +kernel
theorem dX6_walked_94 : decode cX6_walked 94 = .ok (.iload 5, 2) := by decide +kernel
theorem dX6_walked_96 : decode cX6_walked 96 = .ok (.ireturn, 1) := by decide +kernel
set_option maxRecDepth 20000 in
theorem ggX6_walk_X6_bits : GoodIn wsX6_walk wsX6_bits := goodIn_r _ [9] (by decide +kernel) (by decide +kernel)
set_option maxRecDepth 20000 in
theorem gX6_walk_X6_bits : GoodIn wsX6_walk (va_wsS RX6 108 yX6_bits wsX6_bits) := goodIn_app (goodIn_of _ (by decide +kernel)) ggX6_walk_X6_bits
set_option maxRecDepth 20000 in
theorem ggX6_walk_X6_isNode : GoodIn wsX6_walk wsX6_isNode := goodIn_r _ [13, 14, 15, 16, 8, 17, 34, 35, 36, 37, 38, 39, 40, 41, 42, 43, 44, 45, 46, 47, 48, 49, 50] (by decide +kernel) (by decide +kernel)
set_option maxRecDepth 20000 in
theorem gX6_walk_X6_isNode : GoodIn wsX6_walk (wsV RX6 61 RX6 yX6_isNode wsX6_isNode) := goodIn_app (goodIn_of _ (by decide +kernel)) ggX6_walk_X6_isNode
set_option maxRecDepth 20000 in
theorem ggX6_walk_X6_refused : GoodIn wsX6_walk wsX6_refused := goodIn_r _ [21, 22, 34, 35, 36, 37, 38, 39, 40, 41, 42, 43, 44, 45, 46, 47, 48, 49, 50] (by decide +kernel) (by decide +kernel)
set_option maxRecDepth 20000 in
theorem gX6_walk_X6_refused : GoodIn wsX6_walk (wsV RX6 54 RX6 yX6_refused wsX6_refused) := goodIn_app (goodIn_of _ (by decide +kernel)) ggX6_walk_X6_refused
set_option maxRecDepth 20000 in
theorem ggX6_walk_X6_connect : GoodIn wsX6_walk wsX6_connect := goodIn_r _ [26, 27, 5, 28, 3, 29, 14, 34, 35, 36, 37, 38, 39, 40, 41, 42, 43, 44, 45, 46, 47, 48, 49, 50] (by decide +kernel) (by decide +kernel)
set_option maxRecDepth 20000 in
theorem gX6_walk_X6_connect : GoodIn wsX6_walk (wsV RX6 127 RX6 yX6_connect wsX6_connect) := goodIn_app (goodIn_of _ (by decide +kernel)) ggX6_walk_X6_connect
set_option maxRecDepth 20000 in
theorem ggX6_walk_X6_walked : GoodIn wsX6_walk wsX6_walked := goodIn_r _ [33, 5, 27, 2, 34, 35, 36, 37, 38, 39, 40, 41, 42, 43, 44, 45, 46, 47, 48, 49, 50] (by decide +kernel) (by decide +kernel)
set_option maxRecDepth 20000 in
theorem gX6_walk_X6_walked : GoodIn wsX6_walk (wsV RX6 130 RX6 yX6_walked wsX6_walked) := goodIn_app (goodIn_of _ (by decide +kernel)) ggX6_walk_X6_walked
theorem dX6_walk_0 : decode cX6_walk 0 = .ok (.iload_n 2, 1) := by decide +kernel
theorem dX6_walk_1 : decode cX6_walk 1 = .ok (.ifCond .lt 26, 3) := by decide +kernel
theorem dX6_walk_4 : decode cX6_walk 4 = .ok (.iload_n 2, 1) := by decide +kernel
theorem dX6_walk_5 : decode cX6_walk 5 = .ok (.iconst 1, 1) := by decide +kernel
theorem dX6_walk_6 : decode cX6_walk 6 = .ok (.aload_n 0, 1) := by decide +kernel
theorem dX6_walk_7 : decode cX6_walk 7 = .ok (.getfield 51, 3) := by decide +kernel
theorem dX6_walk_10 : decode cX6_walk 10 = .ok (.ishl, 1) := by decide +kernel
theorem dX6_walk_11 : decode cX6_walk 11 = .ok (.if_icmp .ge 16, 3) := by decide +kernel
theorem dX6_walk_14 : decode cX6_walk 14 = .ok (.iload_n 2, 1) := by decide +kernel
theorem dX6_walk_15 : decode cX6_walk 15 = .ok (.invokestatic 108, 3) := by decide +kernel
theorem dX6_walk_18 : decode cX6_walk 18 = .ok (.bipush 6, 2) := by decide +kernel
theorem dX6_walk_20 : decode cX6_walk 20 = .ok (.if_icmp .gt 7, 3) := by decide +kernel
theorem dX6_walk_23 : decode cX6_walk 23 = .ok (.iconst 1, 1) := by decide +kernel
theorem dX6_walk_24 : decode cX6_walk 24 = .ok (.goto 4, 3) := by decide +kernel
theorem dX6_walk_27 : decode cX6_walk 27 = .ok (.iconst 0, 1) := by decide +kernel
theorem dX6_walk_28 : decode cX6_walk 28 = .ok (.istore_n 3, 1) := by decide +kernel
theorem dX6_walk_29 : decode cX6_walk 29 = .ok (.aload_n 0, 1) := by decide +kernel
theorem dX6_walk_30 : decode cX6_walk 30 = .ok (.aload_n 0, 1) := by decide +kernel
theorem dX6_walk_31 : decode cX6_walk 31 = .ok (.iload_n 1, 1) := by decide +kernel
theorem dX6_walk_32 : decode cX6_walk 32 = .ok (.invokevirtual 61, 3) := by decide +kernel
theorem dX6_walk_35 : decode cX6_walk 35 = .ok (.ifCond .ne 7, 3) := by decide +kernel
theorem dX6_walk_38 : decode cX6_walk 38 = .ok (.iconst 1, 1) := by decide +kernel
theorem dX6_walk_39 : decode cX6_walk 39 = .ok (.goto 12, 3) := by decide +kernel
theorem dX6_walk_42 : decode cX6_walk 42 = .ok (.iload_n 3, 1) := by decide +kernel
theorem dX6_walk_43 : decode cX6_walk 43 = .ok (.ifCond .eq 7, 3) := by decide +kernel
theorem dX6_walk_46 : decode cX6_walk 46 = .ok (.iconst 0, 1) := by decide +kernel
theorem dX6_walk_47 : decode cX6_walk 47 = .ok (.goto 4, 3) := by decide +kernel
theorem dX6_walk_50 : decode cX6_walk 50 = .ok (.iconst 2, 1) := by decide +kernel
theorem dX6_walk_51 : decode cX6_walk 51 = .ok (.invokevirtual 54, 3) := by decide +kernel
theorem dX6_walk_54 : decode cX6_walk 54 = .ok (.ifCond .eq 5, 3) := by decide +kernel
theorem dX6_walk_57 : decode cX6_walk 57 = .ok (.iconst 0, 1) := by decide +kernel
theorem dX6_walk_58 : decode cX6_walk 58 = .ok (.ireturn, 1) := by decide +kernel
theorem dX6_walk_59 : decode cX6_walk 59 = .ok (.iconst 0, 1) := by decide +kernel
theorem dX6_walk_60 : decode cX6_walk 60 = .ok (.istore 4, 2) := by decide +kernel
theorem dX6_walk_62 : decode cX6_walk 62 = .ok (.iconst 0, 1) := by decide +kernel
theorem dX6_walk_63 : decode cX6_walk 63 = .ok (.istore 5, 2) := by decide +kernel
theorem dX6_walk_65 : decode cX6_walk 65 = .ok (.iload 5, 2) := by decide +kernel
theorem dX6_walk_67 : decode cX6_walk 67 = .ok (.aload_n 0, 1) := by decide +kernel
theorem dX6_walk_68 : decode cX6_walk 68 = .ok (.getfield 51, 3) := by decide +kernel
theorem dX6_walk_71 : decode cX6_walk 71 = .ok (.if_icmp .ge 41, 3) := by decide +kernel
theorem dX6_walk_74 : decode cX6_walk 74 = .ok (.iload_n 2, 1) := by decide +kernel
theorem dX6_walk_75 : decode cX6_walk 75 = .ok (.iload 5, 2) := by decide +kernel
theorem dX6_walk_77 : decode cX6_walk 77 = .ok (.ishr, 1) := by decide +kernel
theorem dX6_walk_78 : decode cX6_walk 78 = .ok (.iconst 1, 1) := by decide +kernel
theorem dX6_walk_79 : decode cX6_walk 79 = .ok (.iand, 1) := by decide +kernel
theorem dX6_walk_80 : decode cX6_walk 80 = .ok (.iconst 1, 1) := by decide +kernel
theorem dX6_walk_81 : decode cX6_walk 81 = .ok (.if_icmp .ne 25, 3) := by decide +kernel
theorem dX6_walk_84 : decode cX6_walk 84 = .ok (.aload_n 0, 1) := by decide +kernel
theorem dX6_walk_85 : decode cX6_walk 85 = .ok (.getfield 31, 3) := by decide +kernel
theorem dX6_walk_88 : decode cX6_walk 88 = .ok (.iload 4, 2) := by decide +kernel
theorem dX6_walk_90 : decode cX6_walk 90 = .ok (.aload_n 0, 1) := by decide +kernel
theorem dX6_walk_91 : decode cX6_walk 91 = .ok (.getfield 7, 3) := by decide +kernel
theorem dX6_walk_94 : decode cX6_walk 94 = .ok (.aload_n 0, 1) := by decide +kernel
theorem dX6_walk_95 : decode cX6_walk 95 = .ok (.getfield 22, 3) := by decide +kernel
theorem dX6_walk_98 : decode cX6_walk 98 = .ok (.iload 5, 2) := by decide +kernel
theorem dX6_walk_100 : decode cX6_walk 100 = .ok (.iaload, 1) := by decide +kernel
theorem dX6_walk_101 : decode cX6_walk 101 = .ok (.iaload, 1) := by decide +kernel
theorem dX6_walk_102 : decode cX6_walk 102 = .ok (.iastore, 1) := by decide +kernel
theorem dX6_walk_103 : decode cX6_walk 103 = .ok (.iinc 4 1, 3) := by decide +kernel
theorem dX6_walk_106 : decode cX6_walk 106 = .ok (.iinc 5 1, 3) := by decide +kernel
theorem dX6_walk_109 : decode cX6_walk 109 = .ok (.goto (-44), 3) := by decide +kernel
theorem dX6_walk_112 : decode cX6_walk 112 = .ok (.aload_n 0, 1) := by decide +kernel
theorem dX6_walk_113 : decode cX6_walk 113 = .ok (.invokevirtual 127, 3) := by decide +kernel
theorem dX6_walk_116 : decode cX6_walk 116 = .ok (.iconst 1, 1) := by decide +kernel
theorem dX6_walk_117 : decode cX6_walk 117 = .ok (.istore 5, 2) := by decide +kernel
theorem dX6_walk_119 : decode cX6_walk 119 = .ok (.iconst 0, 1) := by decide +kernel
theorem dX6_walk_120 : decode cX6_walk 120 = .ok (.istore 6, 2) := by decide +kernel
theorem dX6_walk_122 : decode cX6_walk 122 = .ok (.iload 6, 2) := by decide +kernel
theorem dX6_walk_124 : decode cX6_walk 124 = .ok (.iload 4, 2) := by decide +kernel
theorem dX6_walk_126 : decode cX6_walk 126 = .ok (.if_icmp .ge 16, 3) := by decide +kernel
theorem dX6_walk_129 : decode cX6_walk 129 = .ok (.iload 5, 2) := by decide +kernel
theorem dX6_walk_131 : decode cX6_walk 131 = .ok (.iload 4, 2) := by decide +kernel
theorem dX6_walk_133 : decode cX6_walk 133 = .ok (.imul, 1) := by decide +kernel
theorem dX6_walk_134 : decode cX6_walk 134 = .ok (.istore 5, 2) := by decide +kernel
theorem dX6_walk_136 : decode cX6_walk 136 = .ok (.iinc 6 1, 3) := by decide +kernel
theorem dX6_walk_139 : decode cX6_walk 139 = .ok (.goto (-17), 3) := by decide +kernel
theorem dX6_walk_142 : decode cX6_walk 142 = .ok (.ldc 114, 2) := by decide +kernel
theorem dX6_walk_144 : decode cX6_walk 144 = .ok (.istore 6, 2) := by decide +kernel
theorem dX6_walk_146 : decode cX6_walk 146 = .ok (.iconst 0, 1) := by decide +kernel
theorem dX6_walk_147 : decode cX6_walk 147 = .ok (.istore 7, 2) := by decide +kernel
theorem dX6_walk_149 : decode cX6_walk 149 = .ok (.iload 7, 2) := by decide +kernel
theorem dX6_walk_151 : decode cX6_walk 151 = .ok (.iload 5, 2) := by decide +kernel
theorem dX6_walk_153 : decode cX6_walk 153 = .ok (.if_icmp .ge 36, 3) := by decide +kernel
theorem dX6_walk_156 : decode cX6_walk 156 = .ok (.aload_n 0, 1) := by decide +kernel
theorem dX6_walk_157 : decode cX6_walk 157 = .ok (.iload_n 1, 1) := by decide +kernel
theorem dX6_walk_158 : decode cX6_walk 158 = .ok (.iload 4, 2) := by decide +kernel
theorem dX6_walk_160 : decode cX6_walk 160 = .ok (.iload 7, 2) := by decide +kernel
theorem dX6_walk_162 : decode cX6_walk 162 = .ok (.invokevirtual 130, 3) := by decide +kernel
theorem dX6_walk_165 : decode cX6_walk 165 = .ok (.istore 8, 2) := by decide +kernel
theorem dX6_walk_167 : decode cX6_walk 167 = .ok (.iload 8, 2) := by decide +kernel
theorem dX6_walk_169 : decode cX6_walk 169 = .ok (.iload 6, 2) := by decide +kernel
theorem dX6_walk_171 : decode cX6_walk 171 = .ok (.if_icmp .ge 8, 3) := by decide +kernel
theorem dX6_walk_174 : decode cX6_walk 174 = .ok (.iload 8, 2) := by decide +kernel
theorem dX6_walk_176 : decode cX6_walk 176 = .ok (.goto 5, 3) := by decide +kernel
theorem dX6_walk_179 : decode cX6_walk 179 = .ok (.iload 6, 2) := by decide +kernel
theorem dX6_walk_181 : decode cX6_walk 181 = .ok (.istore 6, 2) := by decide +kernel
theorem dX6_walk_183 : decode cX6_walk 183 = .ok (.iinc 7 1, 3) := by decide +kernel
theorem dX6_walk_186 : decode cX6_walk 186 = .ok (.goto (-37), 3) := by decide +kernel
theorem dX6_walk_189 : decode cX6_walk 189 = .ok (.iload 6, 2) := by decide +kernel
theorem dX6_walk_191 : decode cX6_walk 191 = .ok (.ldc 114, 2) := by decide +kernel
theorem dX6_walk_193 : decode cX6_walk 193 = .ok (.if_icmp .lt 7, 3) := by decide +kernel
theorem dX6_walk_196 : decode cX6_walk 196 = .ok (.iconst (-1), 1) := by decide +kernel
theorem dX6_walk_197 : decode cX6_walk 197 = .ok (.goto 5, 3) := by decide +kernel
theorem dX6_walk_200 : decode cX6_walk 200 = .ok (.iload 6, 2) := by decide +kernel
theorem dX6_walk_202 : decode cX6_walk 202 = .ok (.ireturn, 1) := by decide +kernel
theorem dJ6_numberOfTrailingZeros_0f7a4_0 : decode cJ6_numberOfTrailingZeros_0f7a4 0 = .ok (.iload_n 0, 1) := by decide +kernel
theorem dJ6_numberOfTrailingZeros_0f7a4_1 : decode cJ6_numberOfTrailingZeros_0f7a4 1 = .ok (.iconst (-1), 1) := by decide +kernel
theorem dJ6_numberOfTrailingZeros_0f7a4_2 : decode cJ6_numberOfTrailingZeros_0f7a4 2 = .ok (.ixor, 1) := by decide +kernel
theorem dJ6_numberOfTrailingZeros_0f7a4_3 : decode cJ6_numberOfTrailingZeros_0f7a4 3 = .ok (.iload_n 0, 1) := by decide +kernel
theorem dJ6_numberOfTrailingZeros_0f7a4_4 : decode cJ6_numberOfTrailingZeros_0f7a4 4 = .ok (.iconst 1, 1) := by decide +kernel
theorem dJ6_numberOfTrailingZeros_0f7a4_5 : decode cJ6_numberOfTrailingZeros_0f7a4 5 = .ok (.isub, 1) := by decide +kernel
theorem dJ6_numberOfTrailingZeros_0f7a4_6 : decode cJ6_numberOfTrailingZeros_0f7a4 6 = .ok (.iand, 1) := by decide +kernel
theorem dJ6_numberOfTrailingZeros_0f7a4_7 : decode cJ6_numberOfTrailingZeros_0f7a4 7 = .ok (.istore_n 0, 1) := by decide +kernel
theorem dJ6_numberOfTrailingZeros_0f7a4_8 : decode cJ6_numberOfTrailingZeros_0f7a4 8 = .ok (.iload_n 0, 1) := by decide +kernel
theorem dJ6_numberOfTrailingZeros_0f7a4_9 : decode cJ6_numberOfTrailingZeros_0f7a4 9 = .ok (.ifCond .gt 8, 3) := by decide +kernel
theorem dJ6_numberOfTrailingZeros_0f7a4_12 : decode cJ6_numberOfTrailingZeros_0f7a4 12 = .ok (.iload_n 0, 1) := by decide +kernel
theorem dJ6_numberOfTrailingZeros_0f7a4_13 : decode cJ6_numberOfTrailingZeros_0f7a4 13 = .ok (.bipush 32, 2) := by decide +kernel
theorem dJ6_numberOfTrailingZeros_0f7a4_15 : decode cJ6_numberOfTrailingZeros_0f7a4 15 = .ok (.iand, 1) := by decide +kernel
theorem dJ6_numberOfTrailingZeros_0f7a4_16 : decode cJ6_numberOfTrailingZeros_0f7a4 16 = .ok (.ireturn, 1) := by decide +kernel
theorem dJ6_numberOfTrailingZeros_0f7a4_17 : decode cJ6_numberOfTrailingZeros_0f7a4 17 = .ok (.iconst 1, 1) := by decide +kernel
theorem dJ6_numberOfTrailingZeros_0f7a4_18 : decode cJ6_numberOfTrailingZeros_0f7a4 18 = .ok (.istore_n 1, 1) := by decide +kernel
theorem dJ6_numberOfTrailingZeros_0f7a4_19 : decode cJ6_numberOfTrailingZeros_0f7a4 19 = .ok (.iload_n 0, 1) := by decide +kernel
theorem dJ6_numberOfTrailingZeros_0f7a4_20 : decode cJ6_numberOfTrailingZeros_0f7a4 20 = .ok (.ldc_w 264, 3) := by decide +kernel
theorem dJ6_numberOfTrailingZeros_0f7a4_23 : decode cJ6_numberOfTrailingZeros_0f7a4 23 = .ok (.if_icmp .le 11, 3) := by decide +kernel
theorem dJ6_numberOfTrailingZeros_0f7a4_26 : decode cJ6_numberOfTrailingZeros_0f7a4 26 = .ok (.iinc 1 16, 3) := by decide +kernel
theorem dJ6_numberOfTrailingZeros_0f7a4_29 : decode cJ6_numberOfTrailingZeros_0f7a4 29 = .ok (.iload_n 0, 1) := by decide +kernel
theorem dJ6_numberOfTrailingZeros_0f7a4_30 : decode cJ6_numberOfTrailingZeros_0f7a4 30 = .ok (.bipush 16, 2) := by decide +kernel
theorem dJ6_numberOfTrailingZeros_0f7a4_32 : decode cJ6_numberOfTrailingZeros_0f7a4 32 = .ok (.iushr, 1) := by decide +kernel
theorem dJ6_numberOfTrailingZeros_0f7a4_33 : decode cJ6_numberOfTrailingZeros_0f7a4 33 = .ok (.istore_n 0, 1) := by decide +kernel
theorem dJ6_numberOfTrailingZeros_0f7a4_34 : decode cJ6_numberOfTrailingZeros_0f7a4 34 = .ok (.iload_n 0, 1) := by decide +kernel
theorem dJ6_numberOfTrailingZeros_0f7a4_35 : decode cJ6_numberOfTrailingZeros_0f7a4 35 = .ok (.sipush 256, 3) := by decide +kernel
theorem dJ6_numberOfTrailingZeros_0f7a4_38 : decode cJ6_numberOfTrailingZeros_0f7a4 38 = .ok (.if_icmp .le 11, 3) := by decide +kernel
theorem dJ6_numberOfTrailingZeros_0f7a4_41 : decode cJ6_numberOfTrailingZeros_0f7a4 41 = .ok (.iinc 1 8, 3) := by decide +kernel
theorem dJ6_numberOfTrailingZeros_0f7a4_44 : decode cJ6_numberOfTrailingZeros_0f7a4 44 = .ok (.iload_n 0, 1) := by decide +kernel
theorem dJ6_numberOfTrailingZeros_0f7a4_45 : decode cJ6_numberOfTrailingZeros_0f7a4 45 = .ok (.bipush 8, 2) := by decide +kernel
theorem dJ6_numberOfTrailingZeros_0f7a4_47 : decode cJ6_numberOfTrailingZeros_0f7a4 47 = .ok (.iushr, 1) := by decide +kernel
theorem dJ6_numberOfTrailingZeros_0f7a4_48 : decode cJ6_numberOfTrailingZeros_0f7a4 48 = .ok (.istore_n 0, 1) := by decide +kernel
theorem dJ6_numberOfTrailingZeros_0f7a4_49 : decode cJ6_numberOfTrailingZeros_0f7a4 49 = .ok (.iload_n 0, 1) := by decide +kernel
theorem dJ6_numberOfTrailingZeros_0f7a4_50 : decode cJ6_numberOfTrailingZeros_0f7a4 50 = .ok (.bipush 16, 2) := by decide +kernel
theorem dJ6_numberOfTrailingZeros_0f7a4_52 : decode cJ6_numberOfTrailingZeros_0f7a4 52 = .ok (.if_icmp .le 10, 3) := by decide +kernel
theorem dJ6_numberOfTrailingZeros_0f7a4_55 : decode cJ6_numberOfTrailingZeros_0f7a4 55 = .ok (.iinc 1 4, 3) := by decide +kernel
theorem dJ6_numberOfTrailingZeros_0f7a4_58 : decode cJ6_numberOfTrailingZeros_0f7a4 58 = .ok (.iload_n 0, 1) := by decide +kernel
theorem dJ6_numberOfTrailingZeros_0f7a4_59 : decode cJ6_numberOfTrailingZeros_0f7a4 59 = .ok (.iconst 4, 1) := by decide +kernel
theorem dJ6_numberOfTrailingZeros_0f7a4_60 : decode cJ6_numberOfTrailingZeros_0f7a4 60 = .ok (.iushr, 1) := by decide +kernel
theorem dJ6_numberOfTrailingZeros_0f7a4_61 : decode cJ6_numberOfTrailingZeros_0f7a4 61 = .ok (.istore_n 0, 1) := by decide +kernel
theorem dJ6_numberOfTrailingZeros_0f7a4_62 : decode cJ6_numberOfTrailingZeros_0f7a4 62 = .ok (.iload_n 0, 1) := by decide +kernel
theorem dJ6_numberOfTrailingZeros_0f7a4_63 : decode cJ6_numberOfTrailingZeros_0f7a4 63 = .ok (.iconst 4, 1) := by decide +kernel
theorem dJ6_numberOfTrailingZeros_0f7a4_64 : decode cJ6_numberOfTrailingZeros_0f7a4 64 = .ok (.if_icmp .le 10, 3) := by decide +kernel
theorem dJ6_numberOfTrailingZeros_0f7a4_67 : decode cJ6_numberOfTrailingZeros_0f7a4 67 = .ok (.iinc 1 2, 3) := by decide +kernel
theorem dJ6_numberOfTrailingZeros_0f7a4_70 : decode cJ6_numberOfTrailingZeros_0f7a4 70 = .ok (.iload_n 0, 1) := by decide +kernel
theorem dJ6_numberOfTrailingZeros_0f7a4_71 : decode cJ6_numberOfTrailingZeros_0f7a4 71 = .ok (.iconst 2, 1) := by decide +kernel
theorem dJ6_numberOfTrailingZeros_0f7a4_72 : decode cJ6_numberOfTrailingZeros_0f7a4 72 = .ok (.iushr, 1) := by decide +kernel
theorem dJ6_numberOfTrailingZeros_0f7a4_73 : decode cJ6_numberOfTrailingZeros_0f7a4 73 = .ok (.istore_n 0, 1) := by decide +kernel
theorem dJ6_numberOfTrailingZeros_0f7a4_74 : decode cJ6_numberOfTrailingZeros_0f7a4 74 = .ok (.iload_n 1, 1) := by decide +kernel
theorem dJ6_numberOfTrailingZeros_0f7a4_75 : decode cJ6_numberOfTrailingZeros_0f7a4 75 = .ok (.iload_n 0, 1) := by decide +kernel
theorem dJ6_numberOfTrailingZeros_0f7a4_76 : decode cJ6_numberOfTrailingZeros_0f7a4 76 = .ok (.iconst 1, 1) := by decide +kernel
theorem dJ6_numberOfTrailingZeros_0f7a4_77 : decode cJ6_numberOfTrailingZeros_0f7a4 77 = .ok (.iushr, 1) := by decide +kernel
theorem dJ6_numberOfTrailingZeros_0f7a4_78 : decode cJ6_numberOfTrailingZeros_0f7a4 78 = .ok (.iadd, 1) := by decide +kernel
theorem dJ6_numberOfTrailingZeros_0f7a4_79 : decode cJ6_numberOfTrailingZeros_0f7a4 79 = .ok (.ireturn, 1) := by decide +kernel
theorem dJ6_bitCount_0f7a4_0 : decode cJ6_bitCount_0f7a4 0 = .ok (.iload_n 0, 1) := by decide +kernel
theorem dJ6_bitCount_0f7a4_1 : decode cJ6_bitCount_0f7a4 1 = .ok (.iload_n 0, 1) := by decide +kernel
theorem dJ6_bitCount_0f7a4_2 : decode cJ6_bitCount_0f7a4 2 = .ok (.iconst 1, 1) := by decide +kernel
theorem dJ6_bitCount_0f7a4_3 : decode cJ6_bitCount_0f7a4 3 = .ok (.iushr, 1) := by decide +kernel
theorem dJ6_bitCount_0f7a4_4 : decode cJ6_bitCount_0f7a4 4 = .ok (.ldc_w 265, 3) := by decide +kernel
theorem dJ6_bitCount_0f7a4_7 : decode cJ6_bitCount_0f7a4 7 = .ok (.iand, 1) := by decide +kernel
theorem dJ6_bitCount_0f7a4_8 : decode cJ6_bitCount_0f7a4 8 = .ok (.isub, 1) := by decide +kernel
theorem dJ6_bitCount_0f7a4_9 : decode cJ6_bitCount_0f7a4 9 = .ok (.istore_n 0, 1) := by decide +kernel
theorem dJ6_bitCount_0f7a4_10 : decode cJ6_bitCount_0f7a4 10 = .ok (.iload_n 0, 1) := by decide +kernel
theorem dJ6_bitCount_0f7a4_11 : decode cJ6_bitCount_0f7a4 11 = .ok (.ldc_w 266, 3) := by decide +kernel
theorem dJ6_bitCount_0f7a4_14 : decode cJ6_bitCount_0f7a4 14 = .ok (.iand, 1) := by decide +kernel
theorem dJ6_bitCount_0f7a4_15 : decode cJ6_bitCount_0f7a4 15 = .ok (.iload_n 0, 1) := by decide +kernel
theorem dJ6_bitCount_0f7a4_16 : decode cJ6_bitCount_0f7a4 16 = .ok (.iconst 2, 1) := by decide +kernel
theorem dJ6_bitCount_0f7a4_17 : decode cJ6_bitCount_0f7a4 17 = .ok (.iushr, 1) := by decide +kernel
theorem dJ6_bitCount_0f7a4_18 : decode cJ6_bitCount_0f7a4 18 = .ok (.ldc_w 266, 3) := by decide +kernel
theorem dJ6_bitCount_0f7a4_21 : decode cJ6_bitCount_0f7a4 21 = .ok (.iand, 1) := by decide +kernel
theorem dJ6_bitCount_0f7a4_22 : decode cJ6_bitCount_0f7a4 22 = .ok (.iadd, 1) := by decide +kernel
theorem dJ6_bitCount_0f7a4_23 : decode cJ6_bitCount_0f7a4 23 = .ok (.istore_n 0, 1) := by decide +kernel
theorem dJ6_bitCount_0f7a4_24 : decode cJ6_bitCount_0f7a4 24 = .ok (.iload_n 0, 1) := by decide +kernel
theorem dJ6_bitCount_0f7a4_25 : decode cJ6_bitCount_0f7a4 25 = .ok (.iload_n 0, 1) := by decide +kernel
theorem dJ6_bitCount_0f7a4_26 : decode cJ6_bitCount_0f7a4 26 = .ok (.iconst 4, 1) := by decide +kernel
theorem dJ6_bitCount_0f7a4_27 : decode cJ6_bitCount_0f7a4 27 = .ok (.iushr, 1) := by decide +kernel
theorem dJ6_bitCount_0f7a4_28 : decode cJ6_bitCount_0f7a4 28 = .ok (.iadd, 1) := by decide +kernel
theorem dJ6_bitCount_0f7a4_29 : decode cJ6_bitCount_0f7a4 29 = .ok (.ldc_w 267, 3) := by decide +kernel
theorem dJ6_bitCount_0f7a4_32 : decode cJ6_bitCount_0f7a4 32 = .ok (.iand, 1) := by decide +kernel
theorem dJ6_bitCount_0f7a4_33 : decode cJ6_bitCount_0f7a4 33 = .ok (.istore_n 0, 1) := by decide +kernel
theorem dJ6_bitCount_0f7a4_34 : decode cJ6_bitCount_0f7a4 34 = .ok (.iload_n 0, 1) := by decide +kernel
theorem dJ6_bitCount_0f7a4_35 : decode cJ6_bitCount_0f7a4 35 = .ok (.iload_n 0, 1) := by decide +kernel
theorem dJ6_bitCount_0f7a4_36 : decode cJ6_bitCount_0f7a4 36 = .ok (.bipush 8, 2) := by decide +kernel
theorem dJ6_bitCount_0f7a4_38 : decode cJ6_bitCount_0f7a4 38 = .ok (.iushr, 1) := by decide +kernel
theorem dJ6_bitCount_0f7a4_39 : decode cJ6_bitCount_0f7a4 39 = .ok (.iadd, 1) := by decide +kernel
theorem dJ6_bitCount_0f7a4_40 : decode cJ6_bitCount_0f7a4 40 = .ok (.istore_n 0, 1) := by decide +kernel
theorem dJ6_bitCount_0f7a4_41 : decode cJ6_bitCount_0f7a4 41 = .ok (.iload_n 0, 1) := by decide +kernel
theorem dJ6_bitCount_0f7a4_42 : decode cJ6_bitCount_0f7a4 42 = .ok (.iload_n 0, 1) := by decide +kernel
theorem dJ6_bitCount_0f7a4_43 : decode cJ6_bitCount_0f7a4 43 = .ok (.bipush 16, 2) := by decide +kernel
theorem dJ6_bitCount_0f7a4_45 : decode cJ6_bitCount_0f7a4 45 = .ok (.iushr, 1) := by decide +kernel
theorem dJ6_bitCount_0f7a4_46 : decode cJ6_bitCount_0f7a4 46 = .ok (.iadd, 1) := by decide +kernel
theorem dJ6_bitCount_0f7a4_47 : decode cJ6_bitCount_0f7a4 47 = .ok (.istore_n 0, 1) := by decide +kernel
theorem dJ6_bitCount_0f7a4_48 : decode cJ6_bitCount_0f7a4 48 = .ok (.iload_n 0, 1) := by decide +kernel
theorem dJ6_bitCount_0f7a4_49 : decode cJ6_bitCount_0f7a4 49 = .ok (.bipush 63, 2) := by decide +kernel
theorem dJ6_bitCount_0f7a4_51 : decode cJ6_bitCount_0f7a4 51 = .ok (.iand, 1) := by decide +kernel
theorem dJ6_bitCount_0f7a4_52 : decode cJ6_bitCount_0f7a4 52 = .ok (.ireturn, 1) := by decide +kernel
theorem dJ9_max_7cf53_0 : decode cJ9_max_7cf53 0 = .ok (.iload_n 0, 1) := by decide +kernel
theorem dJ9_max_7cf53_1 : decode cJ9_max_7cf53 1 = .ok (.iload_n 1, 1) := by decide +kernel
theorem dJ9_max_7cf53_2 : decode cJ9_max_7cf53 2 = .ok (.if_icmp .lt 7, 3) := by decide +kernel
theorem dJ9_max_7cf53_5 : decode cJ9_max_7cf53 5 = .ok (.iload_n 0, 1) := by decide +kernel
theorem dJ9_max_7cf53_6 : decode cJ9_max_7cf53 6 = .ok (.goto 4, 3) := by decide +kernel
theorem dJ9_max_7cf53_9 : decode cJ9_max_7cf53 9 = .ok (.iload_n 1, 1) := by decide +kernel
theorem dJ9_max_7cf53_10 : decode cJ9_max_7cf53 10 = .ok (.ireturn, 1) := by decide +kernel
theorem dJ9_min_7cf53_0 : decode cJ9_min_7cf53 0 = .ok (.iload_n 0, 1) := by decide +kernel
theorem dJ9_min_7cf53_1 : decode cJ9_min_7cf53 1 = .ok (.iload_n 1, 1) := by decide +kernel
theorem dJ9_min_7cf53_2 : decode cJ9_min_7cf53 2 = .ok (.if_icmp .gt 7, 3) := by decide +kernel
theorem dJ9_min_7cf53_5 : decode cJ9_min_7cf53 5 = .ok (.iload_n 0, 1) := by decide +kernel
theorem dJ9_min_7cf53_6 : decode cJ9_min_7cf53 6 = .ok (.goto 4, 3) := by decide +kernel
theorem dJ9_min_7cf53_9 : decode cJ9_min_7cf53 9 = .ok (.iload_n 1, 1) := by decide +kernel
theorem dJ9_min_7cf53_10 : decode cJ9_min_7cf53 10 = .ok (.ireturn, 1) := by decide +kernel
end
section
/-! ROWS OVER ONE WORLD: all objects of the class and of the reference are cells of one list; what a cell holds is a function of naturals -/
abbrev gCell : Type := Nat ⊕ (Nat × List (Option Nat))
def gfl (ad : Nat → Nat) (f : Nat → Nat) : Nat → List (Option Nat) → List Value
  | _, [] => []
  | k, none :: t => Value.int (nI (f k)) :: gfl ad f (k + 1) t
  | k, some q :: t => Value.ref (ad q) :: gfl ad f (k + 1) t
def gce (ad : Nat → Nat) (tI : ClassId) (f : Nat → Nat) (c : gCell) : va_E := match c with
  | .inl n => .inl (tI, n, .inl (fun j => nI (f j)))
  | .inr q => .inr (q.1, gfl ad f 0 q.2)
def gmk (ad : Nat → Nat) (tI : ClassId) (S : Nat → Nat → Nat) : Nat → List gCell → va_W
  | _, [] => []
  | q, c :: t => (ad q, gce ad tI (S q) c) :: gmk ad tI S (q + 1) t
theorem gfl_get (ad : Nat → Nat) (f : Nat → Nat) : ∀ (fl : List (Option Nat)) (k i : Nat), (gfl ad f k fl)[i]? = (fl[i]?).map (fun o => match o with | none => Value.int (nI (f (k + i))) | some q => Value.ref (ad q))
  | [], k, i => by simp [gfl]
  | none :: t, k, 0 => by simp [gfl]
  | some q :: t, k, 0 => by simp [gfl]
  | none :: t, k, i + 1 => by
    simp only [gfl, List.getElem?_cons_succ]
    rw [gfl_get ad f t (k + 1) i, show k + 1 + i = k + (i + 1) by omega]
  | some q :: t, k, i + 1 => by
    simp only [gfl, List.getElem?_cons_succ]
    rw [gfl_get ad f t (k + 1) i, show k + 1 + i = k + (i + 1) by omega]
theorem gmk_get (ad : Nat → Nat) (tI : ClassId) (S : Nat → Nat → Nat) : ∀ (sh : List gCell) (k i : Nat), (gmk ad tI S k sh)[i]? = (sh[i]?).map (fun c => (ad (k + i), gce ad tI (S (k + i)) c))
  | [], k, i => by simp [gmk]
  | c :: t, k, 0 => by simp [gmk]
  | c :: t, k, i + 1 => by
    simp only [gmk, List.getElem?_cons_succ]
    rw [gmk_get ad tI S t (k + 1) i, show k + 1 + i = k + (i + 1) by omega]
theorem gfl_len (ad : Nat → Nat) (f : Nat → Nat) : ∀ (fl : List (Option Nat)) (k : Nat), (gfl ad f k fl).length = fl.length
  | [], _ => rfl
  | none :: t, k => by simp [gfl, gfl_len ad f t]
  | some _ :: t, k => by simp [gfl, gfl_len ad f t]
theorem gfl_set (ad : Nat → Nat) (f : Nat → Nat) {fl : List (Option Nat)} {i x : Nat} (h : fl[i]? = some none) : (gfl ad f 0 fl).set i (Value.int (nI x)) = gfl ad (va_up f i x) 0 fl := by
  apply List.ext_getElem?
  intro j
  have hl := (List.getElem?_eq_some_iff.mp h).1
  by_cases hj : j = i
  · subst hj
    rw [List.getElem?_set_self (by rw [gfl_len]; exact hl), gfl_get, h]
    simp [va_up]
  · rw [List.getElem?_set_ne (Ne.symm hj), gfl_get, gfl_get]
    cases fl[j]? with
    | none => rfl
    | some o => cases o <;> simp [va_up, hj]
theorem gmk_set (ad : Nat → Nat) (tI : ClassId) (S : Nat → Nat → Nat) {sh : List gCell} {i : Nat} {c : gCell} (f : Nat → Nat) (h : sh[i]? = some c) : (gmk ad tI S 0 sh).set i (ad i, gce ad tI f c) = gmk ad tI (va_up S i f) 0 sh := by
  apply List.ext_getElem?
  intro j
  have hl := (List.getElem?_eq_some_iff.mp h).1
  have hlen : (gmk ad tI S 0 sh).length = sh.length := by
    refine Nat.le_antisymm (Nat.le_of_not_lt fun q => ?_) (Nat.le_of_not_lt fun q => ?_)
    · have := gmk_get ad tI S sh 0 sh.length
      rw [List.getElem?_eq_getElem q, List.getElem?_eq_none (Nat.le_refl _)] at this
      cases this
    · have := gmk_get ad tI S sh 0 (gmk ad tI S 0 sh).length
      rw [List.getElem?_eq_none (Nat.le_refl _), List.getElem?_eq_getElem q] at this
      cases this
  by_cases hj : j = i
  · subst hj
    rw [List.getElem?_set_self (by rw [hlen]; exact hl), gmk_get, h]
    simp [va_up]
  · rw [List.getElem?_set_ne (Ne.symm hj), gmk_get, gmk_get]
    cases sh[j]? with
    | none => rfl
    | some o => simp [va_up, hj]
theorem gupd (f : Nat → Nat) (i x : Nat) : upd (fun j => nI (f j)) i (nI x) = fun j => nI (va_up f i x j) := by
  funext j
  by_cases h : j = i
  · subst h; simp [upd, va_up]
  · simp [upd, va_up, h]
/-- the cells: the class (0 to 21), the reference (22 to 31) -/
def shW : List gCell := [.inr (5, [some 1, some 8, some 10, some 16, some 18]), .inr (2, [none, none, none, none, none, none, some 2, some 3, some 4, some 5, some 6, some 7]), .inl 16, .inl 16, .inl 32, .inl 32, .inl 32, .inl 12, .inr (3, [some 1, some 9]), .inl 28, .inr (0, [some 1, some 11, some 12, some 13, some 14, some 15]), .inl 12, .inl 12, .inl 12, .inl 12, .inl 12, .inr (1, [some 1, some 17]), .inl 12, .inr (4, [some 1, some 19, some 20, some 21]), .inl 144, .inl 6, .inl 384, .inr (6, [none, none, none, none, none, some 23, some 24, some 25, some 26, some 27, none, none, some 28, some 29, some 30, some 31, none]), .inl 32, .inl 32, .inl 16, .inl 16, .inl 12, .inl 12, .inl 144, .inl 6, .inl 16]
def gw (ad : Nat → Nat) (tI : ClassId) (S : Nat → Nat → Nat) : va_W := gmk ad tI S 0 shW
theorem gw_len (ad : Nat → Nat) (tI : ClassId) (S : Nat → Nat → Nat) : (gw ad tI S).length = 32 := rfl
theorem gw_get {ad : Nat → Nat} {tI : ClassId} {S : Nat → Nat → Nat} {ex : va_W} {q : Nat} {c : gCell} (h : shW[q]? = some c) : (gw ad tI S ++ ex)[q]? = some (ad q, gce ad tI (S q) c) := by
  have hl : q < 32 := (List.getElem?_eq_some_iff.mp h).1
  rw [List.getElem?_append_left (by rw [gw_len]; exact hl), gw, gmk_get, h]
  simp
theorem gw_set {ad : Nat → Nat} {tI : ClassId} {S : Nat → Nat → Nat} {ex : va_W} {q : Nat} {c : gCell} (f : Nat → Nat) (h : shW[q]? = some c) : (gw ad tI S ++ ex).set q (ad q, gce ad tI f c) = gw ad tI (va_up S q f) ++ ex := by
  have hl : q < 32 := (List.getElem?_eq_some_iff.mp h).1
  rw [List.set_append_left _ _ (by rw [gw_len]; exact hl), gw, gmk_set ad tI S f h]
  rfl
/-- S with x at the place j of the cell q -/
def gup (S : Nat → Nat → Nat) (q j x : Nat) : Nat → Nat → Nat := va_up S q (va_up (S q) j x)
theorem gup_same (S : Nat → Nat → Nat) (q j x : Nat) : gup S q j x q j = x := by simp [gup, va_up]
theorem gup_cell (S : Nat → Nat → Nat) {q j x a : Nat} (h : a ≠ q) : gup S q j x a = S a := by funext b; simp [gup, va_up, h]
theorem gup_place (S : Nat → Nat → Nat) {q j x b : Nat} (h : b ≠ j) : gup S q j x q b = S q b := by simp [gup, va_up, h]
/-- the links between nest mates, which no list of words may hold -/
def nestL : List (String × Nat × MethodName × String) := [("ValveWalk", 11, yX2_init, "ValveWalk"), ("ValveWalk$Breaks", 31, yX5_partOfPipe, "ValveWalk"), ("ValveWalk$Breaks", 57, yX5_hasBit, "ValveWalk"), ("ValveWalk$Flushing", 29, yX5_hasBit, "ValveWalk"), ("ValveWalk$Network", 51, yX5_partOfPipe, "ValveWalk"), ("ValveWalk$Network", 55, yX5_hasBit, "ValveWalk"), ("ValveWalk$Network", 59, yX5_withBit, "ValveWalk"), ("ValveWalk$Segments", 41, yX5_hasBit, "ValveWalk"), ("ValveWalk$Segments", 58, yX5_partOfPipe, "ValveWalk"), ("ValveWalk$Walks", 32, yX5_hasBit, "ValveWalk")]
def gN (U : State) : Prop := ∀ q ∈ nestL, va_Nw (.methodLinkNest q.1 q.2.1 q.2.2.1 q.2.2.2) U
theorem gN.warm {s U : State} (hW : s.WarmedH U.vm) (h : gN s) : gN U := fun q hq => va_Nw.warmM hW (h q hq)
theorem gN.same {u U : State} (hv : u.vm = U.vm) (h : gN u) : gN U := fun q hq => va_Nw.same rfl hv (h q hq)
/-- what stays through all calls of one launch: launch, classes and slots, the cells' addresses, the classes of int[] and long[], further cells -/
abbrev gZ : Type := Launch × va_G × (Nat → Nat) × ClassId × ClassId × va_W
def gz_l (Z : gZ) : Launch := Z.1
def gz_D (Z : gZ) : va_G := Z.2.1
def gz_ad (Z : gZ) : Nat → Nat := Z.2.2.1
def gz_I (Z : gZ) : ClassId := Z.2.2.2.1
def gz_L (Z : gZ) : ClassId := Z.2.2.2.2.1
def gz_ex (Z : gZ) : va_W := Z.2.2.2.2.2
def gz_t (Z : gZ) : List (ClassId × FieldType) := [(gz_I Z, .int), (gz_L Z, .long)]
def gz_w (Z : gZ) (S : Nat → Nat → Nat) : va_W := gw (gz_ad Z) (gz_I Z) S ++ gz_ex Z
/-- a method's body: program, environment, room, entry state .. -/
abbrev gC : Type := gZ × Program × Env × Room × State × MethodId × Array Value × List Frame × Method × Code × Nat × (Nat → Prop) × Heap × (State → Prop) × Nat × Nat
def g_z (X : gC) : gZ := X.1
def g_p (X : gC) : Program := X.2.1
def g_e (X : gC) : Env := X.2.2.1
def g_R (X : gC) : Room := X.2.2.2.1
def g_s (X : gC) : State := X.2.2.2.2.1
def g_m (X : gC) : MethodId := X.2.2.2.2.2.1
def g_a (X : gC) : Array Value := X.2.2.2.2.2.2.1
def g_b (X : gC) : List Frame := X.2.2.2.2.2.2.2.1
def g_mt (X : gC) : Method := X.2.2.2.2.2.2.2.2.1
def g_c (X : gC) : Code := X.2.2.2.2.2.2.2.2.2.1
def g_n (X : gC) : Nat := X.2.2.2.2.2.2.2.2.2.2.1
def g_A (X : gC) : Nat → Prop := X.2.2.2.2.2.2.2.2.2.2.2.1
def g_H (X : gC) : Heap := X.2.2.2.2.2.2.2.2.2.2.2.2.1
def g_Q (X : gC) : State → Prop := X.2.2.2.2.2.2.2.2.2.2.2.2.2.1
def g_ce (X : gC) : Nat := X.2.2.2.2.2.2.2.2.2.2.2.2.2.2.1
def g_sl (X : gC) : Nat := X.2.2.2.2.2.2.2.2.2.2.2.2.2.2.2
def g_ad (X : gC) : Nat → Nat := gz_ad (g_z X)
/-- the machine stands at pc, with the locals lo, the operands st, the world S: it comes to the body's end -/
def gG (X : gC) (pc : Nat) (lo : List (Nat × Value)) (st : List Value) (S : Nat → Nat → Nat) : Prop :=
  ∀ (ls : Array Slot) (H : Heap) (locs : List Loc), lv_has ls (g_n X) lo → va_P (gz_D (g_z X)) vwCl (gz_w (g_z X) S) H → va_D (g_A X) (gz_w (g_z X) S) → va_S (g_A X) (g_H X) H locs → W (g_p X) (gz_l (g_z X)) (g_e X) (g_R X) (g_s X) (g_m X) (g_a X) (g_b X) (g_mt X) (g_c X) H locs (g_ce X) (g_sl X) (g_Q X) (F0 (g_m X) pc ls st)
def gOk (X : gC) (cc : ByteArray) (nL : Nat) (ws : List Cond) (own : String) : Prop :=
  CallFix (g_p X) (g_m X) (g_c X) cc nL (g_s X) (g_a X) ws own ∧ g_n X = nL ∧ va_K (gz_D (g_z X)) vwCl (gz_t (g_z X)) (g_s X) ∧ gN (g_s X) ∧ (∀ q : Nat, (g_H X).size ≤ q → g_A X q) ∧ g_ce X ≤ (g_R X).cells ∧ g_sl X ≤ (g_R X).slots

theorem gi_toInt {a : Nat} (ha : a < 4294967296) : (nI a).toInt = if a < 2147483648 then (a : Int) else (a : Int) - 4294967296 := by
  have h : (nI a).toInt = (a : Int).bmod (2 ^ 32) := BitVec.toInt_ofNat a
  rw [h, Int.bmod]
  split <;> split <;> omega
theorem gi_eq {a b : Nat} (ha : a < 4294967296) (hb : b < 4294967296) : nI a = nI b ↔ a = b := by
  rw [← Int32.toInt_inj, gi_toInt ha, gi_toInt hb]
  split <;> split <;> omega
theorem gi_le {a b : Nat} (ha : a < 4294967296) (hb : b < 4294967296) : nI a ≤ nI b ↔ (b < 2147483648 ∧ 2147483648 ≤ a) ∨ (a ≤ b ∧ (b < 2147483648 ∨ 2147483648 ≤ a)) := by
  rw [Int32.le_iff_toInt_le, gi_toInt ha, gi_toInt hb]
  split <;> split <;> omega
theorem gi_lt {a b : Nat} (ha : a < 4294967296) (hb : b < 4294967296) : nI a < nI b ↔ (b < 2147483648 ∧ 2147483648 ≤ a) ∨ (a < b ∧ (b < 2147483648 ∨ 2147483648 ≤ a)) := by
  rw [Int32.lt_iff_toInt_lt, gi_toInt ha, gi_toInt hb]
  split <;> split <;> omega
theorem gi_of (x : Int32) : ∃ n : Nat, n < 4294967296 ∧ x = nI n := by
  refine ⟨x.toBitVec.toNat, x.toBitVec.isLt, ?_⟩
  apply Int32.toBitVec_inj.mp
  simp [nI]
theorem gi_and (a b : Nat) : nI a &&& nI b = nI (a &&& b) := by
  apply Int32.toBitVec_inj.mp
  simp [nI, BitVec.ofNat_and]
theorem gi_or (a b : Nat) : nI a ||| nI b = nI (a ||| b) := by
  apply Int32.toBitVec_inj.mp
  simp [nI, BitVec.ofNat_or]
theorem gi_xor (a b : Nat) : nI a ^^^ nI b = nI (a ^^^ b) := by
  apply Int32.toBitVec_inj.mp
  simp [nI, BitVec.ofNat_xor]
theorem gi_cnt : ∀ k : Fin 32, ((nI k.val &&& 31).toBitVec.smod 32).toNat = k.val := by decide +kernel
theorem gi_shl (a : Nat) {k : Nat} (hk : k < 32) : nI a <<< (nI k &&& 31) = nI (a <<< k) := by
  apply Int32.toBitVec_inj.mp
  apply BitVec.eq_of_toNat_eq
  rw [pk_shl (nI a) (nI k &&& 31) k (gi_cnt ⟨k, hk⟩)]
  simp [nI, Nat.shiftLeft_eq, Nat.mod_mul_mod]
theorem gi_shr {a k : Nat} (ha : a < 2147483648) (hk : k < 32) : nI a >>> (nI k &&& 31) = nI (a >>> k) := by
  rw [pk_shrN ha (nI k &&& 31) k (gi_cnt ⟨k, hk⟩), Nat.shiftRight_eq_div_pow]
theorem gi_sub {a b : Nat} (h : b ≤ a) : nI a - nI b = nI (a - b) := pk_sub h
theorem gi_inc (a : Nat) : nI a + Int32.ofInt 1 = nI (a + 1) := nI_1 a
theorem gi_inc5 (a : Nat) : nI a + Int32.ofInt 5 = nI (a + 5) := nI_add a 5
theorem gi_dec {a : Nat} (h : 1 ≤ a) : nI a + Int32.ofInt (-1) = nI (a - 1) := by
  obtain ⟨b, rfl⟩ : ∃ b, a = b + 1 := ⟨a - 1, by omega⟩
  exact pk_m1 b
theorem gi_in {i n : Nat} (h : i < n) (hn : n < 2147483648) : vp_in (nI i) n := vp_in_nI h hn
theorem gi_cl {i : Nat} (h : i < 2147483648) : (nI i).toNatClampNeg = i := nI_clamp h
section GR
variable {X : gC} {cc : ByteArray} {nL : Nat} {ws : List Cond} {own : String} {pc : Nat} {lo lo' : List (Nat × Value)} {st : List Value} {S : Nat → Nat → Nat}
theorem g_loc (ks : List Nat) (h : lv_pick lo ks = lo') (kk : gG X pc lo' st S) : gG X pc lo st S := fun ls H locs hl hP hD hS => kk ls H locs (lv_sub hl ks h) hP hD hS
theorem g_pc {pc' : Nat} (h : pc = pc') (kk : gG X pc' lo st S) : gG X pc lo st S := h ▸ kk
theorem g_iload_n (K : gOk X cc nL ws own) {k : Fin 4} {x : Int32} (j : Nat) (hdg : decode cc pc = .ok (.iload_n k, 1)) (hk : lo[j]? = some (k.val, .int x)) (kk : gG X (pc + 1) lo (.int x :: st) S) : gG X pc lo st S := fun ls H locs hl hP hD hS => lv_iload_n K.1.1 K.1.2.1 hdg rfl (lv_at hl j hk) (kk ls H locs hl hP hD hS)
theorem g_iload (K : gOk X cc nL ws own) {i : Nat} {x : Int32} (j : Nat) (hdg : decode cc pc = .ok (.iload i, 2)) (hk : lo[j]? = some (i, .int x)) (kk : gG X (pc + 2) lo (.int x :: st) S) : gG X pc lo st S := fun ls H locs hl hP hD hS => lv_iload K.1.1 K.1.2.1 hdg (lv_at hl j hk) (kk ls H locs hl hP hD hS)
theorem g_aload_n (K : gOk X cc nL ws own) {k : Fin 4} {x : Nat} (j : Nat) (hdg : decode cc pc = .ok (.aload_n k, 1)) (hk : lo[j]? = some (k.val, .ref x)) (kk : gG X (pc + 1) lo (.ref x :: st) S) : gG X pc lo st S := fun ls H locs hl hP hD hS => lv_aload_n K.1.1 K.1.2.1 hdg rfl (lv_at hl j hk) (kk ls H locs hl hP hD hS)
theorem g_aload (K : gOk X cc nL ws own) {i : Nat} {x : Nat} (j : Nat) (hdg : decode cc pc = .ok (.aload i, 2)) (hk : lo[j]? = some (i, .ref x)) (kk : gG X (pc + 2) lo (.ref x :: st) S) : gG X pc lo st S := fun ls H locs hl hP hD hS => lv_aload K.1.1 K.1.2.1 hdg (lv_at hl j hk) (kk ls H locs hl hP hD hS)
theorem g_istore_n (K : gOk X cc nL ws own) {k : Fin 4} {x : Int32} (hdg : decode cc pc = .ok (.istore_n k, 1)) (hn : k.val < nL) (hl9 : (k.val, Value.int x) :: lo.filter (fun q => !(q.1 == k.val) && !(q.1 + 1 == k.val && q.2.category == 2)) = lo') (kk : gG X (pc + 1) lo' st S) : gG X pc lo (.int x :: st) S := fun ls H locs hl hP hD hS => lv_istore_n K.1.1 K.1.2.1 hdg rfl hl (by rw [K.2.1]; exact hn) hl9 (fun ls hl => kk ls H locs hl hP hD hS)
theorem g_istore (K : gOk X cc nL ws own) {i : Nat} {x : Int32} (hdg : decode cc pc = .ok (.istore i, 2)) (hn : i < nL) (hl9 : (i, Value.int x) :: lo.filter (fun q => !(q.1 == i) && !(q.1 + 1 == i && q.2.category == 2)) = lo') (kk : gG X (pc + 2) lo' st S) : gG X pc lo (.int x :: st) S := fun ls H locs hl hP hD hS => lv_istore K.1.1 K.1.2.1 hdg hl (by rw [K.2.1]; exact hn) hl9 (fun ls hl => kk ls H locs hl hP hD hS)
theorem g_astore_n (K : gOk X cc nL ws own) {k : Fin 4} {x : Nat} (hdg : decode cc pc = .ok (.astore_n k, 1)) (hn : k.val < nL) (hl9 : (k.val, Value.ref x) :: lo.filter (fun q => !(q.1 == k.val) && !(q.1 + 1 == k.val && q.2.category == 2)) = lo') (kk : gG X (pc + 1) lo' st S) : gG X pc lo (.ref x :: st) S := fun ls H locs hl hP hD hS => lv_astore_n K.1.1 K.1.2.1 hdg rfl hl (by rw [K.2.1]; exact hn) hl9 (fun ls hl => kk ls H locs hl hP hD hS)
theorem g_astore (K : gOk X cc nL ws own) {i : Nat} {x : Nat} (hdg : decode cc pc = .ok (.astore i, 2)) (hn : i < nL) (hl9 : (i, Value.ref x) :: lo.filter (fun q => !(q.1 == i) && !(q.1 + 1 == i && q.2.category == 2)) = lo') (kk : gG X (pc + 2) lo' st S) : gG X pc lo (.ref x :: st) S := fun ls H locs hl hP hD hS => lv_astore K.1.1 K.1.2.1 hdg hl (by rw [K.2.1]; exact hn) hl9 (fun ls hl => kk ls H locs hl hP hD hS)
theorem g_iinc (K : gOk X cc nL ws own) {i a b : Nat} {n : Int} (j : Nat) (hdg : decode cc pc = .ok (.iinc i n, 3)) (hk : lo[j]? = some (i, .int (nI a))) (hv : nI a + Int32.ofInt n = nI b) (hn : i < nL) (hl9 : (i, Value.int (nI b)) :: lo.filter (fun q => !(q.1 == i) && !(q.1 + 1 == i && q.2.category == 2)) = lo') (kk : gG X (pc + 3) lo' st S) : gG X pc lo st S := fun ls H locs hl hP hD hS => lv_iinc K.1.1 K.1.2.1 hdg hl hk hv (by rw [K.2.1]; exact hn) hl9 (fun ls hl => kk ls H locs hl hP hD hS)
theorem g_iconst (K : gOk X cc nL ws own) {n : Int} (v : Nat) (hdg : decode cc pc = .ok (.iconst n, 1)) (hv : Int32.ofInt n = nI v) (kk : gG X (pc + 1) lo (.int (nI v) :: st) S) : gG X pc lo st S := fun ls H locs hl hP hD hS => lv_iconst K.1.1 K.1.2.1 hdg hv (kk ls H locs hl hP hD hS)
theorem g_bipush (K : gOk X cc nL ws own) {n : Int} (v : Nat) (hdg : decode cc pc = .ok (.bipush n, 2)) (hv : (Int8.ofInt n).toInt32 = nI v) (kk : gG X (pc + 2) lo (.int (nI v) :: st) S) : gG X pc lo st S := fun ls H locs hl hP hD hS => lv_bipush K.1.1 K.1.2.1 hdg hv (kk ls H locs hl hP hD hS)
theorem g_sipush (K : gOk X cc nL ws own) {n : Int} (v : Nat) (hdg : decode cc pc = .ok (.sipush n, 3)) (hv : (Int16.ofInt n).toInt32 = nI v) (kk : gG X (pc + 3) lo (.int (nI v) :: st) S) : gG X pc lo st S := fun ls H locs hl hP hD hS => lv_sipush K.1.1 K.1.2.1 hdg hv (kk ls H locs hl hP hD hS)
theorem g_ldc (K : gOk X cc nL ws own) {index : Nat} {w : Int32} (v : Nat) (hc : (Jvm.Cond.constant own index w).before (g_a X) (g_s X) = true) (hv : w = nI v) (hdg : decode cc pc = .ok (.ldc index, 2)) (kk : gG X (pc + 2) lo (.int (nI v) :: st) S) : gG X pc lo st S := fun ls H locs hl hP hD hS => by rw [← hv] at kk; exact lv_ldc K.1.1 K.1.2.1 K.1.2.2.2.1 hc hdg (kk ls H locs hl hP hD hS)
theorem g_iadd (K : gOk X cc nL ws own) {a b : Nat} (hdg : decode cc pc = .ok (.iadd, 1)) (kk : gG X (pc + 1) lo (.int (nI (a + b)) :: st) S) : gG X pc lo (.int (nI b) :: .int (nI a) :: st) S := fun ls H locs hl hP hD hS => lv_iadd K.1.1 K.1.2.1 hdg (by rw [nI_add]; exact kk ls H locs hl hP hD hS)
theorem g_imul (K : gOk X cc nL ws own) {a b : Nat} (hdg : decode cc pc = .ok (.imul, 1)) (kk : gG X (pc + 1) lo (.int (nI (a * b)) :: st) S) : gG X pc lo (.int (nI b) :: .int (nI a) :: st) S := fun ls H locs hl hP hD hS => lv_imul K.1.1 K.1.2.1 hdg (by rw [pk_mul]; exact kk ls H locs hl hP hD hS)
theorem g_iand (K : gOk X cc nL ws own) {a b : Nat} (hdg : decode cc pc = .ok (.iand, 1)) (kk : gG X (pc + 1) lo (.int (nI (a &&& b)) :: st) S) : gG X pc lo (.int (nI b) :: .int (nI a) :: st) S := fun ls H locs hl hP hD hS => lv_iand K.1.1 K.1.2.1 hdg (by rw [gi_and]; exact kk ls H locs hl hP hD hS)
theorem g_ior (K : gOk X cc nL ws own) {a b : Nat} (hdg : decode cc pc = .ok (.ior, 1)) (kk : gG X (pc + 1) lo (.int (nI (a ||| b)) :: st) S) : gG X pc lo (.int (nI b) :: .int (nI a) :: st) S := fun ls H locs hl hP hD hS => lv_ior K.1.1 K.1.2.1 hdg (by rw [gi_or]; exact kk ls H locs hl hP hD hS)
theorem g_ixor (K : gOk X cc nL ws own) {a b : Nat} (hdg : decode cc pc = .ok (.ixor, 1)) (kk : gG X (pc + 1) lo (.int (nI (a ^^^ b)) :: st) S) : gG X pc lo (.int (nI b) :: .int (nI a) :: st) S := fun ls H locs hl hP hD hS => lv_ixor K.1.1 K.1.2.1 hdg (by rw [gi_xor]; exact kk ls H locs hl hP hD hS)
theorem g_isub (K : gOk X cc nL ws own) {a b : Nat} (h : b ≤ a) (hdg : decode cc pc = .ok (.isub, 1)) (kk : gG X (pc + 1) lo (.int (nI (a - b)) :: st) S) : gG X pc lo (.int (nI b) :: .int (nI a) :: st) S := fun ls H locs hl hP hD hS => lv_isub K.1.1 K.1.2.1 hdg (by rw [gi_sub h]; exact kk ls H locs hl hP hD hS)
theorem g_isub' (K : gOk X cc nL ws own) {x y : Int32} (r : Nat) (h : x - y = nI r) (hdg : decode cc pc = .ok (.isub, 1)) (kk : gG X (pc + 1) lo (.int (nI r) :: st) S) : gG X pc lo (.int y :: .int x :: st) S := fun ls H locs hl hP hD hS => lv_isub K.1.1 K.1.2.1 hdg (by rw [h]; exact kk ls H locs hl hP hD hS)
theorem g_ineg' (K : gOk X cc nL ws own) {x : Int32} (r : Nat) (h : -x = nI r) (hdg : decode cc pc = .ok (.ineg, 1)) (kk : gG X (pc + 1) lo (.int (nI r) :: st) S) : gG X pc lo (.int x :: st) S := fun ls H locs hl hP hD hS => lv_ineg K.1.1 K.1.2.1 hdg (by rw [h]; exact kk ls H locs hl hP hD hS)
theorem g_ishl (K : gOk X cc nL ws own) {a b : Nat} (h : b < 32) (hdg : decode cc pc = .ok (.ishl, 1)) (kk : gG X (pc + 1) lo (.int (nI (a <<< b)) :: st) S) : gG X pc lo (.int (nI b) :: .int (nI a) :: st) S := fun ls H locs hl hP hD hS => lv_ishl K.1.1 K.1.2.1 hdg (by rw [gi_shl a h]; exact kk ls H locs hl hP hD hS)
theorem g_ishr (K : gOk X cc nL ws own) {a b : Nat} (ha : a < 2147483648) (h : b < 32) (hdg : decode cc pc = .ok (.ishr, 1)) (kk : gG X (pc + 1) lo (.int (nI (a >>> b)) :: st) S) : gG X pc lo (.int (nI b) :: .int (nI a) :: st) S := fun ls H locs hl hP hD hS => lv_ishr K.1.1 K.1.2.1 hdg (by rw [gi_shr ha h]; exact kk ls H locs hl hP hD hS)
theorem g_idiv (K : gOk X cc nL ws own) {a b : Nat} (ha : a < 2147483648) (h0 : 0 < b) (hb : b < 2147483648) (hdg : decode cc pc = .ok (.idiv, 1)) (kk : gG X (pc + 1) lo (.int (nI (a / b)) :: st) S) : gG X pc lo (.int (nI b) :: .int (nI a) :: st) S := fun ls H locs hl hP hD hS => lv_idiv K.1.1 K.1.2.1 hdg (nI_ne0 h0 hb) (by rw [pk_div ha h0 hb]; exact kk ls H locs hl hP hD hS)
theorem g_irem (K : gOk X cc nL ws own) {a b : Nat} (ha : a < 2147483648) (h0 : 0 < b) (hb : b < 2147483648) (hdg : decode cc pc = .ok (.irem, 1)) (kk : gG X (pc + 1) lo (.int (nI (a % b)) :: st) S) : gG X pc lo (.int (nI b) :: .int (nI a) :: st) S := fun ls H locs hl hP hD hS => lv_irem K.1.1 K.1.2.1 hdg (nI_ne0 h0 hb) (by rw [pk_rem ha h0 hb]; exact kk ls H locs hl hP hD hS)
theorem g_iushr (K : gOk X cc nL ws own) {a b : Nat} (ha : a < 4294967296) (v : Nat) (h : ((nI a).toUInt32 >>> ((nI b).toUInt32 &&& Int32.toUInt32 31)).toInt32 = nI v) (hdg : decode cc pc = .ok (.iushr, 1)) (kk : gG X (pc + 1) lo (.int (nI v) :: st) S) : gG X pc lo (.int (nI b) :: .int (nI a) :: st) S := fun ls H locs hl hP hD hS => lv_iushr K.1.1 K.1.2.1 hdg h (kk ls H locs hl hP hD hS)
theorem g_dup (K : gOk X cc nL ws own) {v : Value} (hdg : decode cc pc = .ok (.dup, 1)) (hv : v.category = 1) (kk : gG X (pc + 1) lo (v :: v :: st) S) : gG X pc lo (v :: st) S := fun ls H locs hl hP hD hS => lv_dup K.1.1 K.1.2.1 hdg hv (kk ls H locs hl hP hD hS)
theorem g_pop (K : gOk X cc nL ws own) {v : Value} (hdg : decode cc pc = .ok (.pop, 1)) (hv : v.category = 1) (kk : gG X (pc + 1) lo st S) : gG X pc lo (v :: st) S := fun ls H locs hl hP hD hS => lv_pop K.1.1 K.1.2.1 hdg hv (kk ls H locs hl hP hD hS)
theorem g_dup2 (K : gOk X cc nL ws own) {v w : Value} (hdg : decode cc pc = .ok (.dup2, 1)) (hv : v.category = 1) (hw : w.category = 1) (kk : gG X (pc + 1) lo (v :: w :: v :: w :: st) S) : gG X pc lo (v :: w :: st) S := fun ls H locs hl hP hD hS => lv_dup2_11 K.1.1 K.1.2.1 hdg hv hw (kk ls H locs hl hP hD hS)
theorem g_dup_x1 (K : gOk X cc nL ws own) {v w : Value} (hdg : decode cc pc = .ok (.dup_x1, 1)) (hv : v.category = 1) (hw : w.category = 1) (kk : gG X (pc + 1) lo (v :: w :: v :: st) S) : gG X pc lo (v :: w :: st) S := fun ls H locs hl hP hD hS => lv_dup_x1 K.1.1 K.1.2.1 hdg hv hw (kk ls H locs hl hP hD hS)
theorem g_goto (K : gOk X cc nL ws own) {off : Int} {tgt : Nat} (hdg : decode cc pc = .ok (.goto off, 3)) (ht : (pc : Int) + off = (tgt : Int)) (kk : gG X tgt lo st S) : gG X pc lo st S := fun ls H locs hl hP hD hS => lv_goto K.1.1 K.1.2.1 hdg ht (kk ls H locs hl hP hD hS)
theorem g_icmp_ge (K : gOk X cc nL ws own) {off : Int} {tgt a b : Nat} (hdg : decode cc pc = .ok (.if_icmp .ge off, 3)) (ht : (pc : Int) + off = (tgt : Int)) (ha : a < 2147483648) (hb : b < 2147483648) (kt : b ≤ a → gG X tgt lo st S) (kf : a < b → gG X (pc + 3) lo st S) : gG X pc lo (.int (nI b) :: .int (nI a) :: st) S := fun ls H locs hl hP hD hS => lv_icmp_ge K.1.1 K.1.2.1 hdg ht (fun h => kt (by have q := @nI_leI b a hb ha; first | exact q.mp h | (rw [q] at h; omega)) ls H locs hl hP hD hS) (fun h => kf (by have q := @nI_leI b a hb ha; first | exact q.mp h | (rw [q] at h; omega)) ls H locs hl hP hD hS)
theorem g_icmp_lt (K : gOk X cc nL ws own) {off : Int} {tgt a b : Nat} (hdg : decode cc pc = .ok (.if_icmp .lt off, 3)) (ht : (pc : Int) + off = (tgt : Int)) (ha : a < 2147483648) (hb : b < 2147483648) (kt : a < b → gG X tgt lo st S) (kf : b ≤ a → gG X (pc + 3) lo st S) : gG X pc lo (.int (nI b) :: .int (nI a) :: st) S := fun ls H locs hl hP hD hS => lv_icmp_lt K.1.1 K.1.2.1 hdg ht (fun h => kt (by have q := @nI_ltI a b ha hb; first | exact q.mp h | (rw [q] at h; omega)) ls H locs hl hP hD hS) (fun h => kf (by have q := @nI_ltI a b ha hb; first | exact q.mp h | (rw [q] at h; omega)) ls H locs hl hP hD hS)
theorem g_icmp_le (K : gOk X cc nL ws own) {off : Int} {tgt a b : Nat} (hdg : decode cc pc = .ok (.if_icmp .le off, 3)) (ht : (pc : Int) + off = (tgt : Int)) (ha : a < 2147483648) (hb : b < 2147483648) (kt : a ≤ b → gG X tgt lo st S) (kf : b < a → gG X (pc + 3) lo st S) : gG X pc lo (.int (nI b) :: .int (nI a) :: st) S := fun ls H locs hl hP hD hS => lv_icmp_le K.1.1 K.1.2.1 hdg ht (fun h => kt (by have q := @nI_leI a b ha hb; first | exact q.mp h | (rw [q] at h; omega)) ls H locs hl hP hD hS) (fun h => kf (by have q := @nI_leI a b ha hb; first | exact q.mp h | (rw [q] at h; omega)) ls H locs hl hP hD hS)
theorem g_icmp_gt (K : gOk X cc nL ws own) {off : Int} {tgt a b : Nat} (hdg : decode cc pc = .ok (.if_icmp .gt off, 3)) (ht : (pc : Int) + off = (tgt : Int)) (ha : a < 2147483648) (hb : b < 2147483648) (kt : b < a → gG X tgt lo st S) (kf : a ≤ b → gG X (pc + 3) lo st S) : gG X pc lo (.int (nI b) :: .int (nI a) :: st) S := fun ls H locs hl hP hD hS => lv_icmp_gt K.1.1 K.1.2.1 hdg ht (fun h => kt (by have q := @nI_ltI b a hb ha; first | exact q.mp h | (rw [q] at h; omega)) ls H locs hl hP hD hS) (fun h => kf (by have q := @nI_ltI b a hb ha; first | exact q.mp h | (rw [q] at h; omega)) ls H locs hl hP hD hS)
theorem g_icmp_eq (K : gOk X cc nL ws own) {off : Int} {tgt a b : Nat} (hdg : decode cc pc = .ok (.if_icmp .eq off, 3)) (ht : (pc : Int) + off = (tgt : Int)) (ha : a < 4294967296) (hb : b < 4294967296) (kt : a = b → gG X tgt lo st S) (kf : a ≠ b → gG X (pc + 3) lo st S) : gG X pc lo (.int (nI b) :: .int (nI a) :: st) S := fun ls H locs hl hP hD hS => lv_icmp_eq K.1.1 K.1.2.1 hdg ht (fun h => kt (by rw [gi_eq ha hb] at h; exact h) ls H locs hl hP hD hS) (fun h => kf (by rw [gi_eq ha hb] at h; exact h) ls H locs hl hP hD hS)
theorem g_icmp_ne (K : gOk X cc nL ws own) {off : Int} {tgt a b : Nat} (hdg : decode cc pc = .ok (.if_icmp .ne off, 3)) (ht : (pc : Int) + off = (tgt : Int)) (ha : a < 4294967296) (hb : b < 4294967296) (kt : a ≠ b → gG X tgt lo st S) (kf : a = b → gG X (pc + 3) lo st S) : gG X pc lo (.int (nI b) :: .int (nI a) :: st) S := fun ls H locs hl hP hD hS => lv_icmp_ne K.1.1 K.1.2.1 hdg ht (fun h => kt (by rw [gi_eq ha hb] at h; exact h) ls H locs hl hP hD hS) (fun h => kf (by rw [gi_eq ha hb] at h; exact h) ls H locs hl hP hD hS)
theorem g_icmp_ge' (K : gOk X cc nL ws own) {off : Int} {tgt a b : Nat} (hdg : decode cc pc = .ok (.if_icmp .ge off, 3)) (ht : (pc : Int) + off = (tgt : Int)) (ha : a < 4294967296) (hb : b < 4294967296) (kt : ((a < 2147483648 ∧ 2147483648 ≤ b) ∨ (b ≤ a ∧ (a < 2147483648 ∨ 2147483648 ≤ b))) → gG X tgt lo st S) (kf : ¬ ((a < 2147483648 ∧ 2147483648 ≤ b) ∨ (b ≤ a ∧ (a < 2147483648 ∨ 2147483648 ≤ b))) → gG X (pc + 3) lo st S) : gG X pc lo (.int (nI b) :: .int (nI a) :: st) S := fun ls H locs hl hP hD hS => lv_icmp_ge K.1.1 K.1.2.1 hdg ht (fun h => kt ((gi_le hb ha).mp h) ls H locs hl hP hD hS) (fun h => kf (fun q => h ((gi_le hb ha).mpr q)) ls H locs hl hP hD hS)
theorem g_icmp_lt' (K : gOk X cc nL ws own) {off : Int} {tgt a b : Nat} (hdg : decode cc pc = .ok (.if_icmp .lt off, 3)) (ht : (pc : Int) + off = (tgt : Int)) (ha : a < 4294967296) (hb : b < 4294967296) (kt : ((b < 2147483648 ∧ 2147483648 ≤ a) ∨ (a < b ∧ (b < 2147483648 ∨ 2147483648 ≤ a))) → gG X tgt lo st S) (kf : ¬ ((b < 2147483648 ∧ 2147483648 ≤ a) ∨ (a < b ∧ (b < 2147483648 ∨ 2147483648 ≤ a))) → gG X (pc + 3) lo st S) : gG X pc lo (.int (nI b) :: .int (nI a) :: st) S := fun ls H locs hl hP hD hS => lv_icmp_lt K.1.1 K.1.2.1 hdg ht (fun h => kt ((gi_lt ha hb).mp h) ls H locs hl hP hD hS) (fun h => kf (fun q => h ((gi_lt ha hb).mpr q)) ls H locs hl hP hD hS)
theorem g_icmp_le' (K : gOk X cc nL ws own) {off : Int} {tgt a b : Nat} (hdg : decode cc pc = .ok (.if_icmp .le off, 3)) (ht : (pc : Int) + off = (tgt : Int)) (ha : a < 4294967296) (hb : b < 4294967296) (kt : ((b < 2147483648 ∧ 2147483648 ≤ a) ∨ (a ≤ b ∧ (b < 2147483648 ∨ 2147483648 ≤ a))) → gG X tgt lo st S) (kf : ¬ ((b < 2147483648 ∧ 2147483648 ≤ a) ∨ (a ≤ b ∧ (b < 2147483648 ∨ 2147483648 ≤ a))) → gG X (pc + 3) lo st S) : gG X pc lo (.int (nI b) :: .int (nI a) :: st) S := fun ls H locs hl hP hD hS => lv_icmp_le K.1.1 K.1.2.1 hdg ht (fun h => kt ((gi_le ha hb).mp h) ls H locs hl hP hD hS) (fun h => kf (fun q => h ((gi_le ha hb).mpr q)) ls H locs hl hP hD hS)
theorem g_icmp_gt' (K : gOk X cc nL ws own) {off : Int} {tgt a b : Nat} (hdg : decode cc pc = .ok (.if_icmp .gt off, 3)) (ht : (pc : Int) + off = (tgt : Int)) (ha : a < 4294967296) (hb : b < 4294967296) (kt : ((a < 2147483648 ∧ 2147483648 ≤ b) ∨ (b < a ∧ (a < 2147483648 ∨ 2147483648 ≤ b))) → gG X tgt lo st S) (kf : ¬ ((a < 2147483648 ∧ 2147483648 ≤ b) ∨ (b < a ∧ (a < 2147483648 ∨ 2147483648 ≤ b))) → gG X (pc + 3) lo st S) : gG X pc lo (.int (nI b) :: .int (nI a) :: st) S := fun ls H locs hl hP hD hS => lv_icmp_gt K.1.1 K.1.2.1 hdg ht (fun h => kt ((gi_lt hb ha).mp h) ls H locs hl hP hD hS) (fun h => kf (fun q => h ((gi_lt hb ha).mpr q)) ls H locs hl hP hD hS)
theorem g_if_eq (K : gOk X cc nL ws own) {off : Int} {tgt a : Nat} (hdg : decode cc pc = .ok (.ifCond .eq off, 3)) (ht : (pc : Int) + off = (tgt : Int)) (ha : a < 4294967296) (kt : a = 0 → gG X tgt lo st S) (kf : a ≠ 0 → gG X (pc + 3) lo st S) : gG X pc lo (.int (nI a) :: st) S := fun ls H locs hl hP hD hS => lv_if_eq K.1.1 K.1.2.1 hdg ht (fun h => kt (by rw [← nI_0, gi_eq ha (by decide)] at h; exact h) ls H locs hl hP hD hS) (fun h => kf (by rw [← nI_0, gi_eq ha (by decide)] at h; exact h) ls H locs hl hP hD hS)
theorem g_if_ne (K : gOk X cc nL ws own) {off : Int} {tgt a : Nat} (hdg : decode cc pc = .ok (.ifCond .ne off, 3)) (ht : (pc : Int) + off = (tgt : Int)) (ha : a < 4294967296) (kt : a ≠ 0 → gG X tgt lo st S) (kf : a = 0 → gG X (pc + 3) lo st S) : gG X pc lo (.int (nI a) :: st) S := fun ls H locs hl hP hD hS => lv_if_ne K.1.1 K.1.2.1 hdg ht (fun h => kt (by rw [← nI_0, gi_eq ha (by decide)] at h; exact h) ls H locs hl hP hD hS) (fun h => kf (by rw [← nI_0, gi_eq ha (by decide)] at h; exact h) ls H locs hl hP hD hS)
theorem g_if_lt (K : gOk X cc nL ws own) {off : Int} {tgt a : Nat} (hdg : decode cc pc = .ok (.ifCond .lt off, 3)) (ht : (pc : Int) + off = (tgt : Int)) (ha : a < 4294967296) (kt : 2147483648 ≤ a → gG X tgt lo st S) (kf : a < 2147483648 → gG X (pc + 3) lo st S) : gG X pc lo (.int (nI a) :: st) S := fun ls H locs hl hP hD hS => lv_if_lt K.1.1 K.1.2.1 hdg ht (fun h => kt (by rw [← nI_0, gi_lt ha (b := 0) (by decide)] at h; omega) ls H locs hl hP hD hS) (fun h => kf (by rw [← nI_0, gi_lt ha (b := 0) (by decide)] at h; omega) ls H locs hl hP hD hS)
theorem g_if_ge (K : gOk X cc nL ws own) {off : Int} {tgt a : Nat} (hdg : decode cc pc = .ok (.ifCond .ge off, 3)) (ht : (pc : Int) + off = (tgt : Int)) (ha : a < 4294967296) (kt : a < 2147483648 → gG X tgt lo st S) (kf : 2147483648 ≤ a → gG X (pc + 3) lo st S) : gG X pc lo (.int (nI a) :: st) S := fun ls H locs hl hP hD hS => lv_if_ge K.1.1 K.1.2.1 hdg ht (fun h => kt (by rw [← nI_0, gi_le (a := 0) (by decide) ha] at h; omega) ls H locs hl hP hD hS) (fun h => kf (by rw [← nI_0, gi_le (a := 0) (by decide) ha] at h; omega) ls H locs hl hP hD hS)
theorem g_if_gt (K : gOk X cc nL ws own) {off : Int} {tgt a : Nat} (hdg : decode cc pc = .ok (.ifCond .gt off, 3)) (ht : (pc : Int) + off = (tgt : Int)) (ha : a < 4294967296) (kt : 0 < a ∧ a < 2147483648 → gG X tgt lo st S) (kf : a = 0 ∨ 2147483648 ≤ a → gG X (pc + 3) lo st S) : gG X pc lo (.int (nI a) :: st) S := fun ls H locs hl hP hD hS => lv_if_gt K.1.1 K.1.2.1 hdg ht (fun h => kt (by rw [← nI_0, gi_lt (a := 0) (by decide) ha] at h; omega) ls H locs hl hP hD hS) (fun h => kf (by rw [← nI_0, gi_lt (a := 0) (by decide) ha] at h; omega) ls H locs hl hP hD hS)
theorem g_if_le (K : gOk X cc nL ws own) {off : Int} {tgt a : Nat} (hdg : decode cc pc = .ok (.ifCond .le off, 3)) (ht : (pc : Int) + off = (tgt : Int)) (ha : a < 4294967296) (kt : a = 0 ∨ 2147483648 ≤ a → gG X tgt lo st S) (kf : 0 < a ∧ a < 2147483648 → gG X (pc + 3) lo st S) : gG X pc lo (.int (nI a) :: st) S := fun ls H locs hl hP hD hS => lv_if_le K.1.1 K.1.2.1 hdg ht (fun h => kt (by rw [← nI_0, gi_le ha (b := 0) (by decide)] at h; omega) ls H locs hl hP hD hS) (fun h => kf (by rw [← nI_0, gi_le ha (b := 0) (by decide)] at h; omega) ls H locs hl hP hD hS)
theorem g_getI (K : gOk X cc nL ws own) {q ci k N index : Nat} {fl : List (Option Nat)} {C ref : String} {T : u_T} (hq : shW[q]? = some (.inr (ci, fl))) (hc : vwCl[ci]? = some (C, T, N)) (hkf : fl[k]? = some none) (hk : k < N) (hin : ∀ w ∈ u_ws C T N, w ∈ ws) (hlink : (Cond.fieldLink own index ref (T k).2.1 (T k).2.2.1) ∈ ws) (hsame : (T k).1 = ref) (hdg : decode cc pc = .ok (.getfield index, 3)) (kk : gG X (pc + 3) lo (.int (nI (S q k)) :: st) S) : gG X pc lo (.ref (g_ad X q) :: st) S :=
  fun ls H locs hl hP hD hS => va_get K.1.1 K.1.2.1 K.1.2.2.2.2 hin K.1.2.2.2.1 K.2.2.1 hP q (gw_get hq) hc k hk (K.1.2.2.2.2 _ hlink) (fun x h => by rw [← hsame]; exact h) (by rw [gfl_get, hkf]; simp) hdg (kk ls H locs hl hP hD hS)
theorem g_getR (K : gOk X cc nL ws own) {q ci k N index q' : Nat} {fl : List (Option Nat)} {C ref : String} {T : u_T} (hq : shW[q]? = some (.inr (ci, fl))) (hc : vwCl[ci]? = some (C, T, N)) (hkf : fl[k]? = some (some q')) (hk : k < N) (hin : ∀ w ∈ u_ws C T N, w ∈ ws) (hlink : (Cond.fieldLink own index ref (T k).2.1 (T k).2.2.1) ∈ ws) (hsame : (T k).1 = ref) (hdg : decode cc pc = .ok (.getfield index, 3)) (kk : gG X (pc + 3) lo (.ref (g_ad X q') :: st) S) : gG X pc lo (.ref (g_ad X q) :: st) S :=
  fun ls H locs hl hP hD hS => va_get K.1.1 K.1.2.1 K.1.2.2.2.2 hin K.1.2.2.2.1 K.2.2.1 hP q (gw_get hq) hc k hk (K.1.2.2.2.2 _ hlink) (fun x h => by rw [← hsame]; exact h) (by rw [gfl_get, hkf]; rfl) hdg (kk ls H locs hl hP hD hS)
theorem g_putI (K : gOk X cc nL ws own) {q ci k N index a : Nat} {fl : List (Option Nat)} {C ref : String} {T : u_T} {ty0 : Nat → FieldType} (hq : shW[q]? = some (.inr (ci, fl))) (hc : vwCl[ci]? = some (C, T, N)) (hkf : fl[k]? = some none) (hk : k < N) (hin : ∀ w ∈ u_ws C T N, w ∈ ws) (hty : ∀ k, k < N → parseFieldDescriptor (T k).2.2.1 = some (ty0 k)) (hnm : ∀ a, a < N → ∀ b, b < N → a ≠ b → (T a).2.1 ≠ (T b).2.1) (hlink : (Cond.fieldLink own index ref (T k).2.1 (T k).2.2.1) ∈ ws) (hsame : (T k).1 = ref) (hfin : (T k).2.2.2 = false) (hd : parseFieldDescriptor (T k).2.2.1 = some .int) (hdg : decode cc pc = .ok (.putfield index, 3)) (kk : gG X (pc + 3) lo st (gup S q k a)) : gG X pc lo (.int (nI a) :: .ref (g_ad X q) :: st) S :=
  fun ls H locs hl hP hD hS => va_put (v := .int (nI a)) (ty := .int) K.1.1 K.1.2.1 K.1.2.2.2.2 hin ty0 hty hnm K.1.2.2.2.1 K.2.2.1 hP hD hS q (gw_get hq) hc k hk (K.1.2.2.2.2 _ hlink) (fun x h => by rw [← hsame]; exact h) hfin hd (vp_nar_int (nI a)) rfl (by rw [gfl_len]; exact (List.getElem?_eq_some_iff.mp hkf).1) hdg (fun H locs hP hD hS => by
    rw [gfl_set _ _ hkf] at hP hD
    have e := gw_set (ad := gz_ad (g_z X)) (tI := gz_I (g_z X)) (S := S) (ex := gz_ex (g_z X)) (va_up (S q) k a) hq
    exact kk ls H locs hl (Eq.mp (congrArg (fun w => va_P (gz_D (g_z X)) vwCl w H) e) hP) (Eq.mp (congrArg (fun w => va_D (g_A X) w) e) hD) hS)
theorem g_ald (K : gOk X cc nL ws own) {q n i : Nat} (hq : shW[q]? = some (.inl n)) (hn : n < 2147483648) (hi : i < n) (hdg : decode cc pc = .ok (.iaload, 1)) (kk : gG X (pc + 1) lo (.int (nI (S q i)) :: st) S) : gG X pc lo (.int (nI i) :: .ref (g_ad X q) :: st) S :=
  fun ls H locs hl hP hD hS => va_iald K.1.1 K.1.2.1 K.2.2.1 hP q 0 (gw_get hq) rfl (gi_in hi hn) hdg (by rw [gi_cl (Nat.lt_trans hi hn)]; exact kk ls H locs hl hP hD hS)
theorem g_ast (K : gOk X cc nL ws own) {q n i a : Nat} (hq : shW[q]? = some (.inl n)) (hn : n < 2147483648) (hi : i < n) (hdg : decode cc pc = .ok (.iastore, 1)) (kk : gG X (pc + 1) lo st (gup S q i a)) : gG X pc lo (.int (nI a) :: .int (nI i) :: .ref (g_ad X q) :: st) S :=
  fun ls H locs hl hP hD hS => va_iast K.1.1 K.1.2.1 K.2.2.1 hP hD hS q 0 (gw_get hq) rfl (gi_in hi hn) hdg (fun H locs hP hD hS => by
    rw [gi_cl (Nat.lt_trans hi hn), gupd] at hP hD
    have e := gw_set (ad := gz_ad (g_z X)) (tI := gz_I (g_z X)) (S := S) (ex := gz_ex (g_z X)) (va_up (S q) i a) hq
    exact kk ls H locs hl (Eq.mp (congrArg (fun w => va_P (gz_D (g_z X)) vwCl w H) e) hP) (Eq.mp (congrArg (fun w => va_D (g_A X) w) e) hD) hS)
end GR
def gAd (ad : Nat → Nat) (ex : va_W) (q : Nat) : Prop := (∃ k, k < 32 ∧ q = ad k) ∨ ∃ (k : Nat) (e : va_E), ex[k]? = some (q, e)
def gA (Z : gZ) (sz : Nat) : Nat → Prop := fun q => gAd (gz_ad Z) (gz_ex Z) q ∨ sz ≤ q
theorem gw_at {ad : Nat → Nat} {tI : ClassId} {S : Nat → Nat → Nat} {ex : va_W} {k : Nat} {q : Nat × va_E} (h : (gw ad tI S ++ ex)[k]? = some q) : (k < 32 ∧ q.1 = ad k) ∨ (32 ≤ k ∧ ex[k - 32]? = some q) := by
  by_cases hk : k < 32
  · rw [List.getElem?_append_left (by rw [gw_len]; exact hk), gw, gmk_get] at h
    cases hs : shW[k]? with
    | none => rw [hs] at h; cases h
    | some c => rw [hs] at h; cases h; exact Or.inl ⟨hk, by simp⟩
  · rw [List.getElem?_append_right (by rw [gw_len]; omega), gw_len] at h
    exact Or.inr ⟨by omega, h⟩
theorem gA_of {Z : gZ} {S : Nat → Nat → Nat} {sz k : Nat} {q : Nat × va_E} (h : (gz_w Z S)[k]? = some q) : gA Z sz q.1 := by
  rcases gw_at h with ⟨h1, h2⟩ | ⟨h1, h2⟩
  · exact Or.inl (Or.inl ⟨k, h1, h2⟩)
  · exact Or.inl (Or.inr ⟨_, q.2, h2⟩)
theorem gA_in {Z : gZ} {S : Nat → Nat → Nat} {A : Nat → Prop} {H0 H : Heap} {locs : List Loc} (hD : va_D A (gz_w Z S)) (hS : va_S A H0 H locs) (hA : ∀ q, H0.size ≤ q → A q) : ∀ q, gA Z H.size q → A q := by
  intro q h
  rcases h with (⟨k, hk, rfl⟩ | ⟨k, e, he⟩) | h
  · obtain ⟨c, hc⟩ : ∃ c, shW[k]? = some c := ⟨shW[k]'hk, List.getElem?_eq_getElem _⟩
    exact hD.2 k _ (gw_get hc)
  · refine hD.2 (k + 32) (q, e) ?_
    show (gw _ _ _ ++ gz_ex Z)[k + 32]? = _
    rw [List.getElem?_append_right (by rw [gw_len]; omega), gw_len]
    simpa using he
  · exact hA q (Nat.le_trans hS.1 h)
theorem gw_swap {Z : gZ} {S S' : Nat → Nat → Nat} {A : Nat → Prop} (hD : va_D A (gz_w Z S)) : va_D A (gz_w Z S') := by
  have key : ∀ (k : Nat) (q : Nat × va_E), (gz_w Z S')[k]? = some q → ∃ q0, (gz_w Z S)[k]? = some q0 ∧ q0.1 = q.1 := by
    intro k q hk
    rcases gw_at hk with ⟨h1, h2⟩ | ⟨h1, h2⟩
    · obtain ⟨c, hc⟩ : ∃ c, shW[k]? = some c := ⟨shW[k]'h1, List.getElem?_eq_getElem _⟩
      exact ⟨_, gw_get hc, h2.symm⟩
    · refine ⟨q, ?_, rfl⟩
      show (gw _ _ _ ++ gz_ex Z)[k]? = _
      rw [List.getElem?_append_right (by rw [gw_len]; omega), gw_len]
      exact h2
  refine ⟨fun i j x y hi hj hxy => ?_, fun k q hk => ?_⟩
  · obtain ⟨x0, h1, h2⟩ := key i x hi
    obtain ⟨y0, h3, h4⟩ := key j y hj
    exact hD.1 i j x0 y0 h1 h3 (h2.trans (hxy.trans h4.symm))
  · obtain ⟨q0, h1, h2⟩ := key k q hk
    rw [← h2]
    exact hD.2 k q0 h1
def gI (Z : gZ) (S : Nat → Nat → Nat) (sz : Nat) (U : State) : Prop := U.heap.size = sz ∧ va_P (gz_D Z) vwCl (gz_w Z S) U.heap ∧ va_K (gz_D Z) vwCl (gz_t Z) U ∧ va_D (fun _ => True) (gz_w Z S) ∧ gN U
def gE (Z : gZ) (A : Nat → Prop) (S : Nat → Nat → Nat) (t : State) : Prop := va_P (gz_D Z) vwCl (gz_w Z S) t.heap ∧ va_K (gz_D Z) vwCl (gz_t Z) t ∧ va_D A (gz_w Z S)
/-- a method that answers the int v, and leaves the world S1 -/
def gMd (Z : gZ) (y : MethodName) (ws : List Cond) (rm : Room) (av : List Value) (S : Nat → Nat → Nat) (v : Nat) (S1 : Nat → Nat → Nat) : Prop :=
  ∀ sz, Met (gz_l Z) y ws rm (va_Pc av (gI Z S sz)) (va_Qi (fun r S' => r = nI v ∧ S' = S1) (gE Z (gA Z sz)) (gA Z sz)) 0 0 (gA Z sz)
/-- a method that answers nothing, and leaves the world S1 -/
def gMv (Z : gZ) (y : MethodName) (ws : List Cond) (rm : Room) (av : List Value) (S : Nat → Nat → Nat) (S1 : Nat → Nat → Nat) : Prop :=
  ∀ sz, Met (gz_l Z) y ws rm (va_Pc av (gI Z S sz)) (va_Qv (fun S' => S' = S1) (gE Z (gA Z sz)) (gA Z sz)) 0 0 (gA Z sz)
theorem gI_blind {Z : gZ} {S : Nat → Nat → Nat} {sz : Nat} {av : List Value} : FrameBlind (va_Pc av (gI Z S sz)) := fun a U g mk q => by
  obtain ⟨q0, q1, qP, qK, qD, qN⟩ := q
  exact ⟨q0, q1, qP, va_K.moved (u := U) (U := U.calling g mk a) (Vm.Alike.refl U.vm) qK, qD, gN.same (u := U) (U := U.calling g mk a) rfl qN⟩
theorem gI_at {X : gC} {cc : ByteArray} {nL : Nat} {ws : List Cond} {own : String} {S : Nat → Nat → Nat} {H : Heap} (K : gOk X cc nL ws own) (hP : va_P (gz_D (g_z X)) vwCl (gz_w (g_z X) S) H) (hD : va_D (g_A X) (gz_w (g_z X) S)) (av : List Value) (U : State) (hU : U.heap = H) (hW : (g_s X).WarmedH U.vm) : va_Pc av (gI (g_z X) S H.size) av.toArray U :=
  ⟨rfl, by rw [hU], by rw [hU]; exact hP, va_K.moved hW.alike K.2.2.1, hD.weaken (fun _ _ _ _ => trivial), gN.warm hW K.2.2.2.1⟩
theorem gMd_of {Z : gZ} {y : MethodName} {ws ws' : List Cond} {rm : Room} {av : List Value} {S : Nat → Nat → Nat} {v : Nat} {S1 : Nat → Nat → Nat} {cc : ByteArray} {maxL : Nat} {ret : Option FieldType} (hy : plainName y.cls = true) (hw : ws = Cond.code y cc maxL ret :: ws') (hav : (lg_sl av).length ≤ maxL) (hret : ret = some .int ∨ (ret = some .boolean ∧ v ≤ 1))
    (body : ∀ X : gC, g_z X = Z → g_R X = { rm with } → gOk X cc maxL ws y.cls → (∀ (pc : Nat) (lo : List (Nat × Value)), decode cc pc = .ok (.ireturn, 1) → gG X pc lo [.int (nI v)] S1) → gG X 0 (lv_args 0 av) [] S) : gMd Z y ws rm av S v S1 := by
  intro sz
  refine Met.ofW (cc := cc) (maxL := maxL) (ret := ret) hy hw ?_
  intro p e s m args below meth c s₁ B hml hv
  obtain ⟨rfl, hsz, hP, hK, hD0, hN⟩ := hv
  have hr := B.returns
  have hlocks := B.notSynchronized
  subst hsz
  have hD : va_D (gA Z s.heap.size) (gz_w Z S) := ⟨hD0.1, fun k q hk => gA_of hk⟩
  have hl := lv_entry av (n := maxL) hav
  rw [lg_entry_eq]
  generalize (lg_sl av ++ List.replicate (maxL - (lg_sl av).length) Slot.unset).toArray = ls at hl ⊢
  have hb := body (Z, p, e, rm, s, m, av.toArray, below, meth, c, maxL, gA Z s.heap.size, s.heap, MQ below (va_Qi (fun r S' => r = nI v ∧ S' = S1) (gE Z (gA Z s.heap.size)) (gA Z s.heap.size)) av.toArray s 0 0 (gA Z s.heap.size), 0, 0) rfl rfl
    ⟨⟨B.exec, B.bytes, hml, findClass_of_methodNamed B.named, atoms_spec (ws := ws) B.pre⟩, rfl, hK, hN, fun q h => Or.inr h, Nat.zero_le _, Nat.zero_le _⟩ ?_
  · exact hb ls s.heap [] hl hP hD va_S.rf
  · intro pc lo hdg ls H locs hl hP hD hS
    have hend : ∀ t : State, t.heap = H → s.WarmedH t.vm → va_Qi (fun r S' => r = nI v ∧ S' = S1) (gE Z (gA Z s.heap.size)) (gA Z s.heap.size) av.toArray s (.returned (some (.int (nI v)))) t := fun t ht hW => ⟨⟨nI v, S1, rfl, ⟨rfl, rfl⟩, by rw [ht]; exact hP, va_K.moved hW.alike hK, hD⟩, va_S.F hS ht⟩
    rcases hret with h1 | ⟨h1, h2⟩
    · exact W.iret (v := nI v) B.exec B.bytes (hr.trans h1) hend hS.2.2 hdg hlocks
    · refine W.zret (v := nI v) (ty := .boolean) B.exec B.bytes (hr.trans h1) ?_ hend hS.2.2 hdg hlocks
      rcases (show v = 0 ∨ v = 1 by omega) with rfl | rfl <;> decide
theorem gMv_of {Z : gZ} {y : MethodName} {ws ws' : List Cond} {rm : Room} {av : List Value} {S : Nat → Nat → Nat} {S1 : Nat → Nat → Nat} {cc : ByteArray} {maxL : Nat} (hy : plainName y.cls = true) (hw : ws = Cond.code y cc maxL none :: ws') (hav : (lg_sl av).length ≤ maxL)
    (body : ∀ X : gC, g_z X = Z → g_R X = { rm with } → gOk X cc maxL ws y.cls → (∀ (pc : Nat) (lo : List (Nat × Value)), decode cc pc = .ok (.return_, 1) → gG X pc lo [] S1) → gG X 0 (lv_args 0 av) [] S) : gMv Z y ws rm av S S1 := by
  intro sz
  refine Met.ofW (cc := cc) (maxL := maxL) (ret := none) hy hw ?_
  intro p e s m args below meth c s₁ B hml hv
  obtain ⟨rfl, hsz, hP, hK, hD0, hN⟩ := hv
  have hr := B.returns
  have hlocks := B.notSynchronized
  subst hsz
  have hD : va_D (gA Z s.heap.size) (gz_w Z S) := ⟨hD0.1, fun k q hk => gA_of hk⟩
  have hl := lv_entry av (n := maxL) hav
  rw [lg_entry_eq]
  generalize (lg_sl av ++ List.replicate (maxL - (lg_sl av).length) Slot.unset).toArray = ls at hl ⊢
  have hb := body (Z, p, e, rm, s, m, av.toArray, below, meth, c, maxL, gA Z s.heap.size, s.heap, MQ below (va_Qv (fun S' => S' = S1) (gE Z (gA Z s.heap.size)) (gA Z s.heap.size)) av.toArray s 0 0 (gA Z s.heap.size), 0, 0) rfl rfl
    ⟨⟨B.exec, B.bytes, hml, findClass_of_methodNamed B.named, atoms_spec (ws := ws) B.pre⟩, rfl, hK, hN, fun q h => Or.inr h, Nat.zero_le _, Nat.zero_le _⟩ ?_
  · exact hb ls s.heap [] hl hP hD va_S.rf
  · intro pc lo hdg ls H locs hl hP hD hS
    exact W.vret B.exec B.bytes hr (fun t ht hW => ⟨⟨S1, rfl, rfl, by rw [ht]; exact hP, va_K.moved hW.alike hK, hD⟩, va_S.F hS ht⟩) hS.2.2 hdg hlocks
section GCALL
variable {X : gC} {cc bytes : ByteArray} {nL maxL n index v : Nat} {ws wsY : List Cond} {own C : String} {pc : Nat} {lo : List (Nat × Value)} {st rest As : List Value} {S S1 : Nat → Nat → Nat} {y : MethodName} {ret : Option FieldType} {rm : Room}
theorem g_endI {g : JFrame} {sz : Nat} (K : gOk X cc nL ws own) {ls : Array Slot} {H : Heap} {locs : List Loc} {a : Array Value} (hl : lv_has ls (g_n X) lo) (hP : va_P (gz_D (g_z X)) vwCl (gz_w (g_z X) S) H) (hD : va_D (g_A X) (gz_w (g_z X) S)) (hS : va_S (g_A X) (g_H X) H locs)
    (hr : va_Run (g_p X) (gz_l (g_z X)) (g_e X) (g_R X) (g_s X) (g_m X) (g_a X) (g_b X) (g_mt X) (g_c X) H locs (g_ce X) (g_sl X) 0 0 (F0 (g_m X) pc ls st) rest (va_Qi (fun r S' => r = nI v ∧ S' = S1) (gE (g_z X) (gA (g_z X) H.size)) (gA (g_z X) H.size) a) (gA (g_z X) H.size)) (kk : gG X (pc + 3) lo (.int (nI v) :: rest) S1) : W (g_p X) (gz_l (g_z X)) (g_e X) (g_R X) (g_s X) (g_m X) (g_a X) (g_b X) (g_mt X) (g_c X) H locs (g_ce X) (g_sl X) (g_Q X) (F0 (g_m X) pc ls st) := by
  have hF := gA_in hD hS K.2.2.2.2.1
  refine va_calli hr hS (fun q _ h => hF q h) hF (fun r u t H1 locs1 ht hvm hw hB hz1 hk1 hS1 => ?_)
  obtain ⟨rfl, rfl⟩ := hw
  obtain ⟨hP1, hK1, hD1⟩ := hB
  rw [ht] at hP1
  exact kk ls H1 locs1 hl hP1 (hD1.weaken (fun _ q _ h => hF q.1 h)) hS1
theorem g_endV {g : JFrame} {sz : Nat} (K : gOk X cc nL ws own) {ls : Array Slot} {H : Heap} {locs : List Loc} {a : Array Value} (hl : lv_has ls (g_n X) lo) (hP : va_P (gz_D (g_z X)) vwCl (gz_w (g_z X) S) H) (hD : va_D (g_A X) (gz_w (g_z X) S)) (hS : va_S (g_A X) (g_H X) H locs)
    (hr : va_Run (g_p X) (gz_l (g_z X)) (g_e X) (g_R X) (g_s X) (g_m X) (g_a X) (g_b X) (g_mt X) (g_c X) H locs (g_ce X) (g_sl X) 0 0 (F0 (g_m X) pc ls st) rest (va_Qv (fun S' => S' = S1) (gE (g_z X) (gA (g_z X) H.size)) (gA (g_z X) H.size) a) (gA (g_z X) H.size)) (kk : gG X (pc + 3) lo rest S1) : W (g_p X) (gz_l (g_z X)) (g_e X) (g_R X) (g_s X) (g_m X) (g_a X) (g_b X) (g_mt X) (g_c X) H locs (g_ce X) (g_sl X) (g_Q X) (F0 (g_m X) pc ls st) := by
  have hF := gA_in hD hS K.2.2.2.2.1
  refine va_callv hr hS (fun q _ h => hF q h) hF (fun u t H1 locs1 ht hvm hw hB hz1 hk1 hS1 => ?_)
  subst hw
  obtain ⟨hP1, hK1, hD1⟩ := hB
  rw [ht] at hP1
  exact kk ls H1 locs1 hl hP1 (hD1.weaken (fun _ q _ h => hF q.1 h)) hS1
theorem g_callVd (K : gOk X cc nL ws own) {q ci N : Nat} {fl : List (Option Nat)} {T : u_T} (hM : gMd (g_z X) y wsY rm (.ref (g_ad X q) :: As) S v S1) (cw : CallW (g_R X) (g_s X) (g_a X) own C index y bytes maxL ret wsY rm 0 0 n) (hq : shW[q]? = some (.inr (ci, fl))) (hc : vwCl[ci]? = some (C, T, N)) (hn : As.length = n) (hst : st = As.reverse ++ .ref (g_ad X q) :: rest) (hroom : (rest.map fun v => v.category).sum ≤ 8) (hdg : decode cc pc = .ok (.invokevirtual index, 3)) (kk : gG X (pc + 3) lo (.int (nI v) :: rest) S1) : gG X pc lo st S :=
  fun ls H locs hl hP hD hS => g_endI (g := F0 (g_m X) pc ls st) (sz := 0) K hl hP hD hS (va_runV (As := As) (rest := rest) K.1 (hM H.size) cw ⟨gI_blind, va_recv K.2.2.1 hP (ci := ci) (q0 := q) hc (gw_get hq), fun U hU hW => gI_at K hP hD _ U hU hW⟩ rfl hn (hl.1.trans K.2.1) hst (lv_room hroom) hdg ⟨K.2.2.2.2.2.1, K.2.2.2.2.2.2⟩) kk
theorem g_callVv (K : gOk X cc nL ws own) {q ci N : Nat} {fl : List (Option Nat)} {T : u_T} (hM : gMv (g_z X) y wsY rm (.ref (g_ad X q) :: As) S S1) (cw : CallW (g_R X) (g_s X) (g_a X) own C index y bytes maxL ret wsY rm 0 0 n) (hq : shW[q]? = some (.inr (ci, fl))) (hc : vwCl[ci]? = some (C, T, N)) (hn : As.length = n) (hst : st = As.reverse ++ .ref (g_ad X q) :: rest) (hroom : (rest.map fun v => v.category).sum ≤ 8) (hdg : decode cc pc = .ok (.invokevirtual index, 3)) (kk : gG X (pc + 3) lo rest S1) : gG X pc lo st S :=
  fun ls H locs hl hP hD hS => g_endV (g := F0 (g_m X) pc ls st) (sz := 0) K hl hP hD hS (va_runV (As := As) (rest := rest) K.1 (hM H.size) cw ⟨gI_blind, va_recv K.2.2.1 hP (ci := ci) (q0 := q) hc (gw_get hq), fun U hU hW => gI_at K hP hD _ U hU hW⟩ rfl hn (hl.1.trans K.2.1) hst (lv_room hroom) hdg ⟨K.2.2.2.2.2.1, K.2.2.2.2.2.2⟩) kk
theorem g_callSd (K : gOk X cc nL ws own) (hM : gMd (g_z X) y wsY rm As S v S1) (cw : CallB (g_R X) (g_s X) (g_a X) own index y bytes maxL ret wsY rm 0 0 n ∧ (Cond.static y).before (g_a X) (g_s X) = true) (hn : As.length = n) (hst : st = As.reverse ++ rest) (hroom : (rest.map fun v => v.category).sum ≤ 8) (hdg : decode cc pc = .ok (.invokestatic index, 3)) (kk : gG X (pc + 3) lo (.int (nI v) :: rest) S1) : gG X pc lo st S :=
  fun ls H locs hl hP hD hS => g_endI (g := F0 (g_m X) pc ls st) (sz := 0) K hl hP hD hS (va_runS (As := As) (rest := rest) K.1 (hM H.size) cw ⟨gI_blind, fun U hU hW => gI_at K hP hD _ U hU hW⟩ rfl hn (hl.1.trans K.2.1) hst (lv_room hroom) hdg ⟨K.2.2.2.2.2.1, K.2.2.2.2.2.2⟩) kk
theorem g_callSv (K : gOk X cc nL ws own) (hM : gMv (g_z X) y wsY rm As S S1) (cw : CallB (g_R X) (g_s X) (g_a X) own index y bytes maxL ret wsY rm 0 0 n ∧ (Cond.static y).before (g_a X) (g_s X) = true) (hn : As.length = n) (hst : st = As.reverse ++ rest) (hroom : (rest.map fun v => v.category).sum ≤ 8) (hdg : decode cc pc = .ok (.invokestatic index, 3)) (kk : gG X (pc + 3) lo rest S1) : gG X pc lo st S :=
  fun ls H locs hl hP hD hS => g_endV (g := F0 (g_m X) pc ls st) (sz := 0) K hl hP hD hS (va_runS (As := As) (rest := rest) K.1 (hM H.size) cw ⟨gI_blind, fun U hU hW => gI_at K hP hD _ U hU hW⟩ rfl hn (hl.1.trans K.2.1) hst (lv_room hroom) hdg ⟨K.2.2.2.2.2.1, K.2.2.2.2.2.2⟩) kk
theorem g_callNd (K : gOk X cc nL ws own) (hM : gMd (g_z X) y wsY rm As S v S1) {host : String} (cw : va_CN (g_R X) (g_s X) (g_a X) own index y host bytes maxL ret wsY rm 0 0 n ∧ (Cond.static y).before (g_a X) (g_s X) = true ∧ True) (hn : As.length = n) (hst : st = As.reverse ++ rest) (hroom : (rest.map fun v => v.category).sum ≤ 8) (hdg : decode cc pc = .ok (.invokestatic index, 3)) (kk : gG X (pc + 3) lo (.int (nI v) :: rest) S1) : gG X pc lo st S :=
  fun ls H locs hl hP hD hS => g_endI (g := F0 (g_m X) pc ls st) (sz := 0) K hl hP hD hS (va_runSN (As := As) (rest := rest) K.1 (hM H.size) cw ⟨gI_blind, fun U hU hW => gI_at K hP hD _ U hU hW⟩ rfl hn (hl.1.trans K.2.1) hst (lv_room hroom) hdg ⟨K.2.2.2.2.2.1, K.2.2.2.2.2.2⟩) kk
end GCALL
theorem gR_f {X : gC} {rm : Room} (h : g_R X = rm) {n : Nat} (hn : Nat.ble n rm.frames = true) : n ≤ (g_R X).frames := by rw [h]; exact Nat.le_of_ble_eq_true hn
theorem gR_l {X : gC} {rm : Room} (h : g_R X = rm) {n : Nat} (hn : Nat.ble n rm.locals = true) : n ≤ (g_R X).locals := by rw [h]; exact Nat.le_of_ble_eq_true hn
theorem g_retd {X : gC} {cc : ByteArray} {v e pc : Nat} {S1 S' : Nat → Nat → Nat} {lo : List (Nat × Value)} (hret : ∀ (pc : Nat) (lo : List (Nat × Value)), decode cc pc = .ok (.ireturn, 1) → gG X pc lo [.int (nI v)] S1) (hdg : decode cc pc = .ok (.ireturn, 1)) (hv : e = v) (hS : S' = S1) : gG X pc lo [.int (nI e)] S' := by
  subst hv; subst hS; exact hret pc lo hdg
theorem g_retv {X : gC} {cc : ByteArray} {pc : Nat} {S1 S' : Nat → Nat → Nat} {lo : List (Nat × Value)} (hret : ∀ (pc : Nat) (lo : List (Nat × Value)), decode cc pc = .ok (.return_, 1) → gG X pc lo [] S1) (hdg : decode cc pc = .ok (.return_, 1)) (hS : S' = S1) : gG X pc lo [] S' := by
  subst hS; exact hret pc lo hdg
theorem g_top {X : gC} {pc a : Nat} {lo : List (Nat × Value)} {st : List Value} {S : Nat → Nat → Nat} (kk : ∀ b : Nat, b = a → gG X pc lo (.int (nI b) :: st) S) : gG X pc lo (.int (nI a) :: st) S := kk a rfl
theorem g_topE {X : gC} {pc a : Nat} {lo : List (Nat × Value)} {st : List Value} {S : Nat → Nat → Nat} (b : Nat) (h : a = b) (kk : gG X pc lo (.int (nI b) :: st) S) : gG X pc lo (.int (nI a) :: st) S := h ▸ kk
theorem g_cast {X : gC} {pc : Nat} {lo lo' : List (Nat × Value)} {st st' : List Value} {S S' : Nat → Nat → Nat} (h1 : lo = lo') (h2 : st = st') (h3 : S = S') (kk : gG X pc lo' st' S') : gG X pc lo st S := by
  subst h1; subst h2; subst h3; exact kk
/-- counting loops: f at the counts j, j + 1 .. -/
def gfor {α : Type} (f : Nat → α → α) : Nat → Nat → α → α
  | 0, _, x => x
  | k + 1, j, x => gfor f k (j + 1) (f j x)
theorem gfor_succ {α : Type} (f : Nat → α → α) (k j : Nat) (x : α) : gfor f (k + 1) j x = gfor f k (j + 1) (f j x) := rfl
theorem up_up {α : Type} (S : Nat → α) (q : Nat) (a b : α) : va_up (va_up S q a) q b = va_up S q b := by
  funext z; simp only [va_up]; split <;> rfl
theorem up_comm {α : Type} (S : Nat → α) {p q : Nat} (h : p ≠ q) (a b : α) : va_up (va_up S p a) q b = va_up (va_up S q b) p a := by
  funext z; simp only [va_up]
  by_cases h1 : z = q
  · by_cases h2 : z = p
    · exact absurd (h2.symm.trans h1) h
    · simp [h1, Ne.symm h]
  · simp [h1]
theorem gup_w1a {S : Nat → Nat → Nat} {q i x : Nat} {d : Nat → Nat} : gup (va_up S q d) q i x = va_up S q (va_up d i x) := by
  rw [gup, up_up]; simp [va_up]
theorem gup_w1 {S : Nat → Nat → Nat} {q i x : Nat} {d : Nat → Nat} : gup (va_up S q d) q i x = va_up S q (va_up d i x) := gup_w1a
theorem gup_w2b {S : Nat → Nat → Nat} {p q i x : Nat} {a d : Nat → Nat} (h : p ≠ q) : gup (va_up (va_up S p a) q d) q i x = va_up (va_up S p a) q (va_up d i x) := gup_w1a
theorem gup_w2a {S : Nat → Nat → Nat} {p q i x : Nat} {a d : Nat → Nat} (h : p ≠ q) : gup (va_up (va_up S p a) q d) p i x = va_up (va_up S p (va_up a i x)) q d := by
  rw [up_comm S h, gup_w1a, up_comm S h]
theorem gup_w3c {S : Nat → Nat → Nat} {p q r i x : Nat} {a b d : Nat → Nat} (h : p ≠ q) (h1 : p ≠ r) (h2 : q ≠ r) : gup (va_up (va_up (va_up S p a) q b) r d) r i x = va_up (va_up (va_up S p a) q b) r (va_up d i x) := gup_w1a
theorem gup_w3b {S : Nat → Nat → Nat} {p q r i x : Nat} {a b d : Nat → Nat} (h : p ≠ q) (h1 : p ≠ r) (h2 : q ≠ r) : gup (va_up (va_up (va_up S p a) q b) r d) q i x = va_up (va_up (va_up S p a) q (va_up b i x)) r d := gup_w2a h2
theorem gup_w3a {S : Nat → Nat → Nat} {p q r i x : Nat} {a b d : Nat → Nat} (h : p ≠ q) (h1 : p ≠ r) (h2 : q ≠ r) : gup (va_up (va_up (va_up S p a) q b) r d) p i x = va_up (va_up (va_up S p (va_up a i x)) q b) r d := by
  have e : va_up (va_up (va_up S p a) q b) r d p = a := by simp [va_up, h, h1]
  rw [gup, e, up_comm _ h1.symm, up_comm _ h.symm, up_up]
theorem eq_if_same {c : Prop} [Decidable c] {α : Type} (x : α) : (if c then x else x) = x := by split <;> rfl
end
section
/-! SMALL METHODS OF THE CLASS: bits, parts, Network -/
def gbit (a b : Nat) : Nat := if (a >>> b) &&& 1 = 0 then 0 else 1
theorem gbit_le (a b : Nat) : gbit a b ≤ 1 := by unfold gbit; split <;> omega
def gwith (s k b : Nat) : Nat := if b = 0 then s &&& ((1 <<< k) ^^^ 4294967295) else s ||| (1 <<< k)
theorem and1_lt (a : Nat) : a &&& 1 < 4294967296 := Nat.lt_of_le_of_lt Nat.and_le_right (by decide)
def wfC (S : Nat → Nat → Nat) : Prop := S 1 0 ≤ 12 ∧ S 1 1 ≤ 16 ∧ S 1 2 ≤ 12 ∧ S 1 3 < 4096 ∧ S 1 4 < 4096 ∧ S 1 5 < 4096 ∧ (∀ j, S 2 j ≤ 99) ∧ (∀ j, S 3 j ≤ 99) ∧ (∀ j, S 4 j < 12) ∧ (∀ j, S 5 j < 4096) ∧ (∀ j, S 6 j < 268435456) ∧ (∀ j, S 7 j < 32)
theorem wfC_of {S S' : Nat → Nat → Nat} (h : wfC S) (e1 : S' 1 = S 1) (e2 : S' 2 = S 2) (e3 : S' 3 = S 3) (e4 : S' 4 = S 4) (e5 : S' 5 = S 5) (e6 : S' 6 = S 6) (e7 : S' 7 = S 7) : wfC S' := by
  unfold wfC at h ⊢
  rw [e1, e2, e3, e4, e5, e6, e7]
  exact h
theorem wfC_up {S : Nat → Nat → Nat} (h : wfC S) {q : Nat} (hq : 7 < q) (d : Nat → Nat) : wfC (va_up S q d) :=
  wfC_of h (va_up_ne _ _ (by omega)) (va_up_ne _ _ (by omega)) (va_up_ne _ _ (by omega)) (va_up_ne _ _ (by omega)) (va_up_ne _ _ (by omega)) (va_up_ne _ _ (by omega)) (va_up_ne _ _ (by omega))
theorem or28 {a b : Nat} (ha : a < 268435456) (hb : b < 268435456) : a ||| b < 268435456 := Nat.or_lt_two_pow (n := 28) ha hb
theorem or12 {a b : Nat} (ha : a < 4096) (hb : b < 4096) : a ||| b < 4096 := Nat.or_lt_two_pow (n := 12) ha hb
theorem and28 {a b : Nat} (ha : a < 268435456) : a &&& b < 268435456 := Nat.lt_of_le_of_lt Nat.and_le_left ha
theorem and12 {a b : Nat} (ha : a < 4096) : a &&& b < 4096 := Nat.lt_of_le_of_lt Nat.and_le_left ha
theorem shl1 {a n : Nat} (h : a < n) : 1 <<< a < 2 ^ n := by rw [Nat.one_shiftLeft]; exact Nat.pow_lt_pow_right (by omega) h
theorem shl1_le {a n : Nat} (h : a ≤ n) : 1 <<< a ≤ 2 ^ n := by rw [Nat.one_shiftLeft]; exact Nat.pow_le_pow_right (by omega) h
set_option maxHeartbeats 4000000 in
set_option maxRecDepth 100000 in
theorem cX5_partOfPipe_k (Z : gZ) (S : Nat → Nat → Nat) (a : Nat) : gMd Z yX5_partOfPipe wsX5_partOfPipe { frames := 0, cells := 0, slots := 0, locals := 0 } [.int (nI (a))] S (12 + a) (S) := by
  refine gMd_of (cc := cX5_partOfPipe) (maxL := 1) (ret := (some .int)) (by decide +kernel) rfl (Nat.le_of_ble_eq_true rfl) (Or.inl rfl) (fun X hZ hR K hret => ?_)
  subst hZ
  have K : gOk X cX5_partOfPipe 1 wsX5_partOfPipe RX5 := K
  have hRf : 0 ≤ (g_R X).frames := gR_f hR rfl
  have hRl : 0 ≤ (g_R X).locals := gR_l hR rfl
  show gG X 0 [(0, .int (nI (a)))] [] S
  refine g_bipush K 12 dX5_partOfPipe_0 (by decide +kernel) ?_
  refine g_iload_n K 0 dX5_partOfPipe_2 rfl ?_
  refine g_iadd (a := 12) (b := a) K dX5_partOfPipe_3 ?_
  exact g_retd hret dX5_partOfPipe_4 rfl rfl

set_option maxHeartbeats 4000000 in
set_option maxRecDepth 100000 in
theorem cX5_hasBit_k (Z : gZ) (S : Nat → Nat → Nat) (a b : Nat) (ha : a < 2147483648) (hb : b < 32) : gMd Z yX5_hasBit wsX5_hasBit { frames := 0, cells := 0, slots := 0, locals := 0 } [.int (nI (a)), .int (nI (b))] S (gbit a b) (S) := by
  refine gMd_of (cc := cX5_hasBit) (maxL := 2) (ret := (some .boolean)) (by decide +kernel) rfl (Nat.le_of_ble_eq_true rfl) (Or.inr ⟨rfl, gbit_le _ _⟩) (fun X hZ hR K hret => ?_)
  subst hZ
  have K : gOk X cX5_hasBit 2 wsX5_hasBit RX5 := K
  have hRf : 0 ≤ (g_R X).frames := gR_f hR rfl
  have hRl : 0 ≤ (g_R X).locals := gR_l hR rfl
  show gG X 0 [(0, .int (nI (a))), (1, .int (nI (b)))] [] S
  refine g_iload_n K 0 dX5_hasBit_0 rfl ?_
  refine g_iload_n K 1 dX5_hasBit_1 rfl ?_
  refine g_ishr (a := a) (b := b) K (by omega) (by omega) dX5_hasBit_2 ?_
  refine g_iconst K 1 dX5_hasBit_3 (by decide +kernel) ?_
  refine g_iand (a := (a) >>> (b)) (b := 1) K dX5_hasBit_4 ?_
  have hL4_1 := @Nat.and_le_left ((a) >>> (b)) (1)
  have hR4_2 := @Nat.and_le_right ((a) >>> (b)) (1)
  refine g_if_eq (tgt := 12) (a := ((a) >>> (b)) &&& (1)) K dX5_hasBit_5 (by decide) (by omega) (fun h5_3 => ?_) (fun h5_3 => ?_)
  · refine g_iconst K 0 dX5_hasBit_12 (by decide +kernel) ?_
    exact g_retd hret dX5_hasBit_13 (if_pos (by assumption)).symm rfl
  · refine g_iconst K 1 dX5_hasBit_8 (by decide +kernel) ?_
    refine g_goto (tgt := 13) K dX5_hasBit_9 (by decide) ?_
    exact g_retd hret dX5_hasBit_13 (if_neg (by assumption)).symm rfl

set_option maxHeartbeats 4000000 in
set_option maxRecDepth 100000 in
theorem cX5_withBit_k (Z : gZ) (S : Nat → Nat → Nat) (a b i : Nat) (hb : b < 32) (hi : i < 4294967296) : gMd Z yX5_withBit wsX5_withBit { frames := 0, cells := 0, slots := 0, locals := 0 } [.int (nI (a)), .int (nI (b)), .int (nI (i))] S (gwith a b i) (S) := by
  refine gMd_of (cc := cX5_withBit) (maxL := 3) (ret := (some .int)) (by decide +kernel) rfl (Nat.le_of_ble_eq_true rfl) (Or.inl rfl) (fun X hZ hR K hret => ?_)
  subst hZ
  have K : gOk X cX5_withBit 3 wsX5_withBit RX5 := K
  have hRf : 0 ≤ (g_R X).frames := gR_f hR rfl
  have hRl : 0 ≤ (g_R X).locals := gR_l hR rfl
  show gG X 0 [(0, .int (nI (a))), (1, .int (nI (b))), (2, .int (nI (i)))] [] S
  refine g_iload_n K 2 dX5_withBit_0 rfl ?_
  refine g_if_eq (tgt := 12) (a := i) K dX5_withBit_1 (by decide) (by omega) (fun h1_1 => ?_) (fun h1_1 => ?_)
  · refine g_iload_n K 0 dX5_withBit_12 rfl ?_
    refine g_iconst K 1 dX5_withBit_13 (by decide +kernel) ?_
    refine g_iload_n K 1 dX5_withBit_14 rfl ?_
    refine g_ishl (a := 1) (b := b) K (by omega) dX5_withBit_15 ?_
    refine g_iconst K 4294967295 dX5_withBit_16 (by decide +kernel) ?_
    refine g_ixor (a := (1) <<< (b)) (b := 4294967295) K dX5_withBit_17 ?_
    refine g_iand (a := a) (b := ((1) <<< (b)) ^^^ (4294967295)) K dX5_withBit_18 ?_
    have hL18_2 := @Nat.and_le_left (a) (((1) <<< (b)) ^^^ (4294967295))
    have hR18_3 := @Nat.and_le_right (a) (((1) <<< (b)) ^^^ (4294967295))
    exact g_retd hret dX5_withBit_19 (by simp [gwith, *]) rfl
  · refine g_iload_n K 0 dX5_withBit_4 rfl ?_
    refine g_iconst K 1 dX5_withBit_5 (by decide +kernel) ?_
    refine g_iload_n K 1 dX5_withBit_6 rfl ?_
    refine g_ishl (a := 1) (b := b) K (by omega) dX5_withBit_7 ?_
    refine g_ior (a := a) (b := (1) <<< (b)) K dX5_withBit_8 ?_
    refine g_goto (tgt := 19) K dX5_withBit_9 (by decide) ?_
    exact g_retd hret dX5_withBit_19 (by simp [gwith, *]) rfl

set_option maxHeartbeats 4000000 in
set_option maxRecDepth 100000 in
theorem cX2_nodeCount_k (Z : gZ) (S : Nat → Nat → Nat) : gMd Z yX2_nodeCount wsX2_nodeCount { frames := 0, cells := 0, slots := 0, locals := 0 } [.ref (gz_ad Z 1)] S (S 1 0) (S) := by
  refine gMd_of (cc := cX2_nodeCount) (maxL := 1) (ret := (some .int)) (by decide +kernel) rfl (Nat.le_of_ble_eq_true rfl) (Or.inl rfl) (fun X hZ hR K hret => ?_)
  subst hZ
  have K : gOk X cX2_nodeCount 1 wsX2_nodeCount RX2 := K
  have hRf : 0 ≤ (g_R X).frames := gR_f hR rfl
  have hRl : 0 ≤ (g_R X).locals := gR_l hR rfl
  have hin2 : ∀ w ∈ u_ws RX2 TX2 12, w ∈ wsX2_nodeCount := by decide +kernel
  show gG X 0 [(0, .ref (g_ad X 1))] [] S
  refine g_aload_n K 0 dX2_nodeCount_0 rfl ?_
  refine g_getI (q := 1) (ci := 2) (k := 0) (N := 12) (C := RX2) (T := TX2) (ref := "ValveWalk$Network") K rfl rfl rfl (by decide) hin2 (by decide +kernel) rfl dX2_nodeCount_1 ?_
  exact g_retd hret dX2_nodeCount_4 rfl rfl

set_option maxHeartbeats 4000000 in
set_option maxRecDepth 100000 in
theorem cX2_pipeCount_k (Z : gZ) (S : Nat → Nat → Nat) : gMd Z yX2_pipeCount wsX2_pipeCount { frames := 0, cells := 0, slots := 0, locals := 0 } [.ref (gz_ad Z 1)] S (S 1 1) (S) := by
  refine gMd_of (cc := cX2_pipeCount) (maxL := 1) (ret := (some .int)) (by decide +kernel) rfl (Nat.le_of_ble_eq_true rfl) (Or.inl rfl) (fun X hZ hR K hret => ?_)
  subst hZ
  have K : gOk X cX2_pipeCount 1 wsX2_pipeCount RX2 := K
  have hRf : 0 ≤ (g_R X).frames := gR_f hR rfl
  have hRl : 0 ≤ (g_R X).locals := gR_l hR rfl
  have hin2 : ∀ w ∈ u_ws RX2 TX2 12, w ∈ wsX2_pipeCount := by decide +kernel
  show gG X 0 [(0, .ref (g_ad X 1))] [] S
  refine g_aload_n K 0 dX2_pipeCount_0 rfl ?_
  refine g_getI (q := 1) (ci := 2) (k := 1) (N := 12) (C := RX2) (T := TX2) (ref := "ValveWalk$Network") K rfl rfl rfl (by decide) hin2 (by decide +kernel) rfl dX2_pipeCount_1 ?_
  exact g_retd hret dX2_pipeCount_4 rfl rfl

set_option maxHeartbeats 4000000 in
set_option maxRecDepth 100000 in
theorem cX2_valveCount_k (Z : gZ) (S : Nat → Nat → Nat) : gMd Z yX2_valveCount wsX2_valveCount { frames := 0, cells := 0, slots := 0, locals := 0 } [.ref (gz_ad Z 1)] S (S 1 2) (S) := by
  refine gMd_of (cc := cX2_valveCount) (maxL := 1) (ret := (some .int)) (by decide +kernel) rfl (Nat.le_of_ble_eq_true rfl) (Or.inl rfl) (fun X hZ hR K hret => ?_)
  subst hZ
  have K : gOk X cX2_valveCount 1 wsX2_valveCount RX2 := K
  have hRf : 0 ≤ (g_R X).frames := gR_f hR rfl
  have hRl : 0 ≤ (g_R X).locals := gR_l hR rfl
  have hin2 : ∀ w ∈ u_ws RX2 TX2 12, w ∈ wsX2_valveCount := by decide +kernel
  show gG X 0 [(0, .ref (g_ad X 1))] [] S
  refine g_aload_n K 0 dX2_valveCount_0 rfl ?_
  refine g_getI (q := 1) (ci := 2) (k := 2) (N := 12) (C := RX2) (T := TX2) (ref := "ValveWalk$Network") K rfl rfl rfl (by decide) hin2 (by decide +kernel) rfl dX2_valveCount_1 ?_
  exact g_retd hret dX2_valveCount_4 rfl rfl

set_option maxHeartbeats 4000000 in
set_option maxRecDepth 100000 in
theorem cX2_sources_k (Z : gZ) (S : Nat → Nat → Nat) : gMd Z yX2_sources wsX2_sources { frames := 0, cells := 0, slots := 0, locals := 0 } [.ref (gz_ad Z 1)] S (S 1 3) (S) := by
  refine gMd_of (cc := cX2_sources) (maxL := 1) (ret := (some .int)) (by decide +kernel) rfl (Nat.le_of_ble_eq_true rfl) (Or.inl rfl) (fun X hZ hR K hret => ?_)
  subst hZ
  have K : gOk X cX2_sources 1 wsX2_sources RX2 := K
  have hRf : 0 ≤ (g_R X).frames := gR_f hR rfl
  have hRl : 0 ≤ (g_R X).locals := gR_l hR rfl
  have hin2 : ∀ w ∈ u_ws RX2 TX2 12, w ∈ wsX2_sources := by decide +kernel
  show gG X 0 [(0, .ref (g_ad X 1))] [] S
  refine g_aload_n K 0 dX2_sources_0 rfl ?_
  refine g_getI (q := 1) (ci := 2) (k := 3) (N := 12) (C := RX2) (T := TX2) (ref := "ValveWalk$Network") K rfl rfl rfl (by decide) hin2 (by decide +kernel) rfl dX2_sources_1 ?_
  exact g_retd hret dX2_sources_4 rfl rfl

set_option maxHeartbeats 4000000 in
set_option maxRecDepth 100000 in
theorem cX2_isStuck_k (Z : gZ) (S : Nat → Nat → Nat) (v : Nat) (hw : wfC S) (hv : v < 32) : gMd Z yX2_isStuck wsX2_isStuck { frames := 1, cells := 0, slots := 0, locals := 21 } [.ref (gz_ad Z 1), .int (nI (v))] S (gbit (S 1 5) v) (S) := by
  refine gMd_of (cc := cX2_isStuck) (maxL := 2) (ret := (some .boolean)) (by decide +kernel) rfl (Nat.le_of_ble_eq_true rfl) (Or.inr ⟨rfl, gbit_le _ _⟩) (fun X hZ hR K hret => ?_)
  subst hZ
  have K : gOk X cX2_isStuck 2 wsX2_isStuck RX2 := K
  have hRf : 1 ≤ (g_R X).frames := gR_f hR rfl
  have hRl : 21 ≤ (g_R X).locals := gR_l hR rfl
  have hin2 : ∀ w ∈ u_ws RX2 TX2 12, w ∈ wsX2_isStuck := by decide +kernel
  obtain ⟨w0, w1, w2, w3, wsh, wst, a2, a3, a4, a5, a6, a7⟩ := id hw
  show gG X 0 [(0, .ref (g_ad X 1)), (1, .int (nI (v)))] [] S
  refine g_aload_n K 0 dX2_isStuck_0 rfl ?_
  refine g_getI (q := 1) (ci := 2) (k := 5) (N := 12) (C := RX2) (T := TX2) (ref := "ValveWalk$Network") K rfl rfl rfl (by decide) hin2 (by decide +kernel) rfl dX2_isStuck_1 ?_
  refine g_iload_n K 1 dX2_isStuck_4 rfl ?_
  refine g_callNd (As := [.int (nI (S 1 5)), .int (nI (v))]) (rest := []) (host := "ValveWalk") K (cX5_hasBit_k (g_z X) S (S 1 5) v (by omega) (by omega)) ⟨va_cnB 2 K.1.2.2.2.2 gX2_isStuck_X5_hasBit_n55 rfl rfl rfl (K.2.2.2.1 _ (List.mem_of_getElem? (i := 5) rfl)) (K.1.2.2.2.2 _ (by decide +kernel)) (by decide +kernel) ⟨Nat.le_trans (Nat.le_of_ble_eq_true rfl) hRf, Nat.le_trans (Nat.le_of_ble_eq_true rfl) hRl⟩, K.1.2.2.2.2 _ (by decide +kernel), trivial⟩ rfl rfl (Nat.le_of_ble_eq_true rfl) dX2_isStuck_5 ?_
  exact g_retd hret dX2_isStuck_8 rfl rfl

set_option maxHeartbeats 4000000 in
set_option maxRecDepth 100000 in
theorem cX2_lengthOf_k (Z : gZ) (S : Nat → Nat → Nat) (p : Nat) (hp : p < 16) : gMd Z yX2_lengthOf wsX2_lengthOf { frames := 0, cells := 0, slots := 0, locals := 0 } [.ref (gz_ad Z 1), .int (nI (p))] S (S 2 p) (S) := by
  refine gMd_of (cc := cX2_lengthOf) (maxL := 2) (ret := (some .int)) (by decide +kernel) rfl (Nat.le_of_ble_eq_true rfl) (Or.inl rfl) (fun X hZ hR K hret => ?_)
  subst hZ
  have K : gOk X cX2_lengthOf 2 wsX2_lengthOf RX2 := K
  have hRf : 0 ≤ (g_R X).frames := gR_f hR rfl
  have hRl : 0 ≤ (g_R X).locals := gR_l hR rfl
  have hin2 : ∀ w ∈ u_ws RX2 TX2 12, w ∈ wsX2_lengthOf := by decide +kernel
  show gG X 0 [(0, .ref (g_ad X 1)), (1, .int (nI (p)))] [] S
  refine g_aload_n K 0 dX2_lengthOf_0 rfl ?_
  refine g_getR (q' := 2) (q := 1) (ci := 2) (k := 6) (N := 12) (C := RX2) (T := TX2) (ref := "ValveWalk$Network") K rfl rfl rfl (by decide) hin2 (by decide +kernel) rfl dX2_lengthOf_1 ?_
  refine g_iload_n K 1 dX2_lengthOf_4 rfl ?_
  refine g_ald (q := 2) (n := 16) (i := p) K rfl (by decide) (by omega) dX2_lengthOf_5 ?_
  exact g_retd hret dX2_lengthOf_6 rfl rfl

set_option maxHeartbeats 4000000 in
set_option maxRecDepth 100000 in
theorem cX2_nodeAt_k (Z : gZ) (S : Nat → Nat → Nat) (p e : Nat) (hp : 2 * p + e < 32) : gMd Z yX2_nodeAt wsX2_nodeAt { frames := 0, cells := 0, slots := 0, locals := 0 } [.ref (gz_ad Z 1), .int (nI (p)), .int (nI (e))] S (S 4 (2 * p + e)) (S) := by
  refine gMd_of (cc := cX2_nodeAt) (maxL := 3) (ret := (some .int)) (by decide +kernel) rfl (Nat.le_of_ble_eq_true rfl) (Or.inl rfl) (fun X hZ hR K hret => ?_)
  subst hZ
  have K : gOk X cX2_nodeAt 3 wsX2_nodeAt RX2 := K
  have hRf : 0 ≤ (g_R X).frames := gR_f hR rfl
  have hRl : 0 ≤ (g_R X).locals := gR_l hR rfl
  have hin2 : ∀ w ∈ u_ws RX2 TX2 12, w ∈ wsX2_nodeAt := by decide +kernel
  show gG X 0 [(0, .ref (g_ad X 1)), (1, .int (nI (p))), (2, .int (nI (e)))] [] S
  refine g_aload_n K 0 dX2_nodeAt_0 rfl ?_
  refine g_getR (q' := 4) (q := 1) (ci := 2) (k := 8) (N := 12) (C := RX2) (T := TX2) (ref := "ValveWalk$Network") K rfl rfl rfl (by decide) hin2 (by decide +kernel) rfl dX2_nodeAt_1 ?_
  refine g_iconst K 2 dX2_nodeAt_4 (by decide +kernel) ?_
  refine g_iload_n K 1 dX2_nodeAt_5 rfl ?_
  refine g_imul (a := 2) (b := p) K dX2_nodeAt_6 ?_
  refine g_iload_n K 2 dX2_nodeAt_7 rfl ?_
  refine g_iadd (a := (2) * (p)) (b := e) K dX2_nodeAt_8 ?_
  refine g_ald (q := 4) (n := 32) (i := ((2) * (p)) + (e)) K rfl (by decide) (by omega) dX2_nodeAt_9 ?_
  exact g_retd hret dX2_nodeAt_10 rfl rfl

set_option maxHeartbeats 4000000 in
set_option maxRecDepth 100000 in
theorem cX2_valveBitAt_k (Z : gZ) (S : Nat → Nat → Nat) (p e : Nat) (hp : 2 * p + e < 32) : gMd Z yX2_valveBitAt wsX2_valveBitAt { frames := 0, cells := 0, slots := 0, locals := 0 } [.ref (gz_ad Z 1), .int (nI (p)), .int (nI (e))] S (S 5 (2 * p + e)) (S) := by
  refine gMd_of (cc := cX2_valveBitAt) (maxL := 3) (ret := (some .int)) (by decide +kernel) rfl (Nat.le_of_ble_eq_true rfl) (Or.inl rfl) (fun X hZ hR K hret => ?_)
  subst hZ
  have K : gOk X cX2_valveBitAt 3 wsX2_valveBitAt RX2 := K
  have hRf : 0 ≤ (g_R X).frames := gR_f hR rfl
  have hRl : 0 ≤ (g_R X).locals := gR_l hR rfl
  have hin2 : ∀ w ∈ u_ws RX2 TX2 12, w ∈ wsX2_valveBitAt := by decide +kernel
  show gG X 0 [(0, .ref (g_ad X 1)), (1, .int (nI (p))), (2, .int (nI (e)))] [] S
  refine g_aload_n K 0 dX2_valveBitAt_0 rfl ?_
  refine g_getR (q' := 5) (q := 1) (ci := 2) (k := 9) (N := 12) (C := RX2) (T := TX2) (ref := "ValveWalk$Network") K rfl rfl rfl (by decide) hin2 (by decide +kernel) rfl dX2_valveBitAt_1 ?_
  refine g_iconst K 2 dX2_valveBitAt_4 (by decide +kernel) ?_
  refine g_iload_n K 1 dX2_valveBitAt_5 rfl ?_
  refine g_imul (a := 2) (b := p) K dX2_valveBitAt_6 ?_
  refine g_iload_n K 2 dX2_valveBitAt_7 rfl ?_
  refine g_iadd (a := (2) * (p)) (b := e) K dX2_valveBitAt_8 ?_
  refine g_ald (q := 5) (n := 32) (i := ((2) * (p)) + (e)) K rfl (by decide) (by omega) dX2_valveBitAt_9 ?_
  exact g_retd hret dX2_valveBitAt_10 rfl rfl

def shutAt (S : Nat → Nat → Nat) (p e : Nat) : Nat := if S 5 (2 * p + e) &&& S 1 4 = 0 then 0 else 1
theorem shutAt_le (S : Nat → Nat → Nat) (p e : Nat) : shutAt S p e ≤ 1 := by unfold shutAt; split <;> omega
set_option maxHeartbeats 4000000 in
set_option maxRecDepth 100000 in
theorem cX2_isShutAt_k (Z : gZ) (S : Nat → Nat → Nat) (p e : Nat) (hw : wfC S) (hp : 2 * p + e < 32) : gMd Z yX2_isShutAt wsX2_isShutAt { frames := 1, cells := 0, slots := 0, locals := 22 } [.ref (gz_ad Z 1), .int (nI (p)), .int (nI (e))] S (shutAt S p e) (S) := by
  refine gMd_of (cc := cX2_isShutAt) (maxL := 3) (ret := (some .boolean)) (by decide +kernel) rfl (Nat.le_of_ble_eq_true rfl) (Or.inr ⟨rfl, shutAt_le _ _ _⟩) (fun X hZ hR K hret => ?_)
  subst hZ
  have K : gOk X cX2_isShutAt 3 wsX2_isShutAt RX2 := K
  have hRf : 1 ≤ (g_R X).frames := gR_f hR rfl
  have hRl : 22 ≤ (g_R X).locals := gR_l hR rfl
  have hin2 : ∀ w ∈ u_ws RX2 TX2 12, w ∈ wsX2_isShutAt := by decide +kernel
  obtain ⟨w0, w1, w2, w3, wsh, wst, a2, a3, a4, a5, a6, a7⟩ := id hw
  show gG X 0 [(0, .ref (g_ad X 1)), (1, .int (nI (p))), (2, .int (nI (e)))] [] S
  refine g_aload_n K 0 dX2_isShutAt_0 rfl ?_
  refine g_iload_n K 1 dX2_isShutAt_1 rfl ?_
  refine g_iload_n K 2 dX2_isShutAt_2 rfl ?_
  refine g_callVd (q := 1) (ci := 2) (As := [.int (nI (p)), .int (nI (e))]) (rest := []) (C := RX2) (T := TX2) (N := 12) K (cX2_valveBitAt_k (g_z X) S p e (by omega)) (cwV 2 K.1.2.2.2.2 gX2_isShutAt_X2_valveBitAt rfl rfl rfl (by decide +kernel) ⟨Nat.le_trans (Nat.le_of_ble_eq_true rfl) hRf, Nat.le_trans (Nat.le_of_ble_eq_true rfl) hRl⟩) rfl rfl rfl rfl (Nat.le_of_ble_eq_true rfl) dX2_isShutAt_3 ?_
  refine g_aload_n K 0 dX2_isShutAt_6 rfl ?_
  refine g_getI (q := 1) (ci := 2) (k := 4) (N := 12) (C := RX2) (T := TX2) (ref := "ValveWalk$Network") K rfl rfl rfl (by decide) hin2 (by decide +kernel) rfl dX2_isShutAt_7 ?_
  refine g_iand (a := S 5 (2 * p + e)) (b := S 1 4) K dX2_isShutAt_10 ?_
  have hL10_1 := @Nat.and_le_left (S 5 (2 * p + e)) (S 1 4)
  have hR10_2 := @Nat.and_le_right (S 5 (2 * p + e)) (S 1 4)
  refine g_if_eq (tgt := 18) (a := (S 5 (2 * p + e)) &&& (S 1 4)) K dX2_isShutAt_11 (by decide) (by omega) (fun h11_3 => ?_) (fun h11_3 => ?_)
  · refine g_iconst K 0 dX2_isShutAt_18 (by decide +kernel) ?_
    exact g_retd hret dX2_isShutAt_19 (if_pos (by assumption)).symm rfl
  · refine g_iconst K 1 dX2_isShutAt_14 (by decide +kernel) ?_
    refine g_goto (tgt := 19) K dX2_isShutAt_15 (by decide) ?_
    exact g_retd hret dX2_isShutAt_19 (if_neg (by assumption)).symm rfl

set_option maxHeartbeats 4000000 in
set_option maxRecDepth 100000 in
theorem cX2_pipeOfValve_k (Z : gZ) (S : Nat → Nat → Nat) (v : Nat) (hw : wfC S) (hv : v < 12) : gMd Z yX2_pipeOfValve wsX2_pipeOfValve { frames := 0, cells := 0, slots := 0, locals := 0 } [.ref (gz_ad Z 1), .int (nI (v))] S (S 7 v / 2) (S) := by
  refine gMd_of (cc := cX2_pipeOfValve) (maxL := 2) (ret := (some .int)) (by decide +kernel) rfl (Nat.le_of_ble_eq_true rfl) (Or.inl rfl) (fun X hZ hR K hret => ?_)
  subst hZ
  have K : gOk X cX2_pipeOfValve 2 wsX2_pipeOfValve RX2 := K
  have hRf : 0 ≤ (g_R X).frames := gR_f hR rfl
  have hRl : 0 ≤ (g_R X).locals := gR_l hR rfl
  have hin2 : ∀ w ∈ u_ws RX2 TX2 12, w ∈ wsX2_pipeOfValve := by decide +kernel
  obtain ⟨w0, w1, w2, w3, wsh, wst, a2, a3, a4, a5, a6, a7⟩ := id hw
  show gG X 0 [(0, .ref (g_ad X 1)), (1, .int (nI (v)))] [] S
  refine g_aload_n K 0 dX2_pipeOfValve_0 rfl ?_
  refine g_getR (q' := 7) (q := 1) (ci := 2) (k := 11) (N := 12) (C := RX2) (T := TX2) (ref := "ValveWalk$Network") K rfl rfl rfl (by decide) hin2 (by decide +kernel) rfl dX2_pipeOfValve_1 ?_
  refine g_iload_n K 1 dX2_pipeOfValve_4 rfl ?_
  refine g_ald (q := 7) (n := 12) (i := v) K rfl (by decide) (by omega) dX2_pipeOfValve_5 ?_
  have hv5_1 := a7 (v)
  refine g_iconst K 2 dX2_pipeOfValve_6 (by decide +kernel) ?_
  refine g_idiv (a := S 7 (v)) (b := 2) K (by omega) (by omega) (by omega) dX2_pipeOfValve_7 ?_
  exact g_retd hret dX2_pipeOfValve_8 rfl rfl

set_option maxHeartbeats 4000000 in
set_option maxRecDepth 100000 in
theorem cX2_nodeOfValve_k (Z : gZ) (S : Nat → Nat → Nat) (v : Nat) (hw : wfC S) (hv : v < 12) : gMd Z yX2_nodeOfValve wsX2_nodeOfValve { frames := 0, cells := 0, slots := 0, locals := 0 } [.ref (gz_ad Z 1), .int (nI (v))] S (S 4 (S 7 v)) (S) := by
  refine gMd_of (cc := cX2_nodeOfValve) (maxL := 2) (ret := (some .int)) (by decide +kernel) rfl (Nat.le_of_ble_eq_true rfl) (Or.inl rfl) (fun X hZ hR K hret => ?_)
  subst hZ
  have K : gOk X cX2_nodeOfValve 2 wsX2_nodeOfValve RX2 := K
  have hRf : 0 ≤ (g_R X).frames := gR_f hR rfl
  have hRl : 0 ≤ (g_R X).locals := gR_l hR rfl
  have hin2 : ∀ w ∈ u_ws RX2 TX2 12, w ∈ wsX2_nodeOfValve := by decide +kernel
  obtain ⟨w0, w1, w2, w3, wsh, wst, a2, a3, a4, a5, a6, a7⟩ := id hw
  show gG X 0 [(0, .ref (g_ad X 1)), (1, .int (nI (v)))] [] S
  refine g_aload_n K 0 dX2_nodeOfValve_0 rfl ?_
  refine g_getR (q' := 4) (q := 1) (ci := 2) (k := 8) (N := 12) (C := RX2) (T := TX2) (ref := "ValveWalk$Network") K rfl rfl rfl (by decide) hin2 (by decide +kernel) rfl dX2_nodeOfValve_1 ?_
  refine g_aload_n K 0 dX2_nodeOfValve_4 rfl ?_
  refine g_getR (q' := 7) (q := 1) (ci := 2) (k := 11) (N := 12) (C := RX2) (T := TX2) (ref := "ValveWalk$Network") K rfl rfl rfl (by decide) hin2 (by decide +kernel) rfl dX2_nodeOfValve_5 ?_
  refine g_iload_n K 1 dX2_nodeOfValve_8 rfl ?_
  refine g_ald (q := 7) (n := 12) (i := v) K rfl (by decide) (by omega) dX2_nodeOfValve_9 ?_
  have hv9_1 := a7 (v)
  refine g_ald (q := 4) (n := 32) (i := S 7 (v)) K rfl (by decide) (by omega) dX2_nodeOfValve_10 ?_
  have hv10_2 := a4 (S 7 (v))
  exact g_retd hret dX2_nodeOfValve_11 rfl rfl

def closable (S : Nat → Nat → Nat) : Nat := (((1 <<< S 1 2) - 1) &&& (S 1 4 ^^^ 4294967295)) &&& (S 1 5 ^^^ 4294967295)
def bounding (S : Nat → Nat → Nat) : Nat := 4095 &&& ((S 1 5 &&& (S 1 4 ^^^ 4294967295)) ^^^ 4294967295)
theorem bounding_lt (S : Nat → Nat → Nat) : bounding S < 4096 := Nat.lt_of_le_of_lt Nat.and_le_left (by decide)
set_option maxHeartbeats 4000000 in
set_option maxRecDepth 100000 in
theorem cX2_closable_k (Z : gZ) (S : Nat → Nat → Nat) (hw : wfC S) : gMd Z yX2_closable wsX2_closable { frames := 0, cells := 0, slots := 0, locals := 0 } [.ref (gz_ad Z 1)] S (closable S) (S) := by
  refine gMd_of (cc := cX2_closable) (maxL := 1) (ret := (some .int)) (by decide +kernel) rfl (Nat.le_of_ble_eq_true rfl) (Or.inl rfl) (fun X hZ hR K hret => ?_)
  subst hZ
  have K : gOk X cX2_closable 1 wsX2_closable RX2 := K
  have hRf : 0 ≤ (g_R X).frames := gR_f hR rfl
  have hRl : 0 ≤ (g_R X).locals := gR_l hR rfl
  have hin2 : ∀ w ∈ u_ws RX2 TX2 12, w ∈ wsX2_closable := by decide +kernel
  obtain ⟨w0, w1, w2, w3, wsh, wst, a2, a3, a4, a5, a6, a7⟩ := id hw
  show gG X 0 [(0, .ref (g_ad X 1))] [] S
  refine g_iconst K 1 dX2_closable_0 (by decide +kernel) ?_
  refine g_aload_n K 0 dX2_closable_1 rfl ?_
  refine g_getI (q := 1) (ci := 2) (k := 2) (N := 12) (C := RX2) (T := TX2) (ref := "ValveWalk$Network") K rfl rfl rfl (by decide) hin2 (by decide +kernel) rfl dX2_closable_2 ?_
  refine g_ishl (a := 1) (b := S 1 2) K (by omega) dX2_closable_5 ?_
  have hs1 : 1 ≤ 1 <<< S 1 2 := by rw [Nat.one_shiftLeft]; exact Nat.one_le_two_pow
  refine g_iconst K 1 dX2_closable_6 (by decide +kernel) ?_
  refine g_isub (a := (1) <<< (S 1 2)) (b := 1) K (by omega) dX2_closable_7 ?_
  refine g_aload_n K 0 dX2_closable_8 rfl ?_
  refine g_getI (q := 1) (ci := 2) (k := 4) (N := 12) (C := RX2) (T := TX2) (ref := "ValveWalk$Network") K rfl rfl rfl (by decide) hin2 (by decide +kernel) rfl dX2_closable_9 ?_
  refine g_iconst K 4294967295 dX2_closable_12 (by decide +kernel) ?_
  refine g_ixor (a := S 1 4) (b := 4294967295) K dX2_closable_13 ?_
  refine g_iand (a := ((1) <<< (S 1 2)) - (1)) (b := (S 1 4) ^^^ (4294967295)) K dX2_closable_14 ?_
  have hL14_1 := @Nat.and_le_left (((1) <<< (S 1 2)) - (1)) ((S 1 4) ^^^ (4294967295))
  have hR14_2 := @Nat.and_le_right (((1) <<< (S 1 2)) - (1)) ((S 1 4) ^^^ (4294967295))
  refine g_aload_n K 0 dX2_closable_15 rfl ?_
  refine g_getI (q := 1) (ci := 2) (k := 5) (N := 12) (C := RX2) (T := TX2) (ref := "ValveWalk$Network") K rfl rfl rfl (by decide) hin2 (by decide +kernel) rfl dX2_closable_16 ?_
  refine g_iconst K 4294967295 dX2_closable_19 (by decide +kernel) ?_
  refine g_ixor (a := S 1 5) (b := 4294967295) K dX2_closable_20 ?_
  refine g_iand (a := (((1) <<< (S 1 2)) - (1)) &&& ((S 1 4) ^^^ (4294967295))) (b := (S 1 5) ^^^ (4294967295)) K dX2_closable_21 ?_
  have hL21_3 := @Nat.and_le_left ((((1) <<< (S 1 2)) - (1)) &&& ((S 1 4) ^^^ (4294967295))) ((S 1 5) ^^^ (4294967295))
  have hR21_4 := @Nat.and_le_right ((((1) <<< (S 1 2)) - (1)) &&& ((S 1 4) ^^^ (4294967295))) ((S 1 5) ^^^ (4294967295))
  exact g_retd hret dX2_closable_22 rfl rfl

set_option maxHeartbeats 4000000 in
set_option maxRecDepth 100000 in
theorem cX2_bounding_k (Z : gZ) (S : Nat → Nat → Nat) (hw : wfC S) : gMd Z yX2_bounding wsX2_bounding { frames := 0, cells := 0, slots := 0, locals := 0 } [.ref (gz_ad Z 1)] S (bounding S) (S) := by
  refine gMd_of (cc := cX2_bounding) (maxL := 1) (ret := (some .int)) (by decide +kernel) rfl (Nat.le_of_ble_eq_true rfl) (Or.inl rfl) (fun X hZ hR K hret => ?_)
  subst hZ
  have K : gOk X cX2_bounding 1 wsX2_bounding RX2 := K
  have hRf : 0 ≤ (g_R X).frames := gR_f hR rfl
  have hRl : 0 ≤ (g_R X).locals := gR_l hR rfl
  have hin2 : ∀ w ∈ u_ws RX2 TX2 12, w ∈ wsX2_bounding := by decide +kernel
  obtain ⟨w0, w1, w2, w3, wsh, wst, a2, a3, a4, a5, a6, a7⟩ := id hw
  show gG X 0 [(0, .ref (g_ad X 1))] [] S
  refine g_sipush K 4095 dX2_bounding_0 (by decide +kernel) ?_
  refine g_aload_n K 0 dX2_bounding_3 rfl ?_
  refine g_getI (q := 1) (ci := 2) (k := 5) (N := 12) (C := RX2) (T := TX2) (ref := "ValveWalk$Network") K rfl rfl rfl (by decide) hin2 (by decide +kernel) rfl dX2_bounding_4 ?_
  refine g_aload_n K 0 dX2_bounding_7 rfl ?_
  refine g_getI (q := 1) (ci := 2) (k := 4) (N := 12) (C := RX2) (T := TX2) (ref := "ValveWalk$Network") K rfl rfl rfl (by decide) hin2 (by decide +kernel) rfl dX2_bounding_8 ?_
  refine g_iconst K 4294967295 dX2_bounding_11 (by decide +kernel) ?_
  refine g_ixor (a := S 1 4) (b := 4294967295) K dX2_bounding_12 ?_
  refine g_iand (a := S 1 5) (b := (S 1 4) ^^^ (4294967295)) K dX2_bounding_13 ?_
  have hL13_1 := @Nat.and_le_left (S 1 5) ((S 1 4) ^^^ (4294967295))
  have hR13_2 := @Nat.and_le_right (S 1 5) ((S 1 4) ^^^ (4294967295))
  refine g_iconst K 4294967295 dX2_bounding_14 (by decide +kernel) ?_
  refine g_ixor (a := (S 1 5) &&& ((S 1 4) ^^^ (4294967295))) (b := 4294967295) K dX2_bounding_15 ?_
  refine g_iand (a := 4095) (b := ((S 1 5) &&& ((S 1 4) ^^^ (4294967295))) ^^^ (4294967295)) K dX2_bounding_16 ?_
  have hL16_3 := @Nat.and_le_left (4095) (((S 1 5) &&& ((S 1 4) ^^^ (4294967295))) ^^^ (4294967295))
  have hR16_4 := @Nat.and_le_right (4095) (((S 1 5) &&& ((S 1 4) ^^^ (4294967295))) ^^^ (4294967295))
  exact g_retd hret dX2_bounding_17 rfl rfl

def hasPart (S : Nat → Nat → Nat) (a : Nat) : Nat := if a < 12 then (if a < S 1 0 then 1 else 0) else (if a < 12 + S 1 1 then 1 else 0)
theorem hasPart_le (S : Nat → Nat → Nat) (a : Nat) : hasPart S a ≤ 1 := by unfold hasPart; (repeat' split) <;> omega
set_option maxHeartbeats 4000000 in
set_option maxRecDepth 100000 in
theorem cX2_hasPart_k (Z : gZ) (S : Nat → Nat → Nat) (a : Nat) (hw : wfC S) (ha : a < 2147483648) : gMd Z yX2_hasPart wsX2_hasPart { frames := 1, cells := 0, slots := 0, locals := 20 } [.ref (gz_ad Z 1), .int (nI (a))] S (hasPart S a) (S) := by
  refine gMd_of (cc := cX2_hasPart) (maxL := 2) (ret := (some .boolean)) (by decide +kernel) rfl (Nat.le_of_ble_eq_true rfl) (Or.inr ⟨rfl, hasPart_le _ _⟩) (fun X hZ hR K hret => ?_)
  subst hZ
  have K : gOk X cX2_hasPart 2 wsX2_hasPart RX2 := K
  have hRf : 1 ≤ (g_R X).frames := gR_f hR rfl
  have hRl : 20 ≤ (g_R X).locals := gR_l hR rfl
  have hin2 : ∀ w ∈ u_ws RX2 TX2 12, w ∈ wsX2_hasPart := by decide +kernel
  obtain ⟨w0, w1, w2, w3, wsh, wst, a2, a3, a4, a5, a6, a7⟩ := id hw
  show gG X 0 [(0, .ref (g_ad X 1)), (1, .int (nI (a)))] [] S
  refine g_iload_n K 1 dX2_hasPart_0 rfl ?_
  refine g_bipush K 12 dX2_hasPart_1 (by decide +kernel) ?_
  refine g_icmp_ge (tgt := 22) (a := a) (b := 12) K dX2_hasPart_3 (by decide) (by omega) (by omega) (fun h3_1 => ?_) (fun h3_1 => ?_)
  · refine g_iload_n K 1 dX2_hasPart_22 rfl ?_
    refine g_aload_n K 0 dX2_hasPart_23 rfl ?_
    refine g_getI (q := 1) (ci := 2) (k := 1) (N := 12) (C := RX2) (T := TX2) (ref := "ValveWalk$Network") K rfl rfl rfl (by decide) hin2 (by decide +kernel) rfl dX2_hasPart_24 ?_
    refine g_callNd (As := [.int (nI (S 1 1))]) (rest := [.int (nI (a))]) (host := "ValveWalk") K (cX5_partOfPipe_k (g_z X) S (S 1 1)) ⟨va_cnB 1 K.1.2.2.2.2 gX2_hasPart_X5_partOfPipe_n51 rfl rfl rfl (K.2.2.2.1 _ (List.mem_of_getElem? (i := 4) rfl)) (K.1.2.2.2.2 _ (by decide +kernel)) (by decide +kernel) ⟨Nat.le_trans (Nat.le_of_ble_eq_true rfl) hRf, Nat.le_trans (Nat.le_of_ble_eq_true rfl) hRl⟩, K.1.2.2.2.2 _ (by decide +kernel), trivial⟩ rfl rfl (Nat.le_of_ble_eq_true rfl) dX2_hasPart_27 ?_
    refine g_icmp_ge (tgt := 37) (a := a) (b := 12 + (S 1 1)) K dX2_hasPart_30 (by decide) (by omega) (by omega) (fun h30_2 => ?_) (fun h30_2 => ?_)
    · refine g_iconst K 0 dX2_hasPart_37 (by decide +kernel) ?_
      exact g_retd hret dX2_hasPart_38 (by unfold hasPart; (repeat' split) <;> first | rfl | contradiction | (exfalso; omega) | omega) rfl
    · refine g_iconst K 1 dX2_hasPart_33 (by decide +kernel) ?_
      refine g_goto (tgt := 38) K dX2_hasPart_34 (by decide) ?_
      exact g_retd hret dX2_hasPart_38 (by unfold hasPart; (repeat' split) <;> first | rfl | contradiction | (exfalso; omega) | omega) rfl
  · refine g_iload_n K 1 dX2_hasPart_6 rfl ?_
    refine g_aload_n K 0 dX2_hasPart_7 rfl ?_
    refine g_getI (q := 1) (ci := 2) (k := 0) (N := 12) (C := RX2) (T := TX2) (ref := "ValveWalk$Network") K rfl rfl rfl (by decide) hin2 (by decide +kernel) rfl dX2_hasPart_8 ?_
    refine g_icmp_ge (tgt := 18) (a := a) (b := S 1 0) K dX2_hasPart_11 (by decide) (by omega) (by omega) (fun h11_3 => ?_) (fun h11_3 => ?_)
    · refine g_iconst K 0 dX2_hasPart_18 (by decide +kernel) ?_
      refine g_goto (tgt := 38) K dX2_hasPart_19 (by decide) ?_
      exact g_retd hret dX2_hasPart_38 (by unfold hasPart; (repeat' split) <;> first | rfl | contradiction | (exfalso; omega) | omega) rfl
    · refine g_iconst K 1 dX2_hasPart_14 (by decide +kernel) ?_
      refine g_goto (tgt := 38) K dX2_hasPart_15 (by decide) ?_
      exact g_retd hret dX2_hasPart_38 (by unfold hasPart; (repeat' split) <;> first | rfl | contradiction | (exfalso; omega) | omega) rfl

def fJoint (S : Nat → Nat → Nat) (b j r : Nat) : Nat := if S 5 j &&& b = 0 then (if r &&& S 6 j = 0 then r else r ||| S 6 j) else r
def fPass (S : Nat → Nat → Nat) (b r : Nat) : Nat := gfor (fJoint S b) (2 * S 1 1) 0 r
def fReach (S : Nat → Nat → Nat) (b : Nat) : Nat → Nat → Nat
  | 0, r => r
  | k + 1, r => if fPass S b r = r then fPass S b r else fReach S b k (fPass S b r)
def reach (S : Nat → Nat → Nat) (a b : Nat) : Nat := fReach S b 28 a
theorem gfor_inv {α : Type} (P : α → Prop) (f : Nat → α → α) (h : ∀ j x, P x → P (f j x)) : ∀ (k j : Nat) (x : α), P x → P (gfor f k j x)
  | 0, _, _, h0 => h0
  | k + 1, j, x, h0 => gfor_inv P f h k (j + 1) (f j x) (h j x h0)
theorem fJoint_lt {S : Nat → Nat → Nat} (hw : wfC S) (b j r : Nat) (h : r < 268435456) : fJoint S b j r < 268435456 := by
  unfold fJoint
  (repeat' split)
  · exact h
  · exact or28 h (hw.2.2.2.2.2.2.2.2.2.2.1 j)
  · exact h
theorem fPass_lt {S : Nat → Nat → Nat} (hw : wfC S) (b r : Nat) (h : r < 268435456) : fPass S b r < 268435456 := gfor_inv (· < 268435456) _ (fun j x h => fJoint_lt hw b j x h) _ _ _ h
theorem fReach_lt {S : Nat → Nat → Nat} (hw : wfC S) (b : Nat) : ∀ (k r : Nat), r < 268435456 → fReach S b k r < 268435456
  | 0, _, h => h
  | k + 1, r, h => by
    unfold fReach
    split
    · exact fPass_lt hw b r h
    · exact fReach_lt hw b k _ (fPass_lt hw b r h)
theorem reach_lt {S : Nat → Nat → Nat} (hw : wfC S) {a b : Nat} (h : a < 268435456) : reach S a b < 268435456 := fReach_lt hw b 28 a h
set_option maxHeartbeats 4000000 in
set_option maxRecDepth 100000 in
theorem L_reach_18 (X : gC) (S : Nat → Nat → Nat) (a : Nat) (b : Nat) (n : Nat) (bf : Nat) (K : gOk X cX2_reach 8 wsX2_reach RX2) (hRf : 0 ≤ (g_R X).frames) (hRl : 0 ≤ (g_R X).locals) (hw : wfC S) : ∀ (k j : Nat) (r : Nat), j + k = 2 * S 1 1 → (r < 268435456) → gG X 81 [(0, .ref (g_ad X 1)), (1, .int (nI (a))), (2, .int (nI (b))), (3, .int (nI (((gfor (fJoint S b) k j r))))), (4, .int (nI (n))), (5, .int (nI (bf))), (6, .int (nI ((2 * S 1 1))))] [] S → gG X 18 [(0, .ref (g_ad X 1)), (1, .int (nI (a))), (2, .int (nI (b))), (3, .int (nI (r))), (4, .int (nI (n))), (5, .int (nI (bf))), (6, .int (nI (j)))] [] S := by
  have hin2 : ∀ w ∈ u_ws RX2 TX2 12, w ∈ wsX2_reach := by decide +kernel
  obtain ⟨w0, w1, w2, w3, wsh, wst, a2, a3, a4, a5, a6, a7⟩ := id hw
  intro k
  induction k with
  | zero =>
    intro j r hj hr kk
    have hj : j = 2 * S 1 1 := by omega
    refine g_iload K 6 dX2_reach_18 rfl ?_
    refine g_iconst K 2 dX2_reach_20 (by decide +kernel) ?_
    refine g_aload_n K 0 dX2_reach_21 rfl ?_
    refine g_getI (q := 1) (ci := 2) (k := 1) (N := 12) (C := RX2) (T := TX2) (ref := "ValveWalk$Network") K rfl rfl rfl (by decide) hin2 (by decide +kernel) rfl dX2_reach_22 ?_
    refine g_imul (a := 2) (b := S 1 1) K dX2_reach_25 ?_
    refine g_icmp_ge (tgt := 81) (a := j) (b := (2) * (S 1 1)) K dX2_reach_26 (by decide) (by omega) (by omega) (fun h26_1 => ?_) (fun h26_1 => ?_)
    · refine g_loc (lo' := [(0, .ref (g_ad X 1)), (1, .int (nI (a))), (2, .int (nI (b))), (3, .int (nI (r))), (4, .int (nI (n))), (5, .int (nI (bf))), (6, .int (nI (j)))]) [0, 1, 2, 3, 4, 5, 6] rfl ?_
      exact g_cast (by first | rfl | (rw [hj]; done) | (rw [hj]; rfl)) rfl rfl kk
    · exact absurd h26_1 (by omega)
  | succ k ih =>
    intro j r hj hr kk
    refine g_iload K 6 dX2_reach_18 rfl ?_
    refine g_iconst K 2 dX2_reach_20 (by decide +kernel) ?_
    refine g_aload_n K 0 dX2_reach_21 rfl ?_
    refine g_getI (q := 1) (ci := 2) (k := 1) (N := 12) (C := RX2) (T := TX2) (ref := "ValveWalk$Network") K rfl rfl rfl (by decide) hin2 (by decide +kernel) rfl dX2_reach_22 ?_
    refine g_imul (a := 2) (b := S 1 1) K dX2_reach_25 ?_
    refine g_icmp_ge (tgt := 81) (a := j) (b := (2) * (S 1 1)) K dX2_reach_26 (by decide) (by omega) (by omega) (fun h26_1 => ?_) (fun h26_1 => ?_)
    · exact absurd h26_1 (by omega)
    · refine g_aload_n K 0 dX2_reach_29 rfl ?_
      refine g_getR (q' := 5) (q := 1) (ci := 2) (k := 9) (N := 12) (C := RX2) (T := TX2) (ref := "ValveWalk$Network") K rfl rfl rfl (by decide) hin2 (by decide +kernel) rfl dX2_reach_30 ?_
      refine g_iload K 6 dX2_reach_33 rfl ?_
      refine g_ald (q := 5) (n := 32) (i := j) K rfl (by decide) (by omega) dX2_reach_35 ?_
      have hv35_2 := a5 (j)
      refine g_iload_n K 2 dX2_reach_36 rfl ?_
      refine g_iand (a := S 5 (j)) (b := b) K dX2_reach_37 ?_
      have hL37_3 := @Nat.and_le_left (S 5 (j)) (b)
      have hR37_4 := @Nat.and_le_right (S 5 (j)) (b)
      refine g_if_ne (tgt := 45) (a := (S 5 (j)) &&& (b)) K dX2_reach_38 (by decide) (by omega) (fun h38_5 => ?_) (fun h38_5 => ?_)
      · refine g_iconst K 0 dX2_reach_45 (by decide +kernel) ?_
        refine g_istore (lo' := [(7, .int (nI (0))), (0, .ref (g_ad X 1)), (1, .int (nI (a))), (2, .int (nI (b))), (3, .int (nI (r))), (4, .int (nI (n))), (5, .int (nI (bf))), (6, .int (nI (j)))]) K dX2_reach_46 (by decide) rfl ?_
        refine g_iload K 0 dX2_reach_48 rfl ?_
        refine g_if_eq (tgt := 75) (a := 0) K dX2_reach_50 (by decide) (by omega) (fun h50_6 => ?_) (fun h50_6 => absurd h50_6 (by omega))
        refine g_iinc (a := j) (b := j + 1) (lo' := [(6, .int (nI (j + 1))), (7, .int (nI (0))), (0, .ref (g_ad X 1)), (1, .int (nI (a))), (2, .int (nI (b))), (3, .int (nI (r))), (4, .int (nI (n))), (5, .int (nI (bf)))]) K 7 dX2_reach_75 rfl (gi_inc _) (by decide) rfl ?_
        refine g_goto (tgt := 18) K dX2_reach_78 (by decide) ?_
        refine g_loc (lo' := [(0, .ref (g_ad X 1)), (1, .int (nI (a))), (2, .int (nI (b))), (3, .int (nI (r))), (4, .int (nI (n))), (5, .int (nI (bf))), (6, .int (nI (j + 1)))]) [2, 3, 4, 5, 6, 7, 0] rfl ?_
        exact ih (j + 1) r (by omega) (hr) (by rw [gfor_succ, show (fJoint S b) j r = r from by simp only [fJoint]; (repeat' split) <;> first | rfl | contradiction | (exfalso; omega) | omega] at kk; exact kk)
      · refine g_iconst K 1 dX2_reach_41 (by decide +kernel) ?_
        refine g_goto (tgt := 46) K dX2_reach_42 (by decide) ?_
        refine g_istore (lo' := [(7, .int (nI (1))), (0, .ref (g_ad X 1)), (1, .int (nI (a))), (2, .int (nI (b))), (3, .int (nI (r))), (4, .int (nI (n))), (5, .int (nI (bf))), (6, .int (nI (j)))]) K dX2_reach_46 (by decide) rfl ?_
        refine g_iload K 0 dX2_reach_48 rfl ?_
        refine g_if_eq (tgt := 75) (a := 1) K dX2_reach_50 (by decide) (by omega) (fun h50_7 => absurd h50_7 (by omega)) (fun h50_7 => ?_)
        refine g_iload_n K 4 dX2_reach_53 rfl ?_
        refine g_aload_n K 1 dX2_reach_54 rfl ?_
        refine g_getR (q' := 6) (q := 1) (ci := 2) (k := 10) (N := 12) (C := RX2) (T := TX2) (ref := "ValveWalk$Network") K rfl rfl rfl (by decide) hin2 (by decide +kernel) rfl dX2_reach_55 ?_
        refine g_iload K 7 dX2_reach_58 rfl ?_
        refine g_ald (q := 6) (n := 32) (i := j) K rfl (by decide) (by omega) dX2_reach_60 ?_
        have hv60_8 := a6 (j)
        refine g_iand (a := r) (b := S 6 (j)) K dX2_reach_61 ?_
        have hL61_9 := @Nat.and_le_left (r) (S 6 (j))
        have hR61_10 := @Nat.and_le_right (r) (S 6 (j))
        refine g_if_eq (tgt := 75) (a := (r) &&& (S 6 (j))) K dX2_reach_62 (by decide) (by omega) (fun h62_11 => ?_) (fun h62_11 => ?_)
        · refine g_iinc (a := j) (b := j + 1) (lo' := [(6, .int (nI (j + 1))), (7, .int (nI (1))), (0, .ref (g_ad X 1)), (1, .int (nI (a))), (2, .int (nI (b))), (3, .int (nI (r))), (4, .int (nI (n))), (5, .int (nI (bf)))]) K 7 dX2_reach_75 rfl (gi_inc _) (by decide) rfl ?_
          refine g_goto (tgt := 18) K dX2_reach_78 (by decide) ?_
          refine g_loc (lo' := [(0, .ref (g_ad X 1)), (1, .int (nI (a))), (2, .int (nI (b))), (3, .int (nI (r))), (4, .int (nI (n))), (5, .int (nI (bf))), (6, .int (nI (j + 1)))]) [2, 3, 4, 5, 6, 7, 0] rfl ?_
          exact ih (j + 1) r (by omega) (hr) (by rw [gfor_succ, show (fJoint S b) j r = r from by simp only [fJoint]; (repeat' split) <;> first | rfl | contradiction | (exfalso; omega) | omega] at kk; exact kk)
        · refine g_iload_n K 4 dX2_reach_65 rfl ?_
          refine g_aload_n K 1 dX2_reach_66 rfl ?_
          refine g_getR (q' := 6) (q := 1) (ci := 2) (k := 10) (N := 12) (C := RX2) (T := TX2) (ref := "ValveWalk$Network") K rfl rfl rfl (by decide) hin2 (by decide +kernel) rfl dX2_reach_67 ?_
          refine g_iload K 7 dX2_reach_70 rfl ?_
          refine g_ald (q := 6) (n := 32) (i := j) K rfl (by decide) (by omega) dX2_reach_72 ?_
          have hv72_12 := a6 (j)
          refine g_ior (a := r) (b := S 6 (j)) K dX2_reach_73 ?_
          refine g_istore_n (lo' := [(3, .int (nI ((r) ||| (S 6 (j))))), (7, .int (nI (1))), (0, .ref (g_ad X 1)), (1, .int (nI (a))), (2, .int (nI (b))), (4, .int (nI (n))), (5, .int (nI (bf))), (6, .int (nI (j)))]) K dX2_reach_74 (by decide) rfl ?_
          refine g_iinc (a := j) (b := j + 1) (lo' := [(6, .int (nI (j + 1))), (3, .int (nI ((r) ||| (S 6 (j))))), (7, .int (nI (1))), (0, .ref (g_ad X 1)), (1, .int (nI (a))), (2, .int (nI (b))), (4, .int (nI (n))), (5, .int (nI (bf)))]) K 7 dX2_reach_75 rfl (gi_inc _) (by decide) rfl ?_
          refine g_goto (tgt := 18) K dX2_reach_78 (by decide) ?_
          refine g_loc (lo' := [(0, .ref (g_ad X 1)), (1, .int (nI (a))), (2, .int (nI (b))), (3, .int (nI ((r) ||| (S 6 (j))))), (4, .int (nI (n))), (5, .int (nI (bf))), (6, .int (nI (j + 1)))]) [3, 4, 5, 1, 6, 7, 0] rfl ?_
          exact ih (j + 1) ((r) ||| (S 6 (j))) (by omega) (or28 hr (a6 j)) (by rw [gfor_succ, show (fJoint S b) j r = (r) ||| (S 6 (j)) from by simp only [fJoint]; (repeat' split) <;> first | rfl | contradiction | (exfalso; omega) | omega] at kk; exact kk)

set_option maxHeartbeats 4000000 in
set_option maxRecDepth 100000 in
theorem L_reach_5 (X : gC) (S : Nat → Nat → Nat) (a : Nat) (b : Nat) (K : gOk X cX2_reach 8 wsX2_reach RX2) (hRf : 0 ≤ (g_R X).frames) (hRl : 0 ≤ (g_R X).locals) (hw : wfC S) : ∀ (k n r : Nat), n + k = 28 → r < 268435456 → gG X 96 [(3, .int (nI (fReach S b k r)))] [] S → gG X 5 [(0, .ref (g_ad X 1)), (1, .int (nI (a))), (2, .int (nI (b))), (3, .int (nI (r))), (4, .int (nI (n)))] [] S := by
  have hin2 : ∀ w ∈ u_ws RX2 TX2 12, w ∈ wsX2_reach := by decide +kernel
  obtain ⟨w0, w1, w2, w3, wsh, wst, a2, a3, a4, a5, a6, a7⟩ := id hw
  intro k
  induction k with
  | zero =>
    intro n r hj hr kk
    refine g_iload K 4 dX2_reach_5 rfl ?_
    refine g_bipush K 28 dX2_reach_7 (by decide +kernel) ?_
    refine g_icmp_ge (tgt := 96) (a := n) (b := 28) K dX2_reach_9 (by decide) (by omega) (by omega) (fun h9_1 => ?_) (fun h9_1 => ?_)
    · refine g_loc (lo' := [(3, .int (nI (r)))]) [3] rfl ?_
      exact kk
    · exact absurd h9_1 (by omega)
  | succ k ih =>
    intro n r hj hr kk
    refine g_iload K 4 dX2_reach_5 rfl ?_
    refine g_bipush K 28 dX2_reach_7 (by decide +kernel) ?_
    refine g_icmp_ge (tgt := 96) (a := n) (b := 28) K dX2_reach_9 (by decide) (by omega) (by omega) (fun h9_1 => ?_) (fun h9_1 => ?_)
    · exact absurd h9_1 (by omega)
    · refine g_iload_n K 3 dX2_reach_12 rfl ?_
      refine g_istore (lo' := [(5, .int (nI (r))), (0, .ref (g_ad X 1)), (1, .int (nI (a))), (2, .int (nI (b))), (3, .int (nI (r))), (4, .int (nI (n)))]) K dX2_reach_13 (by decide) rfl ?_
      refine g_iconst K 0 dX2_reach_15 (by decide +kernel) ?_
      refine g_istore (lo' := [(6, .int (nI (0))), (5, .int (nI (r))), (0, .ref (g_ad X 1)), (1, .int (nI (a))), (2, .int (nI (b))), (3, .int (nI (r))), (4, .int (nI (n)))]) K dX2_reach_16 (by decide) rfl ?_
      refine g_loc (lo' := [(0, .ref (g_ad X 1)), (1, .int (nI (a))), (2, .int (nI (b))), (3, .int (nI (r))), (4, .int (nI (n))), (5, .int (nI (r))), (6, .int (nI (0)))]) [2, 3, 4, 5, 6, 1, 0] rfl ?_
      refine L_reach_18 X S a b n r K (Nat.le_trans (Nat.le_of_ble_eq_true rfl) hRf) (Nat.le_trans (Nat.le_of_ble_eq_true rfl) hRl) (hw)  (2 * S 1 1) 0 r (by omega) (hr) ?_
      have hq : gfor (fJoint S b) (2 * S 1 1) 0 r < 268435456 := fPass_lt hw b r hr
      refine g_pc rfl ?_
      refine g_iload_n K 3 dX2_reach_81 rfl ?_
      refine g_iload K 5 dX2_reach_82 rfl ?_
      refine g_icmp_ne (tgt := 90) (a := ((gfor (fJoint S b) (2 * S 1 1) 0 r))) (b := r) K dX2_reach_84 (by decide) (by omega) (by omega) (fun h84_2 => ?_) (fun h84_2 => ?_)
      · refine g_iinc (a := n) (b := n + 1) (lo' := [(4, .int (nI (n + 1))), (0, .ref (g_ad X 1)), (1, .int (nI (a))), (2, .int (nI (b))), (3, .int (nI (((gfor (fJoint S b) (2 * S 1 1) 0 r))))), (5, .int (nI (r))), (6, .int (nI ((2 * S 1 1))))]) K 4 dX2_reach_90 rfl (gi_inc _) (by decide) rfl ?_
        refine g_goto (tgt := 5) K dX2_reach_93 (by decide) ?_
        refine g_loc (lo' := [(0, .ref (g_ad X 1)), (1, .int (nI (a))), (2, .int (nI (b))), (3, .int (nI (((gfor (fJoint S b) (2 * S 1 1) 0 r))))), (4, .int (nI (n + 1)))]) [1, 2, 3, 4, 0] rfl ?_
        exact ih (n + 1) _ (by omega) (fPass_lt hw b r hr) (by rw [fReach, if_neg (by assumption)] at kk; exact kk)
      · refine g_goto (tgt := 96) K dX2_reach_87 (by decide) ?_
        refine g_loc (lo' := [(3, .int (nI (((gfor (fJoint S b) (2 * S 1 1) 0 r)))))]) [3] rfl ?_
        exact (by rw [fReach, if_pos (by assumption)] at kk; exact kk)

set_option maxHeartbeats 4000000 in
set_option maxRecDepth 100000 in
theorem cX2_reach_k (Z : gZ) (S : Nat → Nat → Nat) (a b : Nat) (hw : wfC S) (ha : a < 268435456) : gMd Z yX2_reach wsX2_reach { frames := 0, cells := 0, slots := 0, locals := 0 } [.ref (gz_ad Z 1), .int (nI (a)), .int (nI (b))] S (reach S a b) (S) := by
  refine gMd_of (cc := cX2_reach) (maxL := 8) (ret := (some .int)) (by decide +kernel) rfl (Nat.le_of_ble_eq_true rfl) (Or.inl rfl) (fun X hZ hR K hret => ?_)
  subst hZ
  have K : gOk X cX2_reach 8 wsX2_reach RX2 := K
  have hRf : 0 ≤ (g_R X).frames := gR_f hR rfl
  have hRl : 0 ≤ (g_R X).locals := gR_l hR rfl
  have hin2 : ∀ w ∈ u_ws RX2 TX2 12, w ∈ wsX2_reach := by decide +kernel
  obtain ⟨w0, w1, w2, w3, wsh, wst, a2, a3, a4, a5, a6, a7⟩ := id hw
  show gG X 0 [(0, .ref (g_ad X 1)), (1, .int (nI (a))), (2, .int (nI (b)))] [] S
  refine g_iload_n K 1 dX2_reach_0 rfl ?_
  refine g_istore_n (lo' := [(3, .int (nI (a))), (0, .ref (g_ad X 1)), (1, .int (nI (a))), (2, .int (nI (b)))]) K dX2_reach_1 (by decide) rfl ?_
  refine g_iconst K 0 dX2_reach_2 (by decide +kernel) ?_
  refine g_istore (lo' := [(4, .int (nI (0))), (3, .int (nI (a))), (0, .ref (g_ad X 1)), (1, .int (nI (a))), (2, .int (nI (b)))]) K dX2_reach_3 (by decide) rfl ?_
  refine g_loc (lo' := [(0, .ref (g_ad X 1)), (1, .int (nI (a))), (2, .int (nI (b))), (3, .int (nI (a))), (4, .int (nI (0)))]) [2, 3, 4, 1, 0] rfl ?_
  refine L_reach_5 X S a b K (Nat.le_trans (Nat.le_of_ble_eq_true rfl) hRf) (Nat.le_trans (Nat.le_of_ble_eq_true rfl) hRl) (hw)  28 0 a (by omega) (ha) ?_
  refine g_iload_n K 0 dX2_reach_96 rfl ?_
  exact g_retd hret dX2_reach_97 rfl rfl
end
section
theorem zz_probe : (1:Nat) = 1 := rfl
end
