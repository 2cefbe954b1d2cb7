section
-- ===== PART A: goes FIRST, ahead of the names: the tables' words, and 'selects' of the private methods out of them =====
/-- a private method of a class that the tables say can be made, by its rows of tables_1 -/
def lw_okq (q : MethodName × Nat) : Prop := (q.1.cls ≠ "java/lang/invoke/MethodHandle" ∧ q.1.cls ≠ "java/lang/invoke/VarHandle") ∧ Cond.instantiable q.1.cls q.2 ∈ tables_1 ∧ Cond.privateMethod q.1 ∈ tables_1 ∧ Cond.instanceMethod q.1 ∈ tables_1
theorem lw_p0 : lw_okq (⟨"CoilStairs$Reader", "findToken", "()Z"⟩, 9) := ⟨⟨by decide +kernel, by decide +kernel⟩, List.mem_of_getElem? (i := 74) (by decide +kernel), List.mem_of_getElem? (i := 342) (by decide +kernel), List.mem_of_getElem? (i := 343) (by decide +kernel)⟩
theorem lw_p1 : lw_okq (⟨"CoilStairs$Reader", "readItem", "()V"⟩, 9) := ⟨⟨by decide +kernel, by decide +kernel⟩, List.mem_of_getElem? (i := 74) (by decide +kernel), List.mem_of_getElem? (i := 346) (by decide +kernel), List.mem_of_getElem? (i := 347) (by decide +kernel)⟩
theorem lw_p2 : lw_okq (⟨"CoilStairs$Reader", "mayBegin", "(I)Z"⟩, 9) := ⟨⟨by decide +kernel, by decide +kernel⟩, List.mem_of_getElem? (i := 74) (by decide +kernel), List.mem_of_getElem? (i := 350) (by decide +kernel), List.mem_of_getElem? (i := 351) (by decide +kernel)⟩
theorem lw_p3 : lw_okq (⟨"CoilStairs$Reader", "readStep", "()V"⟩, 9) := ⟨⟨by decide +kernel, by decide +kernel⟩, List.mem_of_getElem? (i := 74) (by decide +kernel), List.mem_of_getElem? (i := 354) (by decide +kernel), List.mem_of_getElem? (i := 355) (by decide +kernel)⟩
theorem lw_p4 : lw_okq (⟨"CoilStairs$Reader", "number", "(II)I"⟩, 9) := ⟨⟨by decide +kernel, by decide +kernel⟩, List.mem_of_getElem? (i := 74) (by decide +kernel), List.mem_of_getElem? (i := 358) (by decide +kernel), List.mem_of_getElem? (i := 359) (by decide +kernel)⟩
theorem lw_p5 : lw_okq (⟨"CoilStairs$Reader", "endItem", "()V"⟩, 9) := ⟨⟨by decide +kernel, by decide +kernel⟩, List.mem_of_getElem? (i := 74) (by decide +kernel), List.mem_of_getElem? (i := 370) (by decide +kernel), List.mem_of_getElem? (i := 371) (by decide +kernel)⟩
theorem lw_p6 : lw_okq (⟨"CoilStairs", "runFrom", "(I)I"⟩, 11) := ⟨⟨by decide +kernel, by decide +kernel⟩, List.mem_of_getElem? (i := 15) (by decide +kernel), List.mem_of_getElem? (i := 399) (by decide +kernel), List.mem_of_getElem? (i := 400) (by decide +kernel)⟩
theorem lw_p7 : lw_okq (⟨"CoilStairs$Walk", "land", "()V"⟩, 8) := ⟨⟨by decide +kernel, by decide +kernel⟩, List.mem_of_getElem? (i := 164) (by decide +kernel), List.mem_of_getElem? (i := 424) (by decide +kernel), List.mem_of_getElem? (i := 425) (by decide +kernel)⟩
theorem lw_p8 : lw_okq (⟨"CoilStairs$LeastPushes", "fewest", "(II)I"⟩, 2) := ⟨⟨by decide +kernel, by decide +kernel⟩, List.mem_of_getElem? (i := 209) (by decide +kernel), List.mem_of_getElem? (i := 436) (by decide +kernel), List.mem_of_getElem? (i := 437) (by decide +kernel)⟩
theorem lw_p9 : lw_okq (⟨"CoilStairs$LeastPushes", "search", "(II)I"⟩, 2) := ⟨⟨by decide +kernel, by decide +kernel⟩, List.mem_of_getElem? (i := 209) (by decide +kernel), List.mem_of_getElem? (i := 441) (by decide +kernel), List.mem_of_getElem? (i := 442) (by decide +kernel)⟩
theorem lw_p10 : lw_okq (⟨"CoilStairs", "runWithMat", "(II)I"⟩, 11) := ⟨⟨by decide +kernel, by decide +kernel⟩, List.mem_of_getElem? (i := 15) (by decide +kernel), List.mem_of_getElem? (i := 499) (by decide +kernel), List.mem_of_getElem? (i := 500) (by decide +kernel)⟩
theorem lw_p11 : lw_okq (⟨"CoilStairs$Chances", "listMats", "(LCoilStairs$Moment;)V"⟩, 5) := ⟨⟨by decide +kernel, by decide +kernel⟩, List.mem_of_getElem? (i := 260) (by decide +kernel), List.mem_of_getElem? (i := 512) (by decide +kernel), List.mem_of_getElem? (i := 513) (by decide +kernel)⟩
theorem lw_p12 : lw_okq (⟨"CoilStairs$Chances", "weightOf", "(II)J"⟩, 5) := ⟨⟨by decide +kernel, by decide +kernel⟩, List.mem_of_getElem? (i := 260) (by decide +kernel), List.mem_of_getElem? (i := 517) (by decide +kernel), List.mem_of_getElem? (i := 518) (by decide +kernel)⟩
theorem lw_p13 : lw_okq (⟨"CoilStairs$Chances", "reachesFloor", "(LCoilStairs$Moment;I)Z"⟩, 5) := ⟨⟨by decide +kernel, by decide +kernel⟩, List.mem_of_getElem? (i := 260) (by decide +kernel), List.mem_of_getElem? (i := 521) (by decide +kernel), List.mem_of_getElem? (i := 522) (by decide +kernel)⟩
theorem lw_p14 : lw_okq (⟨"CoilStairs$Chances", "reduce", "()V"⟩, 5) := ⟨⟨by decide +kernel, by decide +kernel⟩, List.mem_of_getElem? (i := 260) (by decide +kernel), List.mem_of_getElem? (i := 527) (by decide +kernel), List.mem_of_getElem? (i := 528) (by decide +kernel)⟩
theorem lw_p15 : lw_okq (⟨"CoilStairs$Clues", "explains", "(II)Z"⟩, 9) := ⟨⟨by decide +kernel, by decide +kernel⟩, List.mem_of_getElem? (i := 222) (by decide +kernel), List.mem_of_getElem? (i := 552) (by decide +kernel), List.mem_of_getElem? (i := 553) (by decide +kernel)⟩
def lw_privs_1 : List (MethodName × Nat) := [(⟨"CoilStairs$Reader", "findToken", "()Z"⟩, 9), (⟨"CoilStairs$Reader", "readItem", "()V"⟩, 9), (⟨"CoilStairs$Reader", "mayBegin", "(I)Z"⟩, 9), (⟨"CoilStairs$Reader", "readStep", "()V"⟩, 9), (⟨"CoilStairs$Reader", "number", "(II)I"⟩, 9), (⟨"CoilStairs$Reader", "endItem", "()V"⟩, 9), (⟨"CoilStairs", "runFrom", "(I)I"⟩, 11), (⟨"CoilStairs$Walk", "land", "()V"⟩, 8), (⟨"CoilStairs$LeastPushes", "fewest", "(II)I"⟩, 2), (⟨"CoilStairs$LeastPushes", "search", "(II)I"⟩, 2), (⟨"CoilStairs", "runWithMat", "(II)I"⟩, 11), (⟨"CoilStairs$Chances", "listMats", "(LCoilStairs$Moment;)V"⟩, 5), (⟨"CoilStairs$Chances", "weightOf", "(II)J"⟩, 5), (⟨"CoilStairs$Chances", "reachesFloor", "(LCoilStairs$Moment;I)Z"⟩, 5), (⟨"CoilStairs$Chances", "reduce", "()V"⟩, 5), (⟨"CoilStairs$Clues", "explains", "(II)Z"⟩, 9)]
theorem lw_r1 : ∀ q ∈ lw_privs_1, lw_okq q := List.forall_mem_cons.mpr ⟨lw_p0, List.forall_mem_cons.mpr ⟨lw_p1, List.forall_mem_cons.mpr ⟨lw_p2, List.forall_mem_cons.mpr ⟨lw_p3, List.forall_mem_cons.mpr ⟨lw_p4, List.forall_mem_cons.mpr ⟨lw_p5, List.forall_mem_cons.mpr ⟨lw_p6, List.forall_mem_cons.mpr ⟨lw_p7, List.forall_mem_cons.mpr ⟨lw_p8, List.forall_mem_cons.mpr ⟨lw_p9, List.forall_mem_cons.mpr ⟨lw_p10, List.forall_mem_cons.mpr ⟨lw_p11, List.forall_mem_cons.mpr ⟨lw_p12, List.forall_mem_cons.mpr ⟨lw_p13, List.forall_mem_cons.mpr ⟨lw_p14, List.forall_mem_cons.mpr ⟨lw_p15, fun _ h => absurd h List.not_mem_nil⟩⟩⟩⟩⟩⟩⟩⟩⟩⟩⟩⟩⟩⟩⟩⟩
theorem lw_p16 : lw_okq (⟨"CoilStairs$Clues", "mostAtOnePlace", "(II)I"⟩, 9) := ⟨⟨by decide +kernel, by decide +kernel⟩, List.mem_of_getElem? (i := 222) (by decide +kernel), List.mem_of_getElem? (i := 566) (by decide +kernel), List.mem_of_getElem? (i := 567) (by decide +kernel)⟩
theorem lw_p17 : lw_okq (⟨"CoilStairs", "asCoil", "(I)I"⟩, 11) := ⟨⟨by decide +kernel, by decide +kernel⟩, List.mem_of_getElem? (i := 15) (by decide +kernel), List.mem_of_getElem? (i := 579) (by decide +kernel), List.mem_of_getElem? (i := 580) (by decide +kernel)⟩
theorem lw_p18 : lw_okq (⟨"CoilStairs", "asBrass", "(I)I"⟩, 11) := ⟨⟨by decide +kernel, by decide +kernel⟩, List.mem_of_getElem? (i := 15) (by decide +kernel), List.mem_of_getElem? (i := 583) (by decide +kernel), List.mem_of_getElem? (i := 584) (by decide +kernel)⟩
theorem lw_p19 : lw_okq (⟨"CoilStairs", "asPaper", "(I)I"⟩, 11) := ⟨⟨by decide +kernel, by decide +kernel⟩, List.mem_of_getElem? (i := 15) (by decide +kernel), List.mem_of_getElem? (i := 588) (by decide +kernel), List.mem_of_getElem? (i := 589) (by decide +kernel)⟩
theorem lw_p20 : lw_okq (⟨"CoilStairs", "asSilver", "(I)I"⟩, 11) := ⟨⟨by decide +kernel, by decide +kernel⟩, List.mem_of_getElem? (i := 15) (by decide +kernel), List.mem_of_getElem? (i := 593) (by decide +kernel), List.mem_of_getElem? (i := 594) (by decide +kernel)⟩
theorem lw_p21 : lw_okq (⟨"CoilStairs", "asTwine", "(I)I"⟩, 11) := ⟨⟨by decide +kernel, by decide +kernel⟩, List.mem_of_getElem? (i := 15) (by decide +kernel), List.mem_of_getElem? (i := 598) (by decide +kernel), List.mem_of_getElem? (i := 599) (by decide +kernel)⟩
theorem lw_p22 : lw_okq (⟨"CoilStairs", "asLead", "(I)I"⟩, 11) := ⟨⟨by decide +kernel, by decide +kernel⟩, List.mem_of_getElem? (i := 15) (by decide +kernel), List.mem_of_getElem? (i := 603) (by decide +kernel), List.mem_of_getElem? (i := 604) (by decide +kernel)⟩
theorem lw_p23 : lw_okq (⟨"CoilStairsModel", "readItems", "()I"⟩, 32) := ⟨⟨by decide +kernel, by decide +kernel⟩, List.mem_of_getElem? (i := 625) (by decide +kernel), List.mem_of_getElem? (i := 743) (by decide +kernel), List.mem_of_getElem? (i := 744) (by decide +kernel)⟩
theorem lw_p24 : lw_okq (⟨"CoilStairsModel", "nextToken", "()V"⟩, 32) := ⟨⟨by decide +kernel, by decide +kernel⟩, List.mem_of_getElem? (i := 625) (by decide +kernel), List.mem_of_getElem? (i := 747) (by decide +kernel), List.mem_of_getElem? (i := 748) (by decide +kernel)⟩
theorem lw_p25 : lw_okq (⟨"CoilStairsModel", "isFigure", "(I)Z"⟩, 32) := ⟨⟨by decide +kernel, by decide +kernel⟩, List.mem_of_getElem? (i := 625) (by decide +kernel), List.mem_of_getElem? (i := 751) (by decide +kernel), List.mem_of_getElem? (i := 752) (by decide +kernel)⟩
theorem lw_p26 : lw_okq (⟨"CoilStairsModel", "readsItem", "()Z"⟩, 32) := ⟨⟨by decide +kernel, by decide +kernel⟩, List.mem_of_getElem? (i := 625) (by decide +kernel), List.mem_of_getElem? (i := 755) (by decide +kernel), List.mem_of_getElem? (i := 756) (by decide +kernel)⟩
theorem lw_p27 : lw_okq (⟨"CoilStairsModel", "isSign", "(I)Z"⟩, 32) := ⟨⟨by decide +kernel, by decide +kernel⟩, List.mem_of_getElem? (i := 625) (by decide +kernel), List.mem_of_getElem? (i := 759) (by decide +kernel), List.mem_of_getElem? (i := 760) (by decide +kernel)⟩
theorem lw_p28 : lw_okq (⟨"CoilStairsModel", "readsStep", "()Z"⟩, 32) := ⟨⟨by decide +kernel, by decide +kernel⟩, List.mem_of_getElem? (i := 625) (by decide +kernel), List.mem_of_getElem? (i := 763) (by decide +kernel), List.mem_of_getElem? (i := 764) (by decide +kernel)⟩
theorem lw_p29 : lw_okq (⟨"CoilStairsModel", "readsNumber", "(II)Z"⟩, 32) := ⟨⟨by decide +kernel, by decide +kernel⟩, List.mem_of_getElem? (i := 625) (by decide +kernel), List.mem_of_getElem? (i := 767) (by decide +kernel), List.mem_of_getElem? (i := 768) (by decide +kernel)⟩
theorem lw_p30 : lw_okq (⟨"CoilStairsModel", "readsCoil", "(III)Z"⟩, 32) := ⟨⟨by decide +kernel, by decide +kernel⟩, List.mem_of_getElem? (i := 625) (by decide +kernel), List.mem_of_getElem? (i := 771) (by decide +kernel), List.mem_of_getElem? (i := 772) (by decide +kernel)⟩
theorem lw_p31 : lw_okq (⟨"CoilStairsModel", "isStep", "(I)Z"⟩, 32) := ⟨⟨by decide +kernel, by decide +kernel⟩, List.mem_of_getElem? (i := 625) (by decide +kernel), List.mem_of_getElem? (i := 779) (by decide +kernel), List.mem_of_getElem? (i := 780) (by decide +kernel)⟩
def lw_privs_2 : List (MethodName × Nat) := [(⟨"CoilStairs$Clues", "mostAtOnePlace", "(II)I"⟩, 9), (⟨"CoilStairs", "asCoil", "(I)I"⟩, 11), (⟨"CoilStairs", "asBrass", "(I)I"⟩, 11), (⟨"CoilStairs", "asPaper", "(I)I"⟩, 11), (⟨"CoilStairs", "asSilver", "(I)I"⟩, 11), (⟨"CoilStairs", "asTwine", "(I)I"⟩, 11), (⟨"CoilStairs", "asLead", "(I)I"⟩, 11), (⟨"CoilStairsModel", "readItems", "()I"⟩, 32), (⟨"CoilStairsModel", "nextToken", "()V"⟩, 32), (⟨"CoilStairsModel", "isFigure", "(I)Z"⟩, 32), (⟨"CoilStairsModel", "readsItem", "()Z"⟩, 32), (⟨"CoilStairsModel", "isSign", "(I)Z"⟩, 32), (⟨"CoilStairsModel", "readsStep", "()Z"⟩, 32), (⟨"CoilStairsModel", "readsNumber", "(II)Z"⟩, 32), (⟨"CoilStairsModel", "readsCoil", "(III)Z"⟩, 32), (⟨"CoilStairsModel", "isStep", "(I)Z"⟩, 32)]
theorem lw_r2 : ∀ q ∈ lw_privs_2, lw_okq q := List.forall_mem_cons.mpr ⟨lw_p16, List.forall_mem_cons.mpr ⟨lw_p17, List.forall_mem_cons.mpr ⟨lw_p18, List.forall_mem_cons.mpr ⟨lw_p19, List.forall_mem_cons.mpr ⟨lw_p20, List.forall_mem_cons.mpr ⟨lw_p21, List.forall_mem_cons.mpr ⟨lw_p22, List.forall_mem_cons.mpr ⟨lw_p23, List.forall_mem_cons.mpr ⟨lw_p24, List.forall_mem_cons.mpr ⟨lw_p25, List.forall_mem_cons.mpr ⟨lw_p26, List.forall_mem_cons.mpr ⟨lw_p27, List.forall_mem_cons.mpr ⟨lw_p28, List.forall_mem_cons.mpr ⟨lw_p29, List.forall_mem_cons.mpr ⟨lw_p30, List.forall_mem_cons.mpr ⟨lw_p31, fun _ h => absurd h List.not_mem_nil⟩⟩⟩⟩⟩⟩⟩⟩⟩⟩⟩⟩⟩⟩⟩⟩
theorem lw_p32 : lw_okq (⟨"CoilStairsModel", "tellRun", "(I)I"⟩, 32) := ⟨⟨by decide +kernel, by decide +kernel⟩, List.mem_of_getElem? (i := 625) (by decide +kernel), List.mem_of_getElem? (i := 787) (by decide +kernel), List.mem_of_getElem? (i := 788) (by decide +kernel)⟩
theorem lw_p33 : lw_okq (⟨"CoilStairsModel", "layTried", "()V"⟩, 32) := ⟨⟨by decide +kernel, by decide +kernel⟩, List.mem_of_getElem? (i := 625) (by decide +kernel), List.mem_of_getElem? (i := 791) (by decide +kernel), List.mem_of_getElem? (i := 792) (by decide +kernel)⟩
theorem lw_p34 : lw_okq (⟨"CoilStairsModel", "copyRow", "(II)V"⟩, 32) := ⟨⟨by decide +kernel, by decide +kernel⟩, List.mem_of_getElem? (i := 625) (by decide +kernel), List.mem_of_getElem? (i := 795) (by decide +kernel), List.mem_of_getElem? (i := 796) (by decide +kernel)⟩
theorem lw_p35 : lw_okq (⟨"CoilStairsModel", "asItIs", "()V"⟩, 32) := ⟨⟨by decide +kernel, by decide +kernel⟩, List.mem_of_getElem? (i := 625) (by decide +kernel), List.mem_of_getElem? (i := 799) (by decide +kernel), List.mem_of_getElem? (i := 800) (by decide +kernel)⟩
theorem lw_p36 : lw_okq (⟨"CoilStairsModel", "runs", "()I"⟩, 32) := ⟨⟨by decide +kernel, by decide +kernel⟩, List.mem_of_getElem? (i := 625) (by decide +kernel), List.mem_of_getElem? (i := 803) (by decide +kernel), List.mem_of_getElem? (i := 804) (by decide +kernel)⟩
theorem lw_p37 : lw_okq (⟨"CoilStairsModel", "flip", "(I)V"⟩, 32) := ⟨⟨by decide +kernel, by decide +kernel⟩, List.mem_of_getElem? (i := 625) (by decide +kernel), List.mem_of_getElem? (i := 807) (by decide +kernel), List.mem_of_getElem? (i := 808) (by decide +kernel)⟩
theorem lw_p38 : lw_okq (⟨"CoilStairsModel", "lands", "(I)V"⟩, 32) := ⟨⟨by decide +kernel, by decide +kernel⟩, List.mem_of_getElem? (i := 625) (by decide +kernel), List.mem_of_getElem? (i := 814) (by decide +kernel), List.mem_of_getElem? (i := 815) (by decide +kernel)⟩
theorem lw_p39 : lw_okq (⟨"CoilStairsModel", "leastOf", "(I)I"⟩, 32) := ⟨⟨by decide +kernel, by decide +kernel⟩, List.mem_of_getElem? (i := 625) (by decide +kernel), List.mem_of_getElem? (i := 818) (by decide +kernel), List.mem_of_getElem? (i := 819) (by decide +kernel)⟩
theorem lw_p40 : lw_okq (⟨"CoilStairsModel", "fewest", "()I"⟩, 32) := ⟨⟨by decide +kernel, by decide +kernel⟩, List.mem_of_getElem? (i := 625) (by decide +kernel), List.mem_of_getElem? (i := 822) (by decide +kernel), List.mem_of_getElem? (i := 823) (by decide +kernel)⟩
theorem lw_p41 : lw_okq (⟨"CoilStairsModel", "leastFrom", "(II)I"⟩, 32) := ⟨⟨by decide +kernel, by decide +kernel⟩, List.mem_of_getElem? (i := 625) (by decide +kernel), List.mem_of_getElem? (i := 826) (by decide +kernel), List.mem_of_getElem? (i := 827) (by decide +kernel)⟩
theorem lw_p42 : lw_okq (⟨"CoilStairsModel", "keepPast", "()V"⟩, 32) := ⟨⟨by decide +kernel, by decide +kernel⟩, List.mem_of_getElem? (i := 625) (by decide +kernel), List.mem_of_getElem? (i := 835) (by decide +kernel), List.mem_of_getElem? (i := 836) (by decide +kernel)⟩
theorem lw_p43 : lw_okq (⟨"CoilStairsModel", "layWays", "()V"⟩, 32) := ⟨⟨by decide +kernel, by decide +kernel⟩, List.mem_of_getElem? (i := 625) (by decide +kernel), List.mem_of_getElem? (i := 879) (by decide +kernel), List.mem_of_getElem? (i := 880) (by decide +kernel)⟩
theorem lw_p44 : lw_okq (⟨"CoilStairsModel", "isWay", "(II)Z"⟩, 32) := ⟨⟨by decide +kernel, by decide +kernel⟩, List.mem_of_getElem? (i := 625) (by decide +kernel), List.mem_of_getElem? (i := 883) (by decide +kernel), List.mem_of_getElem? (i := 884) (by decide +kernel)⟩
theorem lw_p45 : lw_okq (⟨"CoilStairsModel", "restsAt", "(IIII)I"⟩, 32) := ⟨⟨by decide +kernel, by decide +kernel⟩, List.mem_of_getElem? (i := 625) (by decide +kernel), List.mem_of_getElem? (i := 887) (by decide +kernel), List.mem_of_getElem? (i := 888) (by decide +kernel)⟩
theorem lw_p46 : lw_okq (⟨"CoilStairsModel", "brassRate", "(I)I"⟩, 32) := ⟨⟨by decide +kernel, by decide +kernel⟩, List.mem_of_getElem? (i := 625) (by decide +kernel), List.mem_of_getElem? (i := 900) (by decide +kernel), List.mem_of_getElem? (i := 901) (by decide +kernel)⟩
theorem lw_p47 : lw_okq (⟨"CoilStairsModel", "coilRate", "(I)I"⟩, 32) := ⟨⟨by decide +kernel, by decide +kernel⟩, List.mem_of_getElem? (i := 625) (by decide +kernel), List.mem_of_getElem? (i := 905) (by decide +kernel), List.mem_of_getElem? (i := 906) (by decide +kernel)⟩
def lw_privs_3 : List (MethodName × Nat) := [(⟨"CoilStairsModel", "tellRun", "(I)I"⟩, 32), (⟨"CoilStairsModel", "layTried", "()V"⟩, 32), (⟨"CoilStairsModel", "copyRow", "(II)V"⟩, 32), (⟨"CoilStairsModel", "asItIs", "()V"⟩, 32), (⟨"CoilStairsModel", "runs", "()I"⟩, 32), (⟨"CoilStairsModel", "flip", "(I)V"⟩, 32), (⟨"CoilStairsModel", "lands", "(I)V"⟩, 32), (⟨"CoilStairsModel", "leastOf", "(I)I"⟩, 32), (⟨"CoilStairsModel", "fewest", "()I"⟩, 32), (⟨"CoilStairsModel", "leastFrom", "(II)I"⟩, 32), (⟨"CoilStairsModel", "keepPast", "()V"⟩, 32), (⟨"CoilStairsModel", "layWays", "()V"⟩, 32), (⟨"CoilStairsModel", "isWay", "(II)Z"⟩, 32), (⟨"CoilStairsModel", "restsAt", "(IIII)I"⟩, 32), (⟨"CoilStairsModel", "brassRate", "(I)I"⟩, 32), (⟨"CoilStairsModel", "coilRate", "(I)I"⟩, 32)]
theorem lw_r3 : ∀ q ∈ lw_privs_3, lw_okq q := List.forall_mem_cons.mpr ⟨lw_p32, List.forall_mem_cons.mpr ⟨lw_p33, List.forall_mem_cons.mpr ⟨lw_p34, List.forall_mem_cons.mpr ⟨lw_p35, List.forall_mem_cons.mpr ⟨lw_p36, List.forall_mem_cons.mpr ⟨lw_p37, List.forall_mem_cons.mpr ⟨lw_p38, List.forall_mem_cons.mpr ⟨lw_p39, List.forall_mem_cons.mpr ⟨lw_p40, List.forall_mem_cons.mpr ⟨lw_p41, List.forall_mem_cons.mpr ⟨lw_p42, List.forall_mem_cons.mpr ⟨lw_p43, List.forall_mem_cons.mpr ⟨lw_p44, List.forall_mem_cons.mpr ⟨lw_p45, List.forall_mem_cons.mpr ⟨lw_p46, List.forall_mem_cons.mpr ⟨lw_p47, fun _ h => absurd h List.not_mem_nil⟩⟩⟩⟩⟩⟩⟩⟩⟩⟩⟩⟩⟩⟩⟩⟩
theorem lw_p48 : lw_okq (⟨"CoilStairsModel", "paperRate", "(I)I"⟩, 32) := ⟨⟨by decide +kernel, by decide +kernel⟩, List.mem_of_getElem? (i := 625) (by decide +kernel), List.mem_of_getElem? (i := 909) (by decide +kernel), List.mem_of_getElem? (i := 910) (by decide +kernel)⟩
def lw_privs_4 : List (MethodName × Nat) := [(⟨"CoilStairsModel", "paperRate", "(I)I"⟩, 32)]
theorem lw_r4 : ∀ q ∈ lw_privs_4, lw_okq q := List.forall_mem_cons.mpr ⟨lw_p48, fun _ h => absurd h List.not_mem_nil⟩
def lw_privs : List (MethodName × Nat) := lw_privs_1 ++ (lw_privs_2 ++ (lw_privs_3 ++ (lw_privs_4)))
def lw_tbl : List Cond := k2_sels lw_privs ++ tables_1
theorem lw_privs_ok : ∀ q ∈ lw_privs, lw_okq q := by
  show ∀ q ∈ lw_privs_1 ++ (lw_privs_2 ++ (lw_privs_3 ++ (lw_privs_4))), lw_okq q
  exact List.forall_mem_append.mpr ⟨lw_r1, List.forall_mem_append.mpr ⟨lw_r2, List.forall_mem_append.mpr ⟨lw_r3, lw_r4⟩⟩⟩
end
section
def RX0 : String := "CoilStairs$Chances"
def TX0 : u_T := fun k => match k with
  | 0 => ("CoilStairs$Chances", "walk", "LCoilStairs$Walk;", true)
  | 1 => ("CoilStairs$Chances", "matted", "[I", true)
  | 2 => ("CoilStairs$Chances", "mats", "I", false)
  | 3 => ("CoilStairs$Chances", "upper", "J", false)
  | _ => ("CoilStairs$Chances", "lower", "J", false)
def tyX0 : Nat → FieldType := fun k => match k with
  | 0 => .object "CoilStairs$Walk"
  | 1 => .array .int
  | 2 => .int
  | 3 => .long
  | _ => .long
theorem nmX0 : ∀ a, a < 5 → ∀ b, b < 5 → a ≠ b → (TX0 a).2.1 ≠ (TX0 b).2.1 := by decide +kernel
theorem tyX0_ok : ∀ k, k < 5 → parseFieldDescriptor (TX0 k).2.2.1 = some (tyX0 k) := by decide +kernel
abbrev cX0_init : ByteArray := prog_2_method_1_code
def yX0_init : MethodName := ⟨RX0, "<init>", "(LCoilStairs$Walk;)V"⟩
abbrev cX0_weigh : ByteArray := prog_2_method_2_code
def yX0_weigh : MethodName := ⟨RX0, "weigh", "(LCoilStairs$Moment;I)V"⟩
abbrev cX0_listMats : ByteArray := prog_2_method_3_code
def yX0_listMats : MethodName := ⟨RX0, "listMats", "(LCoilStairs$Moment;)V"⟩
abbrev cX0_weightOf : ByteArray := prog_2_method_4_code
def yX0_weightOf : MethodName := ⟨RX0, "weightOf", "(II)J"⟩
abbrev cX0_reachesFloor : ByteArray := prog_2_method_5_code
def yX0_reachesFloor : MethodName := ⟨RX0, "reachesFloor", "(LCoilStairs$Moment;I)Z"⟩
abbrev cX0_reduce : ByteArray := prog_2_method_6_code
def yX0_reduce : MethodName := ⟨RX0, "reduce", "()V"⟩
def RX1 : String := "CoilStairs$Clues"
def TX1 : u_T := fun k => match k with
  | 0 => ("CoilStairs$Clues", "walk", "LCoilStairs$Walk;", true)
  | 1 => ("CoilStairs$Clues", "steps", "[I", true)
  | 2 => ("CoilStairs$Clues", "vigours", "[I", true)
  | 3 => ("CoilStairs$Clues", "places", "[I", true)
  | 4 => ("CoilStairs$Clues", "stiffs", "[I", true)
  | 5 => ("CoilStairs$Clues", "drags", "[I", true)
  | 6 => ("CoilStairs$Clues", "atPlace", "[I", true)
  | 7 => ("CoilStairs$Clues", "seen", "I", false)
  | _ => ("CoilStairs$Clues", "possible", "I", false)
def tyX1 : Nat → FieldType := fun k => match k with
  | 0 => .object "CoilStairs$Walk"
  | 1 => .array .int
  | 2 => .array .int
  | 3 => .array .int
  | 4 => .array .int
  | 5 => .array .int
  | 6 => .array .int
  | 7 => .int
  | _ => .int
theorem nmX1 : ∀ a, a < 9 → ∀ b, b < 9 → a ≠ b → (TX1 a).2.1 ≠ (TX1 b).2.1 := by decide +kernel
theorem tyX1_ok : ∀ k, k < 9 → parseFieldDescriptor (TX1 k).2.2.1 = some (tyX1 k) := by decide +kernel
abbrev cX1_init : ByteArray := prog_3_method_1_code
def yX1_init : MethodName := ⟨RX1, "<init>", "(LCoilStairs$Walk;)V"⟩
abbrev cX1_add : ByteArray := prog_3_method_2_code
def yX1_add : MethodName := ⟨RX1, "add", "(III)Z"⟩
abbrev cX1_findPossible : ByteArray := prog_3_method_3_code
def yX1_findPossible : MethodName := ⟨RX1, "findPossible", "(LCoilStairs$Moment;)V"⟩
abbrev cX1_explains : ByteArray := prog_3_method_4_code
def yX1_explains : MethodName := ⟨RX1, "explains", "(II)Z"⟩
abbrev cX1_bestTry : ByteArray := prog_3_method_5_code
def yX1_bestTry : MethodName := ⟨RX1, "bestTry", "(I)I"⟩
abbrev cX1_mostAtOnePlace : ByteArray := prog_3_method_6_code
def yX1_mostAtOnePlace : MethodName := ⟨RX1, "mostAtOnePlace", "(II)I"⟩
def RX2 : String := "CoilStairs$History"
def TX2 : u_T := fun k => match k with
  | 0 => ("CoilStairs$History", "past", "[LCoilStairs$Moment;", true)
  | 1 => ("CoilStairs$History", "known", "I", false)
  | _ => ("CoilStairs$History", "free", "I", false)
def tyX2 : Nat → FieldType := fun k => match k with
  | 0 => .array (.object "CoilStairs$Moment")
  | 1 => .int
  | _ => .int
theorem nmX2 : ∀ a, a < 3 → ∀ b, b < 3 → a ≠ b → (TX2 a).2.1 ≠ (TX2 b).2.1 := by decide +kernel
theorem tyX2_ok : ∀ k, k < 3 → parseFieldDescriptor (TX2 k).2.2.1 = some (tyX2 k) := by decide +kernel
abbrev cX2_init : ByteArray := prog_4_method_1_code
def yX2_init : MethodName := ⟨RX2, "<init>", "()V"⟩
abbrev cX2_remember : ByteArray := prog_4_method_2_code
def yX2_remember : MethodName := ⟨RX2, "remember", "(LCoilStairs$Moment;)V"⟩
abbrev cX2_restore : ByteArray := prog_4_method_3_code
def yX2_restore : MethodName := ⟨RX2, "restore", "(LCoilStairs$Moment;)Z"⟩
def RX3 : String := "CoilStairs$LeastPushes"
def TX3 : u_T := fun k => match k with
  | 0 => ("CoilStairs$LeastPushes", "walk", "LCoilStairs$Walk;", true)
  | _ => ("CoilStairs$LeastPushes", "found", "[I", true)
def tyX3 : Nat → FieldType := fun k => match k with
  | 0 => .object "CoilStairs$Walk"
  | _ => .array .int
theorem nmX3 : ∀ a, a < 2 → ∀ b, b < 2 → a ≠ b → (TX3 a).2.1 ≠ (TX3 b).2.1 := by decide +kernel
theorem tyX3_ok : ∀ k, k < 2 → parseFieldDescriptor (TX3 k).2.2.1 = some (tyX3 k) := by decide +kernel
abbrev cX3_init : ByteArray := prog_5_method_1_code
def yX3_init : MethodName := ⟨RX3, "<init>", "(LCoilStairs$Walk;)V"⟩
abbrev cX3_from : ByteArray := prog_5_method_2_code
def yX3_from : MethodName := ⟨RX3, "from", "(LCoilStairs$Moment;)I"⟩
abbrev cX3_fewest : ByteArray := prog_5_method_3_code
def yX3_fewest : MethodName := ⟨RX3, "fewest", "(II)I"⟩
abbrev cX3_search : ByteArray := prog_5_method_4_code
def yX3_search : MethodName := ⟨RX3, "search", "(II)I"⟩
def RX4 : String := "CoilStairs$Moment"
def TX4 : u_T := fun k => match k with
  | 0 => ("CoilStairs$Moment", "mats", "[I", true)
  | 1 => ("CoilStairs$Moment", "place", "I", false)
  | 2 => ("CoilStairs$Moment", "vigour", "I", false)
  | _ => ("CoilStairs$Moment", "flipped", "I", false)
def tyX4 : Nat → FieldType := fun k => match k with
  | 0 => .array .int
  | 1 => .int
  | 2 => .int
  | _ => .int
theorem nmX4 : ∀ a, a < 4 → ∀ b, b < 4 → a ≠ b → (TX4 a).2.1 ≠ (TX4 b).2.1 := by decide +kernel
theorem tyX4_ok : ∀ k, k < 4 → parseFieldDescriptor (TX4 k).2.2.1 = some (tyX4 k) := by decide +kernel
abbrev cX4_init : ByteArray := prog_6_method_1_code
def yX4_init : MethodName := ⟨RX4, "<init>", "()V"⟩
abbrev cX4_begin : ByteArray := prog_6_method_2_code
def yX4_begin : MethodName := ⟨RX4, "begin", "(LCoilStairs$Plan;)V"⟩
abbrev cX4_copy : ByteArray := prog_6_method_3_code
def yX4_copy : MethodName := ⟨RX4, "copy", "(LCoilStairs$Moment;)V"⟩
def RX5 : String := "CoilStairs$Plan"
def TX5 : u_T := fun k => match k with
  | 0 => ("CoilStairs$Plan", "high", "[I", true)
  | 1 => ("CoilStairs$Plan", "deep", "[I", true)
  | 2 => ("CoilStairs$Plan", "mats", "[I", true)
  | 3 => ("CoilStairs$Plan", "steps", "I", false)
  | 4 => ("CoilStairs$Plan", "length", "I", false)
  | 5 => ("CoilStairs$Plan", "stiff", "I", false)
  | _ => ("CoilStairs$Plan", "drag", "I", false)
def tyX5 : Nat → FieldType := fun k => match k with
  | 0 => .array .int
  | 1 => .array .int
  | 2 => .array .int
  | 3 => .int
  | 4 => .int
  | 5 => .int
  | _ => .int
theorem nmX5 : ∀ a, a < 7 → ∀ b, b < 7 → a ≠ b → (TX5 a).2.1 ≠ (TX5 b).2.1 := by decide +kernel
theorem tyX5_ok : ∀ k, k < 7 → parseFieldDescriptor (TX5 k).2.2.1 = some (tyX5 k) := by decide +kernel
abbrev cX5_init : ByteArray := prog_7_method_1_code
def yX5_init : MethodName := ⟨RX5, "<init>", "()V"⟩
abbrev cX5_empty : ByteArray := prog_7_method_2_code
def yX5_empty : MethodName := ⟨RX5, "empty", "()V"⟩
abbrev cX5_copy : ByteArray := prog_7_method_3_code
def yX5_copy : MethodName := ⟨RX5, "copy", "(LCoilStairs$Plan;)V"⟩
abbrev cX5_addStep : ByteArray := prog_7_method_4_code
def yX5_addStep : MethodName := ⟨RX5, "addStep", "(III)V"⟩
abbrev cX5_has : ByteArray := prog_7_method_5_code
def yX5_has : MethodName := ⟨RX5, "has", "(I)Z"⟩
abbrev cX5_hasPlace : ByteArray := prog_7_method_6_code
def yX5_hasPlace : MethodName := ⟨RX5, "hasPlace", "(I)Z"⟩
def RX6 : String := "CoilStairs$Reader"
def TX6 : u_T := fun k => match k with
  | 0 => ("CoilStairs$Reader", "text", "[C", true)
  | 1 => ("CoilStairs$Reader", "draft", "LCoilStairs$Plan;", true)
  | 2 => ("CoilStairs$Reader", "letters", "I", false)
  | 3 => ("CoilStairs$Reader", "at", "I", false)
  | 4 => ("CoilStairs$Reader", "items", "I", false)
  | 5 => ("CoilStairs$Reader", "fault", "I", false)
  | 6 => ("CoilStairs$Reader", "longTold", "Z", false)
  | 7 => ("CoilStairs$Reader", "stiffTold", "Z", false)
  | _ => ("CoilStairs$Reader", "dragTold", "Z", false)
def tyX6 : Nat → FieldType := fun k => match k with
  | 0 => .array .char
  | 1 => .object "CoilStairs$Plan"
  | 2 => .int
  | 3 => .int
  | 4 => .int
  | 5 => .int
  | 6 => .boolean
  | 7 => .boolean
  | _ => .boolean
theorem nmX6 : ∀ a, a < 9 → ∀ b, b < 9 → a ≠ b → (TX6 a).2.1 ≠ (TX6 b).2.1 := by decide +kernel
theorem tyX6_ok : ∀ k, k < 9 → parseFieldDescriptor (TX6 k).2.2.1 = some (tyX6 k) := by decide +kernel
abbrev cX6_init : ByteArray := prog_8_method_1_code
def yX6_init : MethodName := ⟨RX6, "<init>", "()V"⟩
abbrev cX6_take : ByteArray := prog_8_method_2_code
def yX6_take : MethodName := ⟨RX6, "take", "(C)Z"⟩
abbrev cX6_read : ByteArray := prog_8_method_3_code
def yX6_read : MethodName := ⟨RX6, "read", "()Z"⟩
abbrev cX6_findToken : ByteArray := prog_8_method_4_code
def yX6_findToken : MethodName := ⟨RX6, "findToken", "()Z"⟩
abbrev cX6_readItem : ByteArray := prog_8_method_5_code
def yX6_readItem : MethodName := ⟨RX6, "readItem", "()V"⟩
abbrev cX6_mayBegin : ByteArray := prog_8_method_6_code
def yX6_mayBegin : MethodName := ⟨RX6, "mayBegin", "(I)Z"⟩
abbrev cX6_readStep : ByteArray := prog_8_method_7_code
def yX6_readStep : MethodName := ⟨RX6, "readStep", "()V"⟩
abbrev cX6_number : ByteArray := prog_8_method_8_code
def yX6_number : MethodName := ⟨RX6, "number", "(II)I"⟩
abbrev cX6_endItem : ByteArray := prog_8_method_9_code
def yX6_endItem : MethodName := ⟨RX6, "endItem", "()V"⟩
def RX7 : String := "CoilStairs$Walk"
def TX7 : u_T := fun k => match k with
  | 0 => ("CoilStairs$Walk", "plan", "LCoilStairs$Plan;", true)
  | 1 => ("CoilStairs$Walk", "mats", "[I", true)
  | 2 => ("CoilStairs$Walk", "stiff", "I", false)
  | 3 => ("CoilStairs$Walk", "drag", "I", false)
  | 4 => ("CoilStairs$Walk", "place", "I", false)
  | 5 => ("CoilStairs$Walk", "vigour", "I", false)
  | 6 => ("CoilStairs$Walk", "flipped", "I", false)
  | _ => ("CoilStairs$Walk", "slipped", "I", false)
def tyX7 : Nat → FieldType := fun k => match k with
  | 0 => .object "CoilStairs$Plan"
  | 1 => .array .int
  | 2 => .int
  | 3 => .int
  | 4 => .int
  | 5 => .int
  | 6 => .int
  | _ => .int
theorem nmX7 : ∀ a, a < 8 → ∀ b, b < 8 → a ≠ b → (TX7 a).2.1 ≠ (TX7 b).2.1 := by decide +kernel
theorem tyX7_ok : ∀ k, k < 8 → parseFieldDescriptor (TX7 k).2.2.1 = some (tyX7 k) := by decide +kernel
abbrev cX7_init : ByteArray := prog_9_method_1_code
def yX7_init : MethodName := ⟨RX7, "<init>", "(LCoilStairs$Plan;)V"⟩
abbrev cX7_prepare : ByteArray := prog_9_method_2_code
def yX7_prepare : MethodName := ⟨RX7, "prepare", "(LCoilStairs$Moment;)V"⟩
abbrev cX7_stand : ByteArray := prog_9_method_3_code
def yX7_stand : MethodName := ⟨RX7, "stand", "(II)V"⟩
abbrev cX7_turn : ByteArray := prog_9_method_4_code
def yX7_turn : MethodName := ⟨RX7, "turn", "()V"⟩
abbrev cX7_land : ByteArray := prog_9_method_5_code
def yX7_land : MethodName := ⟨RX7, "land", "()V"⟩
abbrev cX7_run : ByteArray := prog_9_method_6_code
def yX7_run : MethodName := ⟨RX7, "run", "(II)I"⟩
def RX8 : String := "CoilStairs"
def TX8 : u_T := fun k => match k with
  | 0 => ("CoilStairs", "plan", "LCoilStairs$Plan;", true)
  | 1 => ("CoilStairs", "reader", "LCoilStairs$Reader;", true)
  | 2 => ("CoilStairs", "present", "LCoilStairs$Moment;", true)
  | 3 => ("CoilStairs", "history", "LCoilStairs$History;", true)
  | 4 => ("CoilStairs", "images", "[LCoilStairs$Moment;", true)
  | 5 => ("CoilStairs", "imageKept", "[Z", true)
  | 6 => ("CoilStairs", "walk", "LCoilStairs$Walk;", true)
  | 7 => ("CoilStairs", "leastPushes", "LCoilStairs$LeastPushes;", true)
  | 8 => ("CoilStairs", "clues", "LCoilStairs$Clues;", true)
  | 9 => ("CoilStairs", "chances", "LCoilStairs$Chances;", true)
  | _ => ("CoilStairs", "traced", "J", false)
def tyX8 : Nat → FieldType := fun k => match k with
  | 0 => .object "CoilStairs$Plan"
  | 1 => .object "CoilStairs$Reader"
  | 2 => .object "CoilStairs$Moment"
  | 3 => .object "CoilStairs$History"
  | 4 => .array (.object "CoilStairs$Moment")
  | 5 => .array .boolean
  | 6 => .object "CoilStairs$Walk"
  | 7 => .object "CoilStairs$LeastPushes"
  | 8 => .object "CoilStairs$Clues"
  | 9 => .object "CoilStairs$Chances"
  | _ => .long
theorem nmX8 : ∀ a, a < 11 → ∀ b, b < 11 → a ≠ b → (TX8 a).2.1 ≠ (TX8 b).2.1 := by decide +kernel
theorem tyX8_ok : ∀ k, k < 11 → parseFieldDescriptor (TX8 k).2.2.1 = some (tyX8 k) := by decide +kernel
abbrev cX8_init : ByteArray := prog_1_method_1_code
def yX8_init : MethodName := ⟨RX8, "<init>", "()V"⟩
abbrev cX8_type : ByteArray := prog_1_method_2_code
def yX8_type : MethodName := ⟨RX8, "type", "(I)I"⟩
abbrev cX8_clear : ByteArray := prog_1_method_3_code
def yX8_clear : MethodName := ⟨RX8, "clear", "()I"⟩
abbrev cX8_stairs : ByteArray := prog_1_method_4_code
def yX8_stairs : MethodName := ⟨RX8, "stairs", "()I"⟩
abbrev cX8_step : ByteArray := prog_1_method_5_code
def yX8_step : MethodName := ⟨RX8, "step", "(II)I"⟩
abbrev cX8_now : ByteArray := prog_1_method_6_code
def yX8_now : MethodName := ⟨RX8, "now", "(I)I"⟩
abbrev cX8_flips : ByteArray := prog_1_method_7_code
def yX8_flips : MethodName := ⟨RX8, "flips", "()I"⟩
abbrev cX8_pushes : ByteArray := prog_1_method_8_code
def yX8_pushes : MethodName := ⟨RX8, "pushes", "(I)I"⟩
abbrev cX8_lifts : ByteArray := prog_1_method_9_code
def yX8_lifts : MethodName := ⟨RX8, "lifts", "(I)I"⟩
abbrev cX8_lays : ByteArray := prog_1_method_10_code
def yX8_lays : MethodName := ⟨RX8, "lays", "(II)I"⟩
abbrev cX8_undo : ByteArray := prog_1_method_11_code
def yX8_undo : MethodName := ⟨RX8, "undo", "()I"⟩
abbrev cX8_push : ByteArray := prog_1_method_12_code
def yX8_push : MethodName := ⟨RX8, "push", "(I)I"⟩
abbrev cX8_mat : ByteArray := prog_1_method_13_code
def yX8_mat : MethodName := ⟨RX8, "mat", "(II)I"⟩
abbrev cX8_odds : ByteArray := prog_1_method_14_code
def yX8_odds : MethodName := ⟨RX8, "odds", "(II)I"⟩
abbrev cX8_sees : ByteArray := prog_1_method_15_code
def yX8_sees : MethodName := ⟨RX8, "sees", "(III)I"⟩
abbrev cX8_forget : ByteArray := prog_1_method_16_code
def yX8_forget : MethodName := ⟨RX8, "forget", "()I"⟩
abbrev cX8_ways : ByteArray := prog_1_method_17_code
def yX8_ways : MethodName := ⟨RX8, "ways", "(I)I"⟩
abbrev cX8_next : ByteArray := prog_1_method_18_code
def yX8_next : MethodName := ⟨RX8, "next", "(I)I"⟩
abbrev cX8_rate : ByteArray := prog_1_method_19_code
def yX8_rate : MethodName := ⟨RX8, "rate", "(II)I"⟩
abbrev cX8_keep : ByteArray := prog_1_method_20_code
def yX8_keep : MethodName := ⟨RX8, "keep", "(I)I"⟩
abbrev cX8_back : ByteArray := prog_1_method_21_code
def yX8_back : MethodName := ⟨RX8, "back", "(I)I"⟩
abbrev cX8_count : ByteArray := prog_1_method_22_code
def yX8_count : MethodName := ⟨RX8, "count", "(I)I"⟩
abbrev cX8_trace : ByteArray := prog_1_method_23_code
def yX8_trace : MethodName := ⟨RX8, "trace", "()J"⟩
abbrev cX8_within : ByteArray := prog_1_method_24_code
def yX8_within : MethodName := ⟨RX8, "within", "(III)Z"⟩
abbrev cX8_asVigour : ByteArray := prog_1_method_25_code
def yX8_asVigour : MethodName := ⟨RX8, "asVigour", "(I)I"⟩
abbrev cX8_tenTimes : ByteArray := prog_1_method_26_code
def yX8_tenTimes : MethodName := ⟨RX8, "tenTimes", "(II)I"⟩
abbrev cX8_runFrom : ByteArray := prog_1_method_27_code
def yX8_runFrom : MethodName := ⟨RX8, "runFrom", "(I)I"⟩
abbrev cX8_runWithMat : ByteArray := prog_1_method_28_code
def yX8_runWithMat : MethodName := ⟨RX8, "runWithMat", "(II)I"⟩
abbrev cX8_asCoil : ByteArray := prog_1_method_29_code
def yX8_asCoil : MethodName := ⟨RX8, "asCoil", "(I)I"⟩
abbrev cX8_asBrass : ByteArray := prog_1_method_30_code
def yX8_asBrass : MethodName := ⟨RX8, "asBrass", "(I)I"⟩
abbrev cX8_asPaper : ByteArray := prog_1_method_31_code
def yX8_asPaper : MethodName := ⟨RX8, "asPaper", "(I)I"⟩
abbrev cX8_asSilver : ByteArray := prog_1_method_32_code
def yX8_asSilver : MethodName := ⟨RX8, "asSilver", "(I)I"⟩
abbrev cX8_asTwine : ByteArray := prog_1_method_33_code
def yX8_asTwine : MethodName := ⟨RX8, "asTwine", "(I)I"⟩
abbrev cX8_asLead : ByteArray := prog_1_method_34_code
def yX8_asLead : MethodName := ⟨RX8, "asLead", "(I)I"⟩
def RX9 : String := "CoilStairsModel"
def TX9 : u_T := fun k => match k with
  | 0 => ("CoilStairsModel", "row", "[I", true)
  | 1 => ("CoilStairsModel", "steps", "I", false)
  | 2 => ("CoilStairsModel", "lasts", "I", false)
  | 3 => ("CoilStairsModel", "stiff", "I", false)
  | 4 => ("CoilStairsModel", "drag", "I", false)
  | 5 => ("CoilStairsModel", "high", "[I", true)
  | 6 => ("CoilStairsModel", "deep", "[I", true)
  | 7 => ("CoilStairsModel", "undos", "I", false)
  | 8 => ("CoilStairsModel", "isKept", "[Z", true)
  | 9 => ("CoilStairsModel", "text", "[I", true)
  | 10 => ("CoilStairsModel", "length", "I", false)
  | 11 => ("CoilStairsModel", "seenMany", "I", false)
  | 12 => ("CoilStairsModel", "seenStep", "[I", true)
  | 13 => ("CoilStairsModel", "seenVigour", "[I", true)
  | 14 => ("CoilStairsModel", "seenPlace", "[I", true)
  | 15 => ("CoilStairsModel", "trace", "J", false)
  | 16 => ("CoilStairsModel", "at", "I", false)
  | 17 => ("CoilStairsModel", "behind", "I", false)
  | 18 => ("CoilStairsModel", "readSteps", "I", false)
  | 19 => ("CoilStairsModel", "readHigh", "[I", true)
  | 20 => ("CoilStairsModel", "readDeep", "[I", true)
  | 21 => ("CoilStairsModel", "readMat", "[I", true)
  | 22 => ("CoilStairsModel", "readCoil", "[I", true)
  | 23 => ("CoilStairsModel", "number", "I", false)
  | 24 => ("CoilStairsModel", "ofStiff", "I", false)
  | 25 => ("CoilStairsModel", "ofDrag", "I", false)
  | 26 => ("CoilStairsModel", "slips", "I", false)
  | 27 => ("CoilStairsModel", "ahead", "[I", true)
  | 28 => ("CoilStairsModel", "firstPush", "I", false)
  | 29 => ("CoilStairsModel", "waysAre", "[I", true)
  | 30 => ("CoilStairsModel", "wayMany", "I", false)
  | _ => ("CoilStairsModel", "atPlace", "[I", true)
def tyX9 : Nat → FieldType := fun k => match k with
  | 0 => .array .int
  | 1 => .int
  | 2 => .int
  | 3 => .int
  | 4 => .int
  | 5 => .array .int
  | 6 => .array .int
  | 7 => .int
  | 8 => .array .boolean
  | 9 => .array .int
  | 10 => .int
  | 11 => .int
  | 12 => .array .int
  | 13 => .array .int
  | 14 => .array .int
  | 15 => .long
  | 16 => .int
  | 17 => .int
  | 18 => .int
  | 19 => .array .int
  | 20 => .array .int
  | 21 => .array .int
  | 22 => .array .int
  | 23 => .int
  | 24 => .int
  | 25 => .int
  | 26 => .int
  | 27 => .array .int
  | 28 => .int
  | 29 => .array .int
  | 30 => .int
  | _ => .array .int
theorem nmX9 : ∀ a, a < 32 → ∀ b, b < 32 → a ≠ b → (TX9 a).2.1 ≠ (TX9 b).2.1 := by decide +kernel
theorem tyX9_ok : ∀ k, k < 32 → parseFieldDescriptor (TX9 k).2.2.1 = some (tyX9 k) := by decide +kernel
abbrev cX9_init : ByteArray := prog_11_method_1_code
def yX9_init : MethodName := ⟨RX9, "<init>", "()V"⟩
abbrev cX9_in : ByteArray := prog_11_method_2_code
def yX9_in : MethodName := ⟨RX9, "in", "(III)Z"⟩
abbrev cX9_copyRow : ByteArray := prog_11_method_3_code
def yX9_copyRow : MethodName := ⟨RX9, "copyRow", "(II)V"⟩
abbrev cX9_isStep : ByteArray := prog_11_method_4_code
def yX9_isStep : MethodName := ⟨RX9, "isStep", "(I)Z"⟩
abbrev cX9_type : ByteArray := prog_11_method_5_code
def yX9_type : MethodName := ⟨RX9, "type", "(I)I"⟩
abbrev cX9_clear : ByteArray := prog_11_method_6_code
def yX9_clear : MethodName := ⟨RX9, "clear", "()I"⟩
abbrev cX9_isFigure : ByteArray := prog_11_method_7_code
def yX9_isFigure : MethodName := ⟨RX9, "isFigure", "(I)Z"⟩
abbrev cX9_nextToken : ByteArray := prog_11_method_8_code
def yX9_nextToken : MethodName := ⟨RX9, "nextToken", "()V"⟩
abbrev cX9_isSign : ByteArray := prog_11_method_9_code
def yX9_isSign : MethodName := ⟨RX9, "isSign", "(I)Z"⟩
abbrev cX9_readsNumber : ByteArray := prog_11_method_10_code
def yX9_readsNumber : MethodName := ⟨RX9, "readsNumber", "(II)Z"⟩
abbrev cX9_readsStep : ByteArray := prog_11_method_11_code
def yX9_readsStep : MethodName := ⟨RX9, "readsStep", "()Z"⟩
abbrev cX9_readsCoil : ByteArray := prog_11_method_12_code
def yX9_readsCoil : MethodName := ⟨RX9, "readsCoil", "(III)Z"⟩
abbrev cX9_readsItem : ByteArray := prog_11_method_13_code
def yX9_readsItem : MethodName := ⟨RX9, "readsItem", "()Z"⟩
abbrev cX9_readItems : ByteArray := prog_11_method_14_code
def yX9_readItems : MethodName := ⟨RX9, "readItems", "()I"⟩
abbrev cX9_stairs : ByteArray := prog_11_method_15_code
def yX9_stairs : MethodName := ⟨RX9, "stairs", "()I"⟩
abbrev cX9_step : ByteArray := prog_11_method_16_code
def yX9_step : MethodName := ⟨RX9, "step", "(II)I"⟩
abbrev cX9_asItIs : ByteArray := prog_11_method_17_code
def yX9_asItIs : MethodName := ⟨RX9, "asItIs", "()V"⟩
abbrev cX9_bound : ByteArray := prog_11_method_18_code
def yX9_bound : MethodName := ⟨RX9, "bound", "(I)I"⟩
abbrev cX9_lands : ByteArray := prog_11_method_19_code
def yX9_lands : MethodName := ⟨RX9, "lands", "(I)V"⟩
abbrev cX9_flip : ByteArray := prog_11_method_20_code
def yX9_flip : MethodName := ⟨RX9, "flip", "(I)V"⟩
abbrev cX9_runs : ByteArray := prog_11_method_21_code
def yX9_runs : MethodName := ⟨RX9, "runs", "()I"⟩
abbrev cX9_layTried : ByteArray := prog_11_method_22_code
def yX9_layTried : MethodName := ⟨RX9, "layTried", "()V"⟩
abbrev cX9_leastFrom : ByteArray := prog_11_method_23_code
def yX9_leastFrom : MethodName := ⟨RX9, "leastFrom", "(II)I"⟩
abbrev cX9_fewest : ByteArray := prog_11_method_24_code
def yX9_fewest : MethodName := ⟨RX9, "fewest", "()I"⟩
abbrev cX9_leastOf : ByteArray := prog_11_method_25_code
def yX9_leastOf : MethodName := ⟨RX9, "leastOf", "(I)I"⟩
abbrev cX9_tellRun : ByteArray := prog_11_method_26_code
def yX9_tellRun : MethodName := ⟨RX9, "tellRun", "(I)I"⟩
abbrev cX9_now : ByteArray := prog_11_method_27_code
def yX9_now : MethodName := ⟨RX9, "now", "(I)I"⟩
abbrev cX9_keepPast : ByteArray := prog_11_method_28_code
def yX9_keepPast : MethodName := ⟨RX9, "keepPast", "()V"⟩
abbrev cX9_flips : ByteArray := prog_11_method_29_code
def yX9_flips : MethodName := ⟨RX9, "flips", "()I"⟩
abbrev cX9_pushes : ByteArray := prog_11_method_30_code
def yX9_pushes : MethodName := ⟨RX9, "pushes", "(I)I"⟩
abbrev cX9_lifts : ByteArray := prog_11_method_31_code
def yX9_lifts : MethodName := ⟨RX9, "lifts", "(I)I"⟩
abbrev cX9_lays : ByteArray := prog_11_method_32_code
def yX9_lays : MethodName := ⟨RX9, "lays", "(II)I"⟩
abbrev cX9_undo : ByteArray := prog_11_method_33_code
def yX9_undo : MethodName := ⟨RX9, "undo", "()I"⟩
abbrev cX9_push : ByteArray := prog_11_method_34_code
def yX9_push : MethodName := ⟨RX9, "push", "(I)I"⟩
abbrev cX9_mat : ByteArray := prog_11_method_35_code
def yX9_mat : MethodName := ⟨RX9, "mat", "(II)I"⟩
abbrev cX9_odds : ByteArray := prog_11_method_36_code
def yX9_odds : MethodName := ⟨RX9, "odds", "(II)I"⟩
abbrev cX9_sees : ByteArray := prog_11_method_37_code
def yX9_sees : MethodName := ⟨RX9, "sees", "(III)I"⟩
abbrev cX9_forget : ByteArray := prog_11_method_38_code
def yX9_forget : MethodName := ⟨RX9, "forget", "()I"⟩
abbrev cX9_restsAt : ByteArray := prog_11_method_39_code
def yX9_restsAt : MethodName := ⟨RX9, "restsAt", "(IIII)I"⟩
abbrev cX9_isWay : ByteArray := prog_11_method_40_code
def yX9_isWay : MethodName := ⟨RX9, "isWay", "(II)Z"⟩
abbrev cX9_layWays : ByteArray := prog_11_method_41_code
def yX9_layWays : MethodName := ⟨RX9, "layWays", "()V"⟩
abbrev cX9_ways : ByteArray := prog_11_method_42_code
def yX9_ways : MethodName := ⟨RX9, "ways", "(I)I"⟩
abbrev cX9_next : ByteArray := prog_11_method_43_code
def yX9_next : MethodName := ⟨RX9, "next", "(I)I"⟩
abbrev cX9_coilRate : ByteArray := prog_11_method_44_code
def yX9_coilRate : MethodName := ⟨RX9, "coilRate", "(I)I"⟩
abbrev cX9_brassRate : ByteArray := prog_11_method_45_code
def yX9_brassRate : MethodName := ⟨RX9, "brassRate", "(I)I"⟩
abbrev cX9_paperRate : ByteArray := prog_11_method_46_code
def yX9_paperRate : MethodName := ⟨RX9, "paperRate", "(I)I"⟩
abbrev cX9_rate : ByteArray := prog_11_method_47_code
def yX9_rate : MethodName := ⟨RX9, "rate", "(II)I"⟩
abbrev cX9_keep : ByteArray := prog_11_method_48_code
def yX9_keep : MethodName := ⟨RX9, "keep", "(I)I"⟩
abbrev cX9_back : ByteArray := prog_11_method_49_code
def yX9_back : MethodName := ⟨RX9, "back", "(I)I"⟩
abbrev cX9_count : ByteArray := prog_11_method_50_code
def yX9_count : MethodName := ⟨RX9, "count", "(I)I"⟩
abbrev cX9_trace : ByteArray := prog_11_method_51_code
def yX9_trace : MethodName := ⟨RX9, "trace", "()J"⟩
def RJ9 : String := "java/lang/Math"
def TJ9 : u_T := fun k => match k with
  | _ => ("", "", "", false)
def tyJ9 : Nat → FieldType := fun k => match k with
  | _ => .int
theorem nmJ9 : ∀ a, a < 0 → ∀ b, b < 0 → a ≠ b → (TJ9 a).2.1 ≠ (TJ9 b).2.1 := by decide +kernel
theorem tyJ9_ok : ∀ k, k < 0 → parseFieldDescriptor (TJ9 k).2.2.1 = some (tyJ9 k) := by decide +kernel
abbrev cJ9_max_7cf53 : ByteArray := prog_12_method_65_code
def yJ9_max_7cf53 : MethodName := ⟨RJ9, "max", "(II)I"⟩
abbrev cJ9_min_7cf53 : ByteArray := prog_12_method_69_code
def yJ9_min_7cf53 : MethodName := ⟨RJ9, "min", "(II)I"⟩
def RJ10 : String := "java/lang/System"
def TJ10 : u_T := fun k => match k with
  | _ => ("", "", "", false)
def tyJ10 : Nat → FieldType := fun k => match k with
  | _ => .int
theorem nmJ10 : ∀ a, a < 0 → ∀ b, b < 0 → a ≠ b → (TJ10 a).2.1 ≠ (TJ10 b).2.1 := by decide +kernel
theorem tyJ10_ok : ∀ k, k < 0 → parseFieldDescriptor (TJ10 k).2.2.1 = some (tyJ10 k) := by decide +kernel
def RJ7 : String := "java/util/Arrays"
def TJ7 : u_T := fun k => match k with
  | _ => ("", "", "", false)
def tyJ7 : Nat → FieldType := fun k => match k with
  | _ => .int
theorem nmJ7 : ∀ a, a < 0 → ∀ b, b < 0 → a ≠ b → (TJ7 a).2.1 ≠ (TJ7 b).2.1 := by decide +kernel
theorem tyJ7_ok : ∀ k, k < 0 → parseFieldDescriptor (TJ7 k).2.2.1 = some (tyJ7 k) := by decide +kernel
abbrev cJ7_fill_53178 : ByteArray := prog_14_method_103_code
def yJ7_fill_53178 : MethodName := ⟨RJ7, "fill", "([II)V"⟩
def RL : String := "CoilStairsLaw"
abbrev cL_law : ByteArray := code
def yL_law : MethodName := ⟨RL, "law", "([I)Z"⟩
abbrev vwCl : List vw_C := [(RX0, TX0, 5), (RX1, TX1, 9), (RX2, TX2, 3), (RX3, TX3, 2), (RX4, TX4, 4), (RX5, TX5, 7), (RX6, TX6, 9), (RX7, TX7, 8), (RX8, TX8, 11), (RX9, TX9, 32)]
end
section
theorem dX0_init_0 : decode cX0_init 0 = .ok (.aload_n 0, 1) := by decide +kernel
theorem dX0_init_1 : decode cX0_init 1 = .ok (.invokespecial 3, 3) := by decide +kernel
theorem dX0_init_4 : decode cX0_init 4 = .ok (.aload_n 0, 1) := by decide +kernel
theorem dX0_init_5 : decode cX0_init 5 = .ok (.bipush 9, 2) := by decide +kernel
theorem dX0_init_7 : decode cX0_init 7 = .ok (.newarray .int, 2) := by decide +kernel
theorem dX0_init_9 : decode cX0_init 9 = .ok (.putfield 9, 3) := by decide +kernel
theorem dX0_init_12 : decode cX0_init 12 = .ok (.aload_n 0, 1) := by decide +kernel
theorem dX0_init_13 : decode cX0_init 13 = .ok (.aload_n 1, 1) := by decide +kernel
theorem dX0_init_14 : decode cX0_init 14 = .ok (.putfield 15, 3) := by decide +kernel
theorem dX0_init_17 : decode cX0_init 17 = .ok (.return_, 1) := by decide +kernel
theorem dX0_weigh_0 : decode cX0_weigh 0 = .ok (.aload_n 0, 1) := by decide +kernel
theorem dX0_weigh_1 : decode cX0_weigh 1 = .ok (.getfield 15, 3) := by decide +kernel
theorem dX0_weigh_4 : decode cX0_weigh 4 = .ok (.aload_n 1, 1) := by decide +kernel
theorem dX0_weigh_5 : decode cX0_weigh 5 = .ok (.invokevirtual 19, 3) := by decide +kernel
theorem dX0_weigh_8 : decode cX0_weigh 8 = .ok (.aload_n 0, 1) := by decide +kernel
theorem dX0_weigh_9 : decode cX0_weigh 9 = .ok (.aload_n 1, 1) := by decide +kernel
theorem dX0_weigh_10 : decode cX0_weigh 10 = .ok (.invokevirtual 25, 3) := by decide +kernel
theorem dX0_weigh_13 : decode cX0_weigh 13 = .ok (.aload_n 0, 1) := by decide +kernel
theorem dX0_weigh_14 : decode cX0_weigh 14 = .ok (.lconst 0, 1) := by decide +kernel
theorem dX0_weigh_15 : decode cX0_weigh 15 = .ok (.putfield 28, 3) := by decide +kernel
theorem dX0_weigh_18 : decode cX0_weigh 18 = .ok (.aload_n 0, 1) := by decide +kernel
theorem dX0_weigh_19 : decode cX0_weigh 19 = .ok (.lconst 1, 1) := by decide +kernel
theorem dX0_weigh_20 : decode cX0_weigh 20 = .ok (.putfield 32, 3) := by decide +kernel
theorem dX0_weigh_23 : decode cX0_weigh 23 = .ok (.iconst 0, 1) := by decide +kernel
theorem dX0_weigh_24 : decode cX0_weigh 24 = .ok (.istore_n 3, 1) := by decide +kernel
theorem dX0_weigh_25 : decode cX0_weigh 25 = .ok (.iload_n 3, 1) := by decide +kernel
theorem dX0_weigh_26 : decode cX0_weigh 26 = .ok (.aload_n 0, 1) := by decide +kernel
theorem dX0_weigh_27 : decode cX0_weigh 27 = .ok (.getfield 35, 3) := by decide +kernel
theorem dX0_weigh_30 : decode cX0_weigh 30 = .ok (.if_icmp .ge 21, 3) := by decide +kernel
theorem dX0_weigh_33 : decode cX0_weigh 33 = .ok (.aload_n 0, 1) := by decide +kernel
theorem dX0_weigh_34 : decode cX0_weigh 34 = .ok (.dup, 1) := by decide +kernel
theorem dX0_weigh_35 : decode cX0_weigh 35 = .ok (.getfield 32, 3) := by decide +kernel
theorem dX0_weigh_38 : decode cX0_weigh 38 = .ok (.ldc2_w 39, 3) := by decide +kernel
theorem dX0_weigh_41 : decode cX0_weigh 41 = .ok (.lmul, 1) := by decide +kernel
theorem dX0_weigh_42 : decode cX0_weigh 42 = .ok (.putfield 32, 3) := by decide +kernel
theorem dX0_weigh_45 : decode cX0_weigh 45 = .ok (.iinc 3 1, 3) := by decide +kernel
theorem dX0_weigh_48 : decode cX0_weigh 48 = .ok (.goto (-23), 3) := by decide +kernel
theorem dX0_weigh_51 : decode cX0_weigh 51 = .ok (.iconst 0, 1) := by decide +kernel
theorem dX0_weigh_52 : decode cX0_weigh 52 = .ok (.istore_n 3, 1) := by decide +kernel
theorem dX0_weigh_53 : decode cX0_weigh 53 = .ok (.iload_n 3, 1) := by decide +kernel
theorem dX0_weigh_54 : decode cX0_weigh 54 = .ok (.iconst 1, 1) := by decide +kernel
theorem dX0_weigh_55 : decode cX0_weigh 55 = .ok (.aload_n 0, 1) := by decide +kernel
theorem dX0_weigh_56 : decode cX0_weigh 56 = .ok (.getfield 35, 3) := by decide +kernel
theorem dX0_weigh_59 : decode cX0_weigh 59 = .ok (.ishl, 1) := by decide +kernel
theorem dX0_weigh_60 : decode cX0_weigh 60 = .ok (.if_icmp .ge 44, 3) := by decide +kernel
theorem dX0_weigh_63 : decode cX0_weigh 63 = .ok (.aload_n 0, 1) := by decide +kernel
theorem dX0_weigh_64 : decode cX0_weigh 64 = .ok (.iload_n 3, 1) := by decide +kernel
theorem dX0_weigh_65 : decode cX0_weigh 65 = .ok (.iload_n 2, 1) := by decide +kernel
theorem dX0_weigh_66 : decode cX0_weigh 66 = .ok (.invokevirtual 41, 3) := by decide +kernel
theorem dX0_weigh_69 : decode cX0_weigh 69 = .ok (.lstore 4, 2) := by decide +kernel
theorem dX0_weigh_71 : decode cX0_weigh 71 = .ok (.lload 4, 2) := by decide +kernel
theorem dX0_weigh_73 : decode cX0_weigh 73 = .ok (.lconst 0, 1) := by decide +kernel
theorem dX0_weigh_74 : decode cX0_weigh 74 = .ok (.lcmp, 1) := by decide +kernel
theorem dX0_weigh_75 : decode cX0_weigh 75 = .ok (.ifCond .le 23, 3) := by decide +kernel
theorem dX0_weigh_78 : decode cX0_weigh 78 = .ok (.aload_n 0, 1) := by decide +kernel
theorem dX0_weigh_79 : decode cX0_weigh 79 = .ok (.aload_n 1, 1) := by decide +kernel
theorem dX0_weigh_80 : decode cX0_weigh 80 = .ok (.iload_n 3, 1) := by decide +kernel
theorem dX0_weigh_81 : decode cX0_weigh 81 = .ok (.invokevirtual 45, 3) := by decide +kernel
theorem dX0_weigh_84 : decode cX0_weigh 84 = .ok (.ifCond .eq 14, 3) := by decide +kernel
theorem dX0_weigh_87 : decode cX0_weigh 87 = .ok (.aload_n 0, 1) := by decide +kernel
theorem dX0_weigh_88 : decode cX0_weigh 88 = .ok (.dup, 1) := by decide +kernel
theorem dX0_weigh_89 : decode cX0_weigh 89 = .ok (.getfield 28, 3) := by decide +kernel
theorem dX0_weigh_92 : decode cX0_weigh 92 = .ok (.lload 4, 2) := by decide +kernel
theorem dX0_weigh_94 : decode cX0_weigh 94 = .ok (.ladd, 1) := by decide +kernel
theorem dX0_weigh_95 : decode cX0_weigh 95 = .ok (.putfield 28, 3) := by decide +kernel
theorem dX0_weigh_98 : decode cX0_weigh 98 = .ok (.iinc 3 1, 3) := by decide +kernel
theorem dX0_weigh_101 : decode cX0_weigh 101 = .ok (.goto (-48), 3) := by decide +kernel
theorem dX0_weigh_104 : decode cX0_weigh 104 = .ok (.aload_n 0, 1) := by decide +kernel
theorem dX0_weigh_105 : decode cX0_weigh 105 = .ok (.invokevirtual 49, 3) := by decide +kernel
theorem dX0_weigh_108 : decode cX0_weigh 108 = .ok (.return_, 1) := by decide +kernel
theorem dX0_listMats_0 : decode cX0_listMats 0 = .ok (.aload_n 0, 1) := by decide +kernel
theorem dX0_listMats_1 : decode cX0_listMats 1 = .ok (.iconst 0, 1) := by decide +kernel
theorem dX0_listMats_2 : decode cX0_listMats 2 = .ok (.putfield 35, 3) := by decide +kernel
theorem dX0_listMats_5 : decode cX0_listMats 5 = .ok (.aload_n 1, 1) := by decide +kernel
theorem dX0_listMats_6 : decode cX0_listMats 6 = .ok (.getfield 52, 3) := by decide +kernel
theorem dX0_listMats_9 : decode cX0_listMats 9 = .ok (.iconst 1, 1) := by decide +kernel
theorem dX0_listMats_10 : decode cX0_listMats 10 = .ok (.iadd, 1) := by decide +kernel
theorem dX0_listMats_11 : decode cX0_listMats 11 = .ok (.istore_n 2, 1) := by decide +kernel
theorem dX0_listMats_12 : decode cX0_listMats 12 = .ok (.iload_n 2, 1) := by decide +kernel
theorem dX0_listMats_13 : decode cX0_listMats 13 = .ok (.aload_n 0, 1) := by decide +kernel
theorem dX0_listMats_14 : decode cX0_listMats 14 = .ok (.getfield 15, 3) := by decide +kernel
theorem dX0_listMats_17 : decode cX0_listMats 17 = .ok (.getfield 57, 3) := by decide +kernel
theorem dX0_listMats_20 : decode cX0_listMats 20 = .ok (.getfield 61, 3) := by decide +kernel
theorem dX0_listMats_23 : decode cX0_listMats 23 = .ok (.if_icmp .ge 38, 3) := by decide +kernel
theorem dX0_listMats_26 : decode cX0_listMats 26 = .ok (.aload_n 1, 1) := by decide +kernel
theorem dX0_listMats_27 : decode cX0_listMats 27 = .ok (.getfield 66, 3) := by decide +kernel
theorem dX0_listMats_30 : decode cX0_listMats 30 = .ok (.iload_n 2, 1) := by decide +kernel
theorem dX0_listMats_31 : decode cX0_listMats 31 = .ok (.iaload, 1) := by decide +kernel
theorem dX0_listMats_32 : decode cX0_listMats 32 = .ok (.ifCond .le 23, 3) := by decide +kernel
theorem dX0_listMats_35 : decode cX0_listMats 35 = .ok (.aload_n 0, 1) := by decide +kernel
theorem dX0_listMats_36 : decode cX0_listMats 36 = .ok (.getfield 9, 3) := by decide +kernel
theorem dX0_listMats_39 : decode cX0_listMats 39 = .ok (.aload_n 0, 1) := by decide +kernel
theorem dX0_listMats_40 : decode cX0_listMats 40 = .ok (.getfield 35, 3) := by decide +kernel
theorem dX0_listMats_43 : decode cX0_listMats 43 = .ok (.iload_n 2, 1) := by decide +kernel
theorem dX0_listMats_44 : decode cX0_listMats 44 = .ok (.iastore, 1) := by decide +kernel
theorem dX0_listMats_45 : decode cX0_listMats 45 = .ok (.aload_n 0, 1) := by decide +kernel
theorem dX0_listMats_46 : decode cX0_listMats 46 = .ok (.dup, 1) := by decide +kernel
theorem dX0_listMats_47 : decode cX0_listMats 47 = .ok (.getfield 35, 3) := by decide +kernel
theorem dX0_listMats_50 : decode cX0_listMats 50 = .ok (.iconst 1, 1) := by decide +kernel
theorem dX0_listMats_51 : decode cX0_listMats 51 = .ok (.iadd, 1) := by decide +kernel
theorem dX0_listMats_52 : decode cX0_listMats 52 = .ok (.putfield 35, 3) := by decide +kernel
theorem dX0_listMats_55 : decode cX0_listMats 55 = .ok (.iinc 2 1, 3) := by decide +kernel
theorem dX0_listMats_58 : decode cX0_listMats 58 = .ok (.goto (-46), 3) := by decide +kernel
theorem dX0_listMats_61 : decode cX0_listMats 61 = .ok (.return_, 1) := by decide +kernel
theorem dX0_weightOf_0 : decode cX0_weightOf 0 = .ok (.lconst 1, 1) := by decide +kernel
theorem dX0_weightOf_1 : decode cX0_weightOf 1 = .ok (.lstore_n 3, 1) := by decide +kernel
theorem dX0_weightOf_2 : decode cX0_weightOf 2 = .ok (.iconst 0, 1) := by decide +kernel
theorem dX0_weightOf_3 : decode cX0_weightOf 3 = .ok (.istore 5, 2) := by decide +kernel
theorem dX0_weightOf_5 : decode cX0_weightOf 5 = .ok (.iload 5, 2) := by decide +kernel
theorem dX0_weightOf_7 : decode cX0_weightOf 7 = .ok (.aload_n 0, 1) := by decide +kernel
theorem dX0_weightOf_8 : decode cX0_weightOf 8 = .ok (.getfield 35, 3) := by decide +kernel
theorem dX0_weightOf_11 : decode cX0_weightOf 11 = .ok (.if_icmp .ge 32, 3) := by decide +kernel
theorem dX0_weightOf_14 : decode cX0_weightOf 14 = .ok (.lload_n 3, 1) := by decide +kernel
theorem dX0_weightOf_15 : decode cX0_weightOf 15 = .ok (.iload_n 1, 1) := by decide +kernel
theorem dX0_weightOf_16 : decode cX0_weightOf 16 = .ok (.iload 5, 2) := by decide +kernel
theorem dX0_weightOf_18 : decode cX0_weightOf 18 = .ok (.ishr, 1) := by decide +kernel
theorem dX0_weightOf_19 : decode cX0_weightOf 19 = .ok (.iconst 1, 1) := by decide +kernel
theorem dX0_weightOf_20 : decode cX0_weightOf 20 = .ok (.iand, 1) := by decide +kernel
theorem dX0_weightOf_21 : decode cX0_weightOf 21 = .ok (.iconst 1, 1) := by decide +kernel
theorem dX0_weightOf_22 : decode cX0_weightOf 22 = .ok (.if_icmp .ne 8, 3) := by decide +kernel
theorem dX0_weightOf_25 : decode cX0_weightOf 25 = .ok (.iload_n 2, 1) := by decide +kernel
theorem dX0_weightOf_26 : decode cX0_weightOf 26 = .ok (.i2l, 1) := by decide +kernel
theorem dX0_weightOf_27 : decode cX0_weightOf 27 = .ok (.goto 8, 3) := by decide +kernel
theorem dX0_weightOf_30 : decode cX0_weightOf 30 = .ok (.bipush 10, 2) := by decide +kernel
theorem dX0_weightOf_32 : decode cX0_weightOf 32 = .ok (.iload_n 2, 1) := by decide +kernel
theorem dX0_weightOf_33 : decode cX0_weightOf 33 = .ok (.isub, 1) := by decide +kernel
theorem dX0_weightOf_34 : decode cX0_weightOf 34 = .ok (.i2l, 1) := by decide +kernel
theorem dX0_weightOf_35 : decode cX0_weightOf 35 = .ok (.lmul, 1) := by decide +kernel
theorem dX0_weightOf_36 : decode cX0_weightOf 36 = .ok (.lstore_n 3, 1) := by decide +kernel
theorem dX0_weightOf_37 : decode cX0_weightOf 37 = .ok (.iinc 5 1, 3) := by decide +kernel
theorem dX0_weightOf_40 : decode cX0_weightOf 40 = .ok (.goto (-35), 3) := by decide +kernel
theorem dX0_weightOf_43 : decode cX0_weightOf 43 = .ok (.lload_n 3, 1) := by decide +kernel
theorem dX0_weightOf_44 : decode cX0_weightOf 44 = .ok (.lreturn, 1) := by decide +kernel
theorem dX0_reachesFloor_0 : decode cX0_reachesFloor 0 = .ok (.iconst 0, 1) := by decide +kernel
theorem dX0_reachesFloor_1 : decode cX0_reachesFloor 1 = .ok (.istore_n 3, 1) := by decide +kernel
theorem dX0_reachesFloor_2 : decode cX0_reachesFloor 2 = .ok (.iload_n 3, 1) := by decide +kernel
theorem dX0_reachesFloor_3 : decode cX0_reachesFloor 3 = .ok (.aload_n 0, 1) := by decide +kernel
theorem dX0_reachesFloor_4 : decode cX0_reachesFloor 4 = .ok (.getfield 35, 3) := by decide +kernel
theorem dX0_reachesFloor_7 : decode cX0_reachesFloor 7 = .ok (.if_icmp .ge 47, 3) := by decide +kernel
theorem dX0_reachesFloor_10 : decode cX0_reachesFloor 10 = .ok (.aload_n 0, 1) := by decide +kernel
theorem dX0_reachesFloor_11 : decode cX0_reachesFloor 11 = .ok (.getfield 9, 3) := by decide +kernel
theorem dX0_reachesFloor_14 : decode cX0_reachesFloor 14 = .ok (.iload_n 3, 1) := by decide +kernel
theorem dX0_reachesFloor_15 : decode cX0_reachesFloor 15 = .ok (.iaload, 1) := by decide +kernel
theorem dX0_reachesFloor_16 : decode cX0_reachesFloor 16 = .ok (.istore 4, 2) := by decide +kernel
theorem dX0_reachesFloor_18 : decode cX0_reachesFloor 18 = .ok (.aload_n 0, 1) := by decide +kernel
theorem dX0_reachesFloor_19 : decode cX0_reachesFloor 19 = .ok (.getfield 15, 3) := by decide +kernel
theorem dX0_reachesFloor_22 : decode cX0_reachesFloor 22 = .ok (.getfield 68, 3) := by decide +kernel
theorem dX0_reachesFloor_25 : decode cX0_reachesFloor 25 = .ok (.iload 4, 2) := by decide +kernel
theorem dX0_reachesFloor_27 : decode cX0_reachesFloor 27 = .ok (.iload_n 2, 1) := by decide +kernel
theorem dX0_reachesFloor_28 : decode cX0_reachesFloor 28 = .ok (.iload_n 3, 1) := by decide +kernel
theorem dX0_reachesFloor_29 : decode cX0_reachesFloor 29 = .ok (.ishr, 1) := by decide +kernel
theorem dX0_reachesFloor_30 : decode cX0_reachesFloor 30 = .ok (.iconst 1, 1) := by decide +kernel
theorem dX0_reachesFloor_31 : decode cX0_reachesFloor 31 = .ok (.iand, 1) := by decide +kernel
theorem dX0_reachesFloor_32 : decode cX0_reachesFloor 32 = .ok (.iconst 1, 1) := by decide +kernel
theorem dX0_reachesFloor_33 : decode cX0_reachesFloor 33 = .ok (.if_icmp .ne 7, 3) := by decide +kernel
theorem dX0_reachesFloor_36 : decode cX0_reachesFloor 36 = .ok (.iconst 0, 1) := by decide +kernel
theorem dX0_reachesFloor_37 : decode cX0_reachesFloor 37 = .ok (.goto 10, 3) := by decide +kernel
theorem dX0_reachesFloor_40 : decode cX0_reachesFloor 40 = .ok (.aload_n 1, 1) := by decide +kernel
theorem dX0_reachesFloor_41 : decode cX0_reachesFloor 41 = .ok (.getfield 66, 3) := by decide +kernel
theorem dX0_reachesFloor_44 : decode cX0_reachesFloor 44 = .ok (.iload 4, 2) := by decide +kernel
theorem dX0_reachesFloor_46 : decode cX0_reachesFloor 46 = .ok (.iaload, 1) := by decide +kernel
theorem dX0_reachesFloor_47 : decode cX0_reachesFloor 47 = .ok (.iastore, 1) := by decide +kernel
theorem dX0_reachesFloor_48 : decode cX0_reachesFloor 48 = .ok (.iinc 3 1, 3) := by decide +kernel
theorem dX0_reachesFloor_51 : decode cX0_reachesFloor 51 = .ok (.goto (-49), 3) := by decide +kernel
theorem dX0_reachesFloor_54 : decode cX0_reachesFloor 54 = .ok (.aload_n 0, 1) := by decide +kernel
theorem dX0_reachesFloor_55 : decode cX0_reachesFloor 55 = .ok (.getfield 15, 3) := by decide +kernel
theorem dX0_reachesFloor_58 : decode cX0_reachesFloor 58 = .ok (.getfield 57, 3) := by decide +kernel
theorem dX0_reachesFloor_61 : decode cX0_reachesFloor 61 = .ok (.aload_n 0, 1) := by decide +kernel
theorem dX0_reachesFloor_62 : decode cX0_reachesFloor 62 = .ok (.getfield 15, 3) := by decide +kernel
theorem dX0_reachesFloor_65 : decode cX0_reachesFloor 65 = .ok (.aload_n 1, 1) := by decide +kernel
theorem dX0_reachesFloor_66 : decode cX0_reachesFloor 66 = .ok (.getfield 52, 3) := by decide +kernel
theorem dX0_reachesFloor_69 : decode cX0_reachesFloor 69 = .ok (.aload_n 1, 1) := by decide +kernel
theorem dX0_reachesFloor_70 : decode cX0_reachesFloor 70 = .ok (.getfield 69, 3) := by decide +kernel
theorem dX0_reachesFloor_73 : decode cX0_reachesFloor 73 = .ok (.invokevirtual 72, 3) := by decide +kernel
theorem dX0_reachesFloor_76 : decode cX0_reachesFloor 76 = .ok (.invokevirtual 76, 3) := by decide +kernel
theorem dX0_reachesFloor_79 : decode cX0_reachesFloor 79 = .ok (.ifCond .ne 7, 3) := by decide +kernel
theorem dX0_reachesFloor_82 : decode cX0_reachesFloor 82 = .ok (.iconst 1, 1) := by decide +kernel
theorem dX0_reachesFloor_83 : decode cX0_reachesFloor 83 = .ok (.goto 4, 3) := by decide +kernel
theorem dX0_reachesFloor_86 : decode cX0_reachesFloor 86 = .ok (.iconst 0, 1) := by decide +kernel
theorem dX0_reachesFloor_87 : decode cX0_reachesFloor 87 = .ok (.ireturn, 1) := by decide +kernel
theorem dX0_reduce_0 : decode cX0_reduce 0 = .ok (.aload_n 0, 1) := by decide +kernel
theorem dX0_reduce_1 : decode cX0_reduce 1 = .ok (.getfield 32, 3) := by decide +kernel
theorem dX0_reduce_4 : decode cX0_reduce 4 = .ok (.lstore_n 1, 1) := by decide +kernel
theorem dX0_reduce_5 : decode cX0_reduce 5 = .ok (.aload_n 0, 1) := by decide +kernel
theorem dX0_reduce_6 : decode cX0_reduce 6 = .ok (.getfield 28, 3) := by decide +kernel
theorem dX0_reduce_9 : decode cX0_reduce 9 = .ok (.lstore_n 3, 1) := by decide +kernel
theorem dX0_reduce_10 : decode cX0_reduce 10 = .ok (.iconst 0, 1) := by decide +kernel
theorem dX0_reduce_11 : decode cX0_reduce 11 = .ok (.istore 5, 2) := by decide +kernel
theorem dX0_reduce_13 : decode cX0_reduce 13 = .ok (.iload 5, 2) := by decide +kernel
theorem dX0_reduce_15 : decode cX0_reduce 15 = .ok (.sipush 1000, 3) := by decide +kernel
theorem dX0_reduce_18 : decode cX0_reduce 18 = .ok (.if_icmp .ge 25, 3) := by decide +kernel
theorem dX0_reduce_21 : decode cX0_reduce 21 = .ok (.lload_n 3, 1) := by decide +kernel
theorem dX0_reduce_22 : decode cX0_reduce 22 = .ok (.lconst 0, 1) := by decide +kernel
theorem dX0_reduce_23 : decode cX0_reduce 23 = .ok (.lcmp, 1) := by decide +kernel
theorem dX0_reduce_24 : decode cX0_reduce 24 = .ok (.ifCond .eq 19, 3) := by decide +kernel
theorem dX0_reduce_27 : decode cX0_reduce 27 = .ok (.lload_n 1, 1) := by decide +kernel
theorem dX0_reduce_28 : decode cX0_reduce 28 = .ok (.lload_n 3, 1) := by decide +kernel
theorem dX0_reduce_29 : decode cX0_reduce 29 = .ok (.lrem, 1) := by decide +kernel
theorem dX0_reduce_30 : decode cX0_reduce 30 = .ok (.lstore 6, 2) := by decide +kernel
theorem dX0_reduce_32 : decode cX0_reduce 32 = .ok (.lload_n 3, 1) := by decide +kernel
theorem dX0_reduce_33 : decode cX0_reduce 33 = .ok (.lstore_n 1, 1) := by decide +kernel
theorem dX0_reduce_34 : decode cX0_reduce 34 = .ok (.lload 6, 2) := by decide +kernel
theorem dX0_reduce_36 : decode cX0_reduce 36 = .ok (.lstore_n 3, 1) := by decide +kernel
theorem dX0_reduce_37 : decode cX0_reduce 37 = .ok (.iinc 5 1, 3) := by decide +kernel
theorem dX0_reduce_40 : decode cX0_reduce 40 = .ok (.goto (-27), 3) := by decide +kernel
theorem dX0_reduce_43 : decode cX0_reduce 43 = .ok (.lload_n 1, 1) := by decide +kernel
theorem dX0_reduce_44 : decode cX0_reduce 44 = .ok (.lconst 0, 1) := by decide +kernel
theorem dX0_reduce_45 : decode cX0_reduce 45 = .ok (.lcmp, 1) := by decide +kernel
theorem dX0_reduce_46 : decode cX0_reduce 46 = .ok (.ifCond .le 23, 3) := by decide +kernel
theorem dX0_reduce_49 : decode cX0_reduce 49 = .ok (.aload_n 0, 1) := by decide +kernel
theorem dX0_reduce_50 : decode cX0_reduce 50 = .ok (.dup, 1) := by decide +kernel
theorem dX0_reduce_51 : decode cX0_reduce 51 = .ok (.getfield 28, 3) := by decide +kernel
theorem dX0_reduce_54 : decode cX0_reduce 54 = .ok (.lload_n 1, 1) := by decide +kernel
theorem dX0_reduce_55 : decode cX0_reduce 55 = .ok (.ldiv, 1) := by decide +kernel
theorem dX0_reduce_56 : decode cX0_reduce 56 = .ok (.putfield 28, 3) := by decide +kernel
theorem dX0_reduce_59 : decode cX0_reduce 59 = .ok (.aload_n 0, 1) := by decide +kernel
theorem dX0_reduce_60 : decode cX0_reduce 60 = .ok (.dup, 1) := by decide +kernel
theorem dX0_reduce_61 : decode cX0_reduce 61 = .ok (.getfield 32, 3) := by decide +kernel
theorem dX0_reduce_64 : decode cX0_reduce 64 = .ok (.lload_n 1, 1) := by decide +kernel
theorem dX0_reduce_65 : decode cX0_reduce 65 = .ok (.ldiv, 1) := by decide +kernel
theorem dX0_reduce_66 : decode cX0_reduce 66 = .ok (.putfield 32, 3) := by decide +kernel
theorem dX0_reduce_69 : decode cX0_reduce 69 = .ok (.return_, 1) := by decide +kernel
theorem dX1_init_0 : decode cX1_init 0 = .ok (.aload_n 0, 1) := by decide +kernel
theorem dX1_init_1 : decode cX1_init 1 = .ok (.invokespecial 3, 3) := by decide +kernel
theorem dX1_init_4 : decode cX1_init 4 = .ok (.aload_n 0, 1) := by decide +kernel
theorem dX1_init_5 : decode cX1_init 5 = .ok (.bipush 6, 2) := by decide +kernel
theorem dX1_init_7 : decode cX1_init 7 = .ok (.newarray .int, 2) := by decide +kernel
theorem dX1_init_9 : decode cX1_init 9 = .ok (.putfield 9, 3) := by decide +kernel
theorem dX1_init_12 : decode cX1_init 12 = .ok (.aload_n 0, 1) := by decide +kernel
theorem dX1_init_13 : decode cX1_init 13 = .ok (.bipush 6, 2) := by decide +kernel
theorem dX1_init_15 : decode cX1_init 15 = .ok (.newarray .int, 2) := by decide +kernel
theorem dX1_init_17 : decode cX1_init 17 = .ok (.putfield 15, 3) := by decide +kernel
theorem dX1_init_20 : decode cX1_init 20 = .ok (.aload_n 0, 1) := by decide +kernel
theorem dX1_init_21 : decode cX1_init 21 = .ok (.bipush 6, 2) := by decide +kernel
theorem dX1_init_23 : decode cX1_init 23 = .ok (.newarray .int, 2) := by decide +kernel
theorem dX1_init_25 : decode cX1_init 25 = .ok (.putfield 18, 3) := by decide +kernel
theorem dX1_init_28 : decode cX1_init 28 = .ok (.aload_n 0, 1) := by decide +kernel
theorem dX1_init_29 : decode cX1_init 29 = .ok (.bipush 36, 2) := by decide +kernel
theorem dX1_init_31 : decode cX1_init 31 = .ok (.newarray .int, 2) := by decide +kernel
theorem dX1_init_33 : decode cX1_init 33 = .ok (.putfield 21, 3) := by decide +kernel
theorem dX1_init_36 : decode cX1_init 36 = .ok (.aload_n 0, 1) := by decide +kernel
theorem dX1_init_37 : decode cX1_init 37 = .ok (.bipush 36, 2) := by decide +kernel
theorem dX1_init_39 : decode cX1_init 39 = .ok (.newarray .int, 2) := by decide +kernel
theorem dX1_init_41 : decode cX1_init 41 = .ok (.putfield 24, 3) := by decide +kernel
theorem dX1_init_44 : decode cX1_init 44 = .ok (.aload_n 0, 1) := by decide +kernel
theorem dX1_init_45 : decode cX1_init 45 = .ok (.bipush 10, 2) := by decide +kernel
theorem dX1_init_47 : decode cX1_init 47 = .ok (.newarray .int, 2) := by decide +kernel
theorem dX1_init_49 : decode cX1_init 49 = .ok (.putfield 27, 3) := by decide +kernel
theorem dX1_init_52 : decode cX1_init 52 = .ok (.aload_n 0, 1) := by decide +kernel
theorem dX1_init_53 : decode cX1_init 53 = .ok (.aload_n 1, 1) := by decide +kernel
theorem dX1_init_54 : decode cX1_init 54 = .ok (.putfield 30, 3) := by decide +kernel
theorem dX1_init_57 : decode cX1_init 57 = .ok (.return_, 1) := by decide +kernel
theorem dX1_add_0 : decode cX1_add 0 = .ok (.aload_n 0, 1) := by decide +kernel
theorem dX1_add_1 : decode cX1_add 1 = .ok (.getfield 34, 3) := by decide +kernel
theorem dX1_add_4 : decode cX1_add 4 = .ok (.bipush 6, 2) := by decide +kernel
theorem dX1_add_6 : decode cX1_add 6 = .ok (.if_icmp .lt 5, 3) := by decide +kernel
theorem dX1_add_9 : decode cX1_add 9 = .ok (.iconst 0, 1) := by decide +kernel
theorem dX1_add_10 : decode cX1_add 10 = .ok (.ireturn, 1) := by decide +kernel
theorem dX1_add_11 : decode cX1_add 11 = .ok (.aload_n 0, 1) := by decide +kernel
theorem dX1_add_12 : decode cX1_add 12 = .ok (.getfield 9, 3) := by decide +kernel
theorem dX1_add_15 : decode cX1_add 15 = .ok (.aload_n 0, 1) := by decide +kernel
theorem dX1_add_16 : decode cX1_add 16 = .ok (.getfield 34, 3) := by decide +kernel
theorem dX1_add_19 : decode cX1_add 19 = .ok (.iload_n 1, 1) := by decide +kernel
theorem dX1_add_20 : decode cX1_add 20 = .ok (.iastore, 1) := by decide +kernel
theorem dX1_add_21 : decode cX1_add 21 = .ok (.aload_n 0, 1) := by decide +kernel
theorem dX1_add_22 : decode cX1_add 22 = .ok (.getfield 15, 3) := by decide +kernel
theorem dX1_add_25 : decode cX1_add 25 = .ok (.aload_n 0, 1) := by decide +kernel
theorem dX1_add_26 : decode cX1_add 26 = .ok (.getfield 34, 3) := by decide +kernel
theorem dX1_add_29 : decode cX1_add 29 = .ok (.iload_n 2, 1) := by decide +kernel
theorem dX1_add_30 : decode cX1_add 30 = .ok (.iastore, 1) := by decide +kernel
theorem dX1_add_31 : decode cX1_add 31 = .ok (.aload_n 0, 1) := by decide +kernel
theorem dX1_add_32 : decode cX1_add 32 = .ok (.getfield 18, 3) := by decide +kernel
theorem dX1_add_35 : decode cX1_add 35 = .ok (.aload_n 0, 1) := by decide +kernel
theorem dX1_add_36 : decode cX1_add 36 = .ok (.getfield 34, 3) := by decide +kernel
theorem dX1_add_39 : decode cX1_add 39 = .ok (.iload_n 3, 1) := by decide +kernel
theorem dX1_add_40 : decode cX1_add 40 = .ok (.iastore, 1) := by decide +kernel
theorem dX1_add_41 : decode cX1_add 41 = .ok (.aload_n 0, 1) := by decide +kernel
theorem dX1_add_42 : decode cX1_add 42 = .ok (.dup, 1) := by decide +kernel
theorem dX1_add_43 : decode cX1_add 43 = .ok (.getfield 34, 3) := by decide +kernel
theorem dX1_add_46 : decode cX1_add 46 = .ok (.iconst 1, 1) := by decide +kernel
theorem dX1_add_47 : decode cX1_add 47 = .ok (.iadd, 1) := by decide +kernel
theorem dX1_add_48 : decode cX1_add 48 = .ok (.putfield 34, 3) := by decide +kernel
theorem dX1_add_51 : decode cX1_add 51 = .ok (.iconst 1, 1) := by decide +kernel
theorem dX1_add_52 : decode cX1_add 52 = .ok (.ireturn, 1) := by decide +kernel
theorem dX1_findPossible_0 : decode cX1_findPossible 0 = .ok (.aload_n 0, 1) := by decide +kernel
theorem dX1_findPossible_1 : decode cX1_findPossible 1 = .ok (.getfield 30, 3) := by decide +kernel
theorem dX1_findPossible_4 : decode cX1_findPossible 4 = .ok (.aload_n 1, 1) := by decide +kernel
theorem dX1_findPossible_5 : decode cX1_findPossible 5 = .ok (.invokevirtual 38, 3) := by decide +kernel
theorem dX1_findPossible_8 : decode cX1_findPossible 8 = .ok (.aload_n 0, 1) := by decide +kernel
theorem dX1_findPossible_9 : decode cX1_findPossible 9 = .ok (.iconst 0, 1) := by decide +kernel
theorem dX1_findPossible_10 : decode cX1_findPossible 10 = .ok (.putfield 44, 3) := by decide +kernel
theorem dX1_findPossible_13 : decode cX1_findPossible 13 = .ok (.iconst 1, 1) := by decide +kernel
theorem dX1_findPossible_14 : decode cX1_findPossible 14 = .ok (.istore_n 2, 1) := by decide +kernel
theorem dX1_findPossible_15 : decode cX1_findPossible 15 = .ok (.iload_n 2, 1) := by decide +kernel
theorem dX1_findPossible_16 : decode cX1_findPossible 16 = .ok (.bipush 9, 2) := by decide +kernel
theorem dX1_findPossible_18 : decode cX1_findPossible 18 = .ok (.if_icmp .gt 61, 3) := by decide +kernel
theorem dX1_findPossible_21 : decode cX1_findPossible 21 = .ok (.iconst 0, 1) := by decide +kernel
theorem dX1_findPossible_22 : decode cX1_findPossible 22 = .ok (.istore_n 3, 1) := by decide +kernel
theorem dX1_findPossible_23 : decode cX1_findPossible 23 = .ok (.iload_n 3, 1) := by decide +kernel
theorem dX1_findPossible_24 : decode cX1_findPossible 24 = .ok (.iconst 3, 1) := by decide +kernel
theorem dX1_findPossible_25 : decode cX1_findPossible 25 = .ok (.if_icmp .gt 48, 3) := by decide +kernel
theorem dX1_findPossible_28 : decode cX1_findPossible 28 = .ok (.aload_n 0, 1) := by decide +kernel
theorem dX1_findPossible_29 : decode cX1_findPossible 29 = .ok (.iload_n 2, 1) := by decide +kernel
theorem dX1_findPossible_30 : decode cX1_findPossible 30 = .ok (.iload_n 3, 1) := by decide +kernel
theorem dX1_findPossible_31 : decode cX1_findPossible 31 = .ok (.invokevirtual 47, 3) := by decide +kernel
theorem dX1_findPossible_34 : decode cX1_findPossible 34 = .ok (.ifCond .eq 33, 3) := by decide +kernel
theorem dX1_findPossible_37 : decode cX1_findPossible 37 = .ok (.aload_n 0, 1) := by decide +kernel
theorem dX1_findPossible_38 : decode cX1_findPossible 38 = .ok (.getfield 21, 3) := by decide +kernel
theorem dX1_findPossible_41 : decode cX1_findPossible 41 = .ok (.aload_n 0, 1) := by decide +kernel
theorem dX1_findPossible_42 : decode cX1_findPossible 42 = .ok (.getfield 44, 3) := by decide +kernel
theorem dX1_findPossible_45 : decode cX1_findPossible 45 = .ok (.iload_n 2, 1) := by decide +kernel
theorem dX1_findPossible_46 : decode cX1_findPossible 46 = .ok (.iastore, 1) := by decide +kernel
theorem dX1_findPossible_47 : decode cX1_findPossible 47 = .ok (.aload_n 0, 1) := by decide +kernel
theorem dX1_findPossible_48 : decode cX1_findPossible 48 = .ok (.getfield 24, 3) := by decide +kernel
theorem dX1_findPossible_51 : decode cX1_findPossible 51 = .ok (.aload_n 0, 1) := by decide +kernel
theorem dX1_findPossible_52 : decode cX1_findPossible 52 = .ok (.getfield 44, 3) := by decide +kernel
theorem dX1_findPossible_55 : decode cX1_findPossible 55 = .ok (.iload_n 3, 1) := by decide +kernel
theorem dX1_findPossible_56 : decode cX1_findPossible 56 = .ok (.iastore, 1) := by decide +kernel
theorem dX1_findPossible_57 : decode cX1_findPossible 57 = .ok (.aload_n 0, 1) := by decide +kernel
theorem dX1_findPossible_58 : decode cX1_findPossible 58 = .ok (.dup, 1) := by decide +kernel
theorem dX1_findPossible_59 : decode cX1_findPossible 59 = .ok (.getfield 44, 3) := by decide +kernel
theorem dX1_findPossible_62 : decode cX1_findPossible 62 = .ok (.iconst 1, 1) := by decide +kernel
theorem dX1_findPossible_63 : decode cX1_findPossible 63 = .ok (.iadd, 1) := by decide +kernel
theorem dX1_findPossible_64 : decode cX1_findPossible 64 = .ok (.putfield 44, 3) := by decide +kernel
theorem dX1_findPossible_67 : decode cX1_findPossible 67 = .ok (.iinc 3 1, 3) := by decide +kernel
theorem dX1_findPossible_70 : decode cX1_findPossible 70 = .ok (.goto (-47), 3) := by decide +kernel
theorem dX1_findPossible_73 : decode cX1_findPossible 73 = .ok (.iinc 2 1, 3) := by decide +kernel
theorem dX1_findPossible_76 : decode cX1_findPossible 76 = .ok (.goto (-61), 3) := by decide +kernel
theorem dX1_findPossible_79 : decode cX1_findPossible 79 = .ok (.return_, 1) := by decide +kernel
theorem dX1_explains_0 : decode cX1_explains 0 = .ok (.aload_n 0, 1) := by decide +kernel
theorem dX1_explains_1 : decode cX1_explains 1 = .ok (.getfield 30, 3) := by decide +kernel
theorem dX1_explains_4 : decode cX1_explains 4 = .ok (.iload_n 1, 1) := by decide +kernel
theorem dX1_explains_5 : decode cX1_explains 5 = .ok (.putfield 51, 3) := by decide +kernel
theorem dX1_explains_8 : decode cX1_explains 8 = .ok (.aload_n 0, 1) := by decide +kernel
theorem dX1_explains_9 : decode cX1_explains 9 = .ok (.getfield 30, 3) := by decide +kernel
theorem dX1_explains_12 : decode cX1_explains 12 = .ok (.iload_n 2, 1) := by decide +kernel
theorem dX1_explains_13 : decode cX1_explains 13 = .ok (.putfield 54, 3) := by decide +kernel
theorem dX1_explains_16 : decode cX1_explains 16 = .ok (.iconst 0, 1) := by decide +kernel
theorem dX1_explains_17 : decode cX1_explains 17 = .ok (.istore_n 3, 1) := by decide +kernel
theorem dX1_explains_18 : decode cX1_explains 18 = .ok (.iload_n 3, 1) := by decide +kernel
theorem dX1_explains_19 : decode cX1_explains 19 = .ok (.aload_n 0, 1) := by decide +kernel
theorem dX1_explains_20 : decode cX1_explains 20 = .ok (.getfield 34, 3) := by decide +kernel
theorem dX1_explains_23 : decode cX1_explains 23 = .ok (.if_icmp .ge 39, 3) := by decide +kernel
theorem dX1_explains_26 : decode cX1_explains 26 = .ok (.aload_n 0, 1) := by decide +kernel
theorem dX1_explains_27 : decode cX1_explains 27 = .ok (.getfield 30, 3) := by decide +kernel
theorem dX1_explains_30 : decode cX1_explains 30 = .ok (.aload_n 0, 1) := by decide +kernel
theorem dX1_explains_31 : decode cX1_explains 31 = .ok (.getfield 9, 3) := by decide +kernel
theorem dX1_explains_34 : decode cX1_explains 34 = .ok (.iload_n 3, 1) := by decide +kernel
theorem dX1_explains_35 : decode cX1_explains 35 = .ok (.iaload, 1) := by decide +kernel
theorem dX1_explains_36 : decode cX1_explains 36 = .ok (.aload_n 0, 1) := by decide +kernel
theorem dX1_explains_37 : decode cX1_explains 37 = .ok (.getfield 15, 3) := by decide +kernel
theorem dX1_explains_40 : decode cX1_explains 40 = .ok (.iload_n 3, 1) := by decide +kernel
theorem dX1_explains_41 : decode cX1_explains 41 = .ok (.iaload, 1) := by decide +kernel
theorem dX1_explains_42 : decode cX1_explains 42 = .ok (.invokevirtual 57, 3) := by decide +kernel
theorem dX1_explains_45 : decode cX1_explains 45 = .ok (.aload_n 0, 1) := by decide +kernel
theorem dX1_explains_46 : decode cX1_explains 46 = .ok (.getfield 18, 3) := by decide +kernel
theorem dX1_explains_49 : decode cX1_explains 49 = .ok (.iload_n 3, 1) := by decide +kernel
theorem dX1_explains_50 : decode cX1_explains 50 = .ok (.iaload, 1) := by decide +kernel
theorem dX1_explains_51 : decode cX1_explains 51 = .ok (.if_icmp .eq 5, 3) := by decide +kernel
theorem dX1_explains_54 : decode cX1_explains 54 = .ok (.iconst 0, 1) := by decide +kernel
theorem dX1_explains_55 : decode cX1_explains 55 = .ok (.ireturn, 1) := by decide +kernel
theorem dX1_explains_56 : decode cX1_explains 56 = .ok (.iinc 3 1, 3) := by decide +kernel
theorem dX1_explains_59 : decode cX1_explains 59 = .ok (.goto (-41), 3) := by decide +kernel
theorem dX1_explains_62 : decode cX1_explains 62 = .ok (.iconst 1, 1) := by decide +kernel
theorem dX1_explains_63 : decode cX1_explains 63 = .ok (.ireturn, 1) := by decide +kernel
theorem dX1_bestTry_0 : decode cX1_bestTry 0 = .ok (.aload_n 0, 1) := by decide +kernel
theorem dX1_bestTry_1 : decode cX1_bestTry 1 = .ok (.getfield 44, 3) := by decide +kernel
theorem dX1_bestTry_4 : decode cX1_bestTry 4 = .ok (.iconst 1, 1) := by decide +kernel
theorem dX1_bestTry_5 : decode cX1_bestTry 5 = .ok (.if_icmp .gt 6, 3) := by decide +kernel
theorem dX1_bestTry_8 : decode cX1_bestTry 8 = .ok (.bipush (-9), 2) := by decide +kernel
theorem dX1_bestTry_10 : decode cX1_bestTry 10 = .ok (.ireturn, 1) := by decide +kernel
theorem dX1_bestTry_11 : decode cX1_bestTry 11 = .ok (.bipush (-9), 2) := by decide +kernel
theorem dX1_bestTry_13 : decode cX1_bestTry 13 = .ok (.istore_n 2, 1) := by decide +kernel
theorem dX1_bestTry_14 : decode cX1_bestTry 14 = .ok (.aload_n 0, 1) := by decide +kernel
theorem dX1_bestTry_15 : decode cX1_bestTry 15 = .ok (.getfield 44, 3) := by decide +kernel
theorem dX1_bestTry_18 : decode cX1_bestTry 18 = .ok (.iconst 1, 1) := by decide +kernel
theorem dX1_bestTry_19 : decode cX1_bestTry 19 = .ok (.iadd, 1) := by decide +kernel
theorem dX1_bestTry_20 : decode cX1_bestTry 20 = .ok (.istore_n 3, 1) := by decide +kernel
theorem dX1_bestTry_21 : decode cX1_bestTry 21 = .ok (.iconst 1, 1) := by decide +kernel
theorem dX1_bestTry_22 : decode cX1_bestTry 22 = .ok (.istore 4, 2) := by decide +kernel
theorem dX1_bestTry_24 : decode cX1_bestTry 24 = .ok (.iload 4, 2) := by decide +kernel
theorem dX1_bestTry_26 : decode cX1_bestTry 26 = .ok (.bipush 60, 2) := by decide +kernel
theorem dX1_bestTry_28 : decode cX1_bestTry 28 = .ok (.if_icmp .gt 30, 3) := by decide +kernel
theorem dX1_bestTry_31 : decode cX1_bestTry 31 = .ok (.aload_n 0, 1) := by decide +kernel
theorem dX1_bestTry_32 : decode cX1_bestTry 32 = .ok (.iload_n 1, 1) := by decide +kernel
theorem dX1_bestTry_33 : decode cX1_bestTry 33 = .ok (.iload 4, 2) := by decide +kernel
theorem dX1_bestTry_35 : decode cX1_bestTry 35 = .ok (.invokevirtual 61, 3) := by decide +kernel
theorem dX1_bestTry_38 : decode cX1_bestTry 38 = .ok (.istore 5, 2) := by decide +kernel
theorem dX1_bestTry_40 : decode cX1_bestTry 40 = .ok (.iload 5, 2) := by decide +kernel
theorem dX1_bestTry_42 : decode cX1_bestTry 42 = .ok (.iload_n 3, 1) := by decide +kernel
theorem dX1_bestTry_43 : decode cX1_bestTry 43 = .ok (.if_icmp .ge 9, 3) := by decide +kernel
theorem dX1_bestTry_46 : decode cX1_bestTry 46 = .ok (.iload 5, 2) := by decide +kernel
theorem dX1_bestTry_48 : decode cX1_bestTry 48 = .ok (.istore_n 3, 1) := by decide +kernel
theorem dX1_bestTry_49 : decode cX1_bestTry 49 = .ok (.iload 4, 2) := by decide +kernel
theorem dX1_bestTry_51 : decode cX1_bestTry 51 = .ok (.istore_n 2, 1) := by decide +kernel
theorem dX1_bestTry_52 : decode cX1_bestTry 52 = .ok (.iinc 4 1, 3) := by decide +kernel
theorem dX1_bestTry_55 : decode cX1_bestTry 55 = .ok (.goto (-31), 3) := by decide +kernel
theorem dX1_bestTry_58 : decode cX1_bestTry 58 = .ok (.iload_n 2, 1) := by decide +kernel
theorem dX1_bestTry_59 : decode cX1_bestTry 59 = .ok (.ireturn, 1) := by decide +kernel
theorem dX1_mostAtOnePlace_0 : decode cX1_mostAtOnePlace 0 = .ok (.aload_n 0, 1) := by decide +kernel
theorem dX1_mostAtOnePlace_1 : decode cX1_mostAtOnePlace 1 = .ok (.getfield 27, 3) := by decide +kernel
theorem dX1_mostAtOnePlace_4 : decode cX1_mostAtOnePlace 4 = .ok (.iconst 0, 1) := by decide +kernel
theorem dX1_mostAtOnePlace_5 : decode cX1_mostAtOnePlace 5 = .ok (.invokestatic 64, 3) := by decide +kernel
theorem dX1_mostAtOnePlace_8 : decode cX1_mostAtOnePlace 8 = .ok (.iconst 0, 1) := by decide +kernel
theorem dX1_mostAtOnePlace_9 : decode cX1_mostAtOnePlace 9 = .ok (.istore_n 3, 1) := by decide +kernel
theorem dX1_mostAtOnePlace_10 : decode cX1_mostAtOnePlace 10 = .ok (.iconst 0, 1) := by decide +kernel
theorem dX1_mostAtOnePlace_11 : decode cX1_mostAtOnePlace 11 = .ok (.istore 4, 2) := by decide +kernel
theorem dX1_mostAtOnePlace_13 : decode cX1_mostAtOnePlace 13 = .ok (.iload 4, 2) := by decide +kernel
theorem dX1_mostAtOnePlace_15 : decode cX1_mostAtOnePlace 15 = .ok (.aload_n 0, 1) := by decide +kernel
theorem dX1_mostAtOnePlace_16 : decode cX1_mostAtOnePlace 16 = .ok (.getfield 44, 3) := by decide +kernel
theorem dX1_mostAtOnePlace_19 : decode cX1_mostAtOnePlace 19 = .ok (.if_icmp .ge 71, 3) := by decide +kernel
theorem dX1_mostAtOnePlace_22 : decode cX1_mostAtOnePlace 22 = .ok (.aload_n 0, 1) := by decide +kernel
theorem dX1_mostAtOnePlace_23 : decode cX1_mostAtOnePlace 23 = .ok (.getfield 30, 3) := by decide +kernel
theorem dX1_mostAtOnePlace_26 : decode cX1_mostAtOnePlace 26 = .ok (.aload_n 0, 1) := by decide +kernel
theorem dX1_mostAtOnePlace_27 : decode cX1_mostAtOnePlace 27 = .ok (.getfield 21, 3) := by decide +kernel
theorem dX1_mostAtOnePlace_30 : decode cX1_mostAtOnePlace 30 = .ok (.iload 4, 2) := by decide +kernel
theorem dX1_mostAtOnePlace_32 : decode cX1_mostAtOnePlace 32 = .ok (.iaload, 1) := by decide +kernel
theorem dX1_mostAtOnePlace_33 : decode cX1_mostAtOnePlace 33 = .ok (.putfield 51, 3) := by decide +kernel
theorem dX1_mostAtOnePlace_36 : decode cX1_mostAtOnePlace 36 = .ok (.aload_n 0, 1) := by decide +kernel
theorem dX1_mostAtOnePlace_37 : decode cX1_mostAtOnePlace 37 = .ok (.getfield 30, 3) := by decide +kernel
theorem dX1_mostAtOnePlace_40 : decode cX1_mostAtOnePlace 40 = .ok (.aload_n 0, 1) := by decide +kernel
theorem dX1_mostAtOnePlace_41 : decode cX1_mostAtOnePlace 41 = .ok (.getfield 24, 3) := by decide +kernel
theorem dX1_mostAtOnePlace_44 : decode cX1_mostAtOnePlace 44 = .ok (.iload 4, 2) := by decide +kernel
theorem dX1_mostAtOnePlace_46 : decode cX1_mostAtOnePlace 46 = .ok (.iaload, 1) := by decide +kernel
theorem dX1_mostAtOnePlace_47 : decode cX1_mostAtOnePlace 47 = .ok (.putfield 54, 3) := by decide +kernel
theorem dX1_mostAtOnePlace_50 : decode cX1_mostAtOnePlace 50 = .ok (.aload_n 0, 1) := by decide +kernel
theorem dX1_mostAtOnePlace_51 : decode cX1_mostAtOnePlace 51 = .ok (.getfield 30, 3) := by decide +kernel
theorem dX1_mostAtOnePlace_54 : decode cX1_mostAtOnePlace 54 = .ok (.iload_n 1, 1) := by decide +kernel
theorem dX1_mostAtOnePlace_55 : decode cX1_mostAtOnePlace 55 = .ok (.iload_n 2, 1) := by decide +kernel
theorem dX1_mostAtOnePlace_56 : decode cX1_mostAtOnePlace 56 = .ok (.invokevirtual 57, 3) := by decide +kernel
theorem dX1_mostAtOnePlace_59 : decode cX1_mostAtOnePlace 59 = .ok (.istore 5, 2) := by decide +kernel
theorem dX1_mostAtOnePlace_61 : decode cX1_mostAtOnePlace 61 = .ok (.aload_n 0, 1) := by decide +kernel
theorem dX1_mostAtOnePlace_62 : decode cX1_mostAtOnePlace 62 = .ok (.getfield 27, 3) := by decide +kernel
theorem dX1_mostAtOnePlace_65 : decode cX1_mostAtOnePlace 65 = .ok (.iload 5, 2) := by decide +kernel
theorem dX1_mostAtOnePlace_67 : decode cX1_mostAtOnePlace 67 = .ok (.dup2, 1) := by decide +kernel
theorem dX1_mostAtOnePlace_68 : decode cX1_mostAtOnePlace 68 = .ok (.iaload, 1) := by decide +kernel
theorem dX1_mostAtOnePlace_69 : decode cX1_mostAtOnePlace 69 = .ok (.iconst 1, 1) := by decide +kernel
theorem dX1_mostAtOnePlace_70 : decode cX1_mostAtOnePlace 70 = .ok (.iadd, 1) := by decide +kernel
theorem dX1_mostAtOnePlace_71 : decode cX1_mostAtOnePlace 71 = .ok (.iastore, 1) := by decide +kernel
theorem dX1_mostAtOnePlace_72 : decode cX1_mostAtOnePlace 72 = .ok (.iload_n 3, 1) := by decide +kernel
theorem dX1_mostAtOnePlace_73 : decode cX1_mostAtOnePlace 73 = .ok (.aload_n 0, 1) := by decide +kernel
theorem dX1_mostAtOnePlace_74 : decode cX1_mostAtOnePlace 74 = .ok (.getfield 27, 3) := by decide +kernel
theorem dX1_mostAtOnePlace_77 : decode cX1_mostAtOnePlace 77 = .ok (.iload 5, 2) := by decide +kernel
theorem dX1_mostAtOnePlace_79 : decode cX1_mostAtOnePlace 79 = .ok (.iaload, 1) := by decide +kernel
theorem dX1_mostAtOnePlace_80 : decode cX1_mostAtOnePlace 80 = .ok (.invokestatic 70, 3) := by decide +kernel
theorem dX1_mostAtOnePlace_83 : decode cX1_mostAtOnePlace 83 = .ok (.istore_n 3, 1) := by decide +kernel
theorem dX1_mostAtOnePlace_84 : decode cX1_mostAtOnePlace 84 = .ok (.iinc 4 1, 3) := by decide +kernel
theorem dX1_mostAtOnePlace_87 : decode cX1_mostAtOnePlace 87 = .ok (.goto (-74), 3) := by decide +kernel
theorem dX1_mostAtOnePlace_90 : decode cX1_mostAtOnePlace 90 = .ok (.iload_n 3, 1) := by decide +kernel
theorem dX1_mostAtOnePlace_91 : decode cX1_mostAtOnePlace 91 = .ok (.ireturn, 1) := by decide +kernel
theorem dX2_init_0 : decode cX2_init 0 = .ok (.aload_n 0, 1) := by decide +kernel
theorem dX2_init_1 : decode cX2_init 1 = .ok (.invokespecial 3, 3) := by decide +kernel
theorem dX2_init_4 : decode cX2_init 4 = .ok (.aload_n 0, 1) := by decide +kernel
theorem dX2_init_5 : decode cX2_init 5 = .ok (.bipush 10, 2) := by decide +kernel
theorem dX2_init_7 : decode cX2_init 7 = .ok (.anewarray 9, 3) := by decide +kernel
theorem dX2_init_10 : decode cX2_init 10 = .ok (.putfield 11, 3) := by decide +kernel
theorem dX2_init_13 : decode cX2_init 13 = .ok (.iconst 0, 1) := by decide +kernel
theorem dX2_init_14 : decode cX2_init 14 = .ok (.istore_n 1, 1) := by decide +kernel
theorem dX2_init_15 : decode cX2_init 15 = .ok (.iload_n 1, 1) := by decide +kernel
theorem dX2_init_16 : decode cX2_init 16 = .ok (.bipush 10, 2) := by decide +kernel
theorem dX2_init_18 : decode cX2_init 18 = .ok (.if_icmp .ge 22, 3) := by decide +kernel
theorem dX2_init_21 : decode cX2_init 21 = .ok (.aload_n 0, 1) := by decide +kernel
theorem dX2_init_22 : decode cX2_init 22 = .ok (.getfield 11, 3) := by decide +kernel
theorem dX2_init_25 : decode cX2_init 25 = .ok (.iload_n 1, 1) := by decide +kernel
theorem dX2_init_26 : decode cX2_init 26 = .ok (.new 9, 3) := by decide +kernel
theorem dX2_init_29 : decode cX2_init 29 = .ok (.dup, 1) := by decide +kernel
theorem dX2_init_30 : decode cX2_init 30 = .ok (.invokespecial 17, 3) := by decide +kernel
theorem dX2_init_33 : decode cX2_init 33 = .ok (.aastore, 1) := by decide +kernel
theorem dX2_init_34 : decode cX2_init 34 = .ok (.iinc 1 1, 3) := by decide +kernel
theorem dX2_init_37 : decode cX2_init 37 = .ok (.goto (-22), 3) := by decide +kernel
theorem dX2_init_40 : decode cX2_init 40 = .ok (.return_, 1) := by decide +kernel
theorem dX2_remember_0 : decode cX2_remember 0 = .ok (.aload_n 0, 1) := by decide +kernel
theorem dX2_remember_1 : decode cX2_remember 1 = .ok (.getfield 11, 3) := by decide +kernel
theorem dX2_remember_4 : decode cX2_remember 4 = .ok (.aload_n 0, 1) := by decide +kernel
theorem dX2_remember_5 : decode cX2_remember 5 = .ok (.getfield 18, 3) := by decide +kernel
theorem dX2_remember_8 : decode cX2_remember 8 = .ok (.aaload, 1) := by decide +kernel
theorem dX2_remember_9 : decode cX2_remember 9 = .ok (.aload_n 1, 1) := by decide +kernel
theorem dX2_remember_10 : decode cX2_remember 10 = .ok (.invokevirtual 22, 3) := by decide +kernel
theorem dX2_remember_13 : decode cX2_remember 13 = .ok (.aload_n 0, 1) := by decide +kernel
theorem dX2_remember_14 : decode cX2_remember 14 = .ok (.aload_n 0, 1) := by decide +kernel
theorem dX2_remember_15 : decode cX2_remember 15 = .ok (.getfield 18, 3) := by decide +kernel
theorem dX2_remember_18 : decode cX2_remember 18 = .ok (.iconst 1, 1) := by decide +kernel
theorem dX2_remember_19 : decode cX2_remember 19 = .ok (.iadd, 1) := by decide +kernel
theorem dX2_remember_20 : decode cX2_remember 20 = .ok (.bipush 10, 2) := by decide +kernel
theorem dX2_remember_22 : decode cX2_remember 22 = .ok (.irem, 1) := by decide +kernel
theorem dX2_remember_23 : decode cX2_remember 23 = .ok (.putfield 18, 3) := by decide +kernel
theorem dX2_remember_26 : decode cX2_remember 26 = .ok (.aload_n 0, 1) := by decide +kernel
theorem dX2_remember_27 : decode cX2_remember 27 = .ok (.bipush 10, 2) := by decide +kernel
theorem dX2_remember_29 : decode cX2_remember 29 = .ok (.aload_n 0, 1) := by decide +kernel
theorem dX2_remember_30 : decode cX2_remember 30 = .ok (.getfield 26, 3) := by decide +kernel
theorem dX2_remember_33 : decode cX2_remember 33 = .ok (.iconst 1, 1) := by decide +kernel
theorem dX2_remember_34 : decode cX2_remember 34 = .ok (.iadd, 1) := by decide +kernel
theorem dX2_remember_35 : decode cX2_remember 35 = .ok (.invokestatic 29, 3) := by decide +kernel
theorem dX2_remember_38 : decode cX2_remember 38 = .ok (.putfield 26, 3) := by decide +kernel
theorem dX2_remember_41 : decode cX2_remember 41 = .ok (.return_, 1) := by decide +kernel
theorem dX2_restore_0 : decode cX2_restore 0 = .ok (.aload_n 0, 1) := by decide +kernel
theorem dX2_restore_1 : decode cX2_restore 1 = .ok (.getfield 26, 3) := by decide +kernel
theorem dX2_restore_4 : decode cX2_restore 4 = .ok (.ifCond .ne 5, 3) := by decide +kernel
theorem dX2_restore_7 : decode cX2_restore 7 = .ok (.iconst 0, 1) := by decide +kernel
theorem dX2_restore_8 : decode cX2_restore 8 = .ok (.ireturn, 1) := by decide +kernel
theorem dX2_restore_9 : decode cX2_restore 9 = .ok (.aload_n 0, 1) := by decide +kernel
theorem dX2_restore_10 : decode cX2_restore 10 = .ok (.aload_n 0, 1) := by decide +kernel
theorem dX2_restore_11 : decode cX2_restore 11 = .ok (.getfield 18, 3) := by decide +kernel
theorem dX2_restore_14 : decode cX2_restore 14 = .ok (.bipush 10, 2) := by decide +kernel
theorem dX2_restore_16 : decode cX2_restore 16 = .ok (.iadd, 1) := by decide +kernel
theorem dX2_restore_17 : decode cX2_restore 17 = .ok (.iconst 1, 1) := by decide +kernel
theorem dX2_restore_18 : decode cX2_restore 18 = .ok (.isub, 1) := by decide +kernel
theorem dX2_restore_19 : decode cX2_restore 19 = .ok (.bipush 10, 2) := by decide +kernel
theorem dX2_restore_21 : decode cX2_restore 21 = .ok (.irem, 1) := by decide +kernel
theorem dX2_restore_22 : decode cX2_restore 22 = .ok (.putfield 18, 3) := by decide +kernel
theorem dX2_restore_25 : decode cX2_restore 25 = .ok (.aload_n 1, 1) := by decide +kernel
theorem dX2_restore_26 : decode cX2_restore 26 = .ok (.aload_n 0, 1) := by decide +kernel
theorem dX2_restore_27 : decode cX2_restore 27 = .ok (.getfield 11, 3) := by decide +kernel
theorem dX2_restore_30 : decode cX2_restore 30 = .ok (.aload_n 0, 1) := by decide +kernel
theorem dX2_restore_31 : decode cX2_restore 31 = .ok (.getfield 18, 3) := by decide +kernel
theorem dX2_restore_34 : decode cX2_restore 34 = .ok (.aaload, 1) := by decide +kernel
theorem dX2_restore_35 : decode cX2_restore 35 = .ok (.invokevirtual 22, 3) := by decide +kernel
theorem dX2_restore_38 : decode cX2_restore 38 = .ok (.aload_n 0, 1) := by decide +kernel
theorem dX2_restore_39 : decode cX2_restore 39 = .ok (.dup, 1) := by decide +kernel
theorem dX2_restore_40 : decode cX2_restore 40 = .ok (.getfield 26, 3) := by decide +kernel
theorem dX2_restore_43 : decode cX2_restore 43 = .ok (.iconst 1, 1) := by decide +kernel
theorem dX2_restore_44 : decode cX2_restore 44 = .ok (.isub, 1) := by decide +kernel
theorem dX2_restore_45 : decode cX2_restore 45 = .ok (.putfield 26, 3) := by decide +kernel
theorem dX2_restore_48 : decode cX2_restore 48 = .ok (.iconst 1, 1) := by decide +kernel
theorem dX2_restore_49 : decode cX2_restore 49 = .ok (.ireturn, 1) := by decide +kernel
theorem dX3_init_0 : decode cX3_init 0 = .ok (.aload_n 0, 1) := by decide +kernel
theorem dX3_init_1 : decode cX3_init 1 = .ok (.invokespecial 3, 3) := by decide +kernel
theorem dX3_init_4 : decode cX3_init 4 = .ok (.aload_n 0, 1) := by decide +kernel
theorem dX3_init_5 : decode cX3_init 5 = .ok (.sipush 900, 3) := by decide +kernel
theorem dX3_init_8 : decode cX3_init 8 = .ok (.newarray .int, 2) := by decide +kernel
theorem dX3_init_10 : decode cX3_init 10 = .ok (.putfield 11, 3) := by decide +kernel
theorem dX3_init_13 : decode cX3_init 13 = .ok (.aload_n 0, 1) := by decide +kernel
theorem dX3_init_14 : decode cX3_init 14 = .ok (.aload_n 1, 1) := by decide +kernel
theorem dX3_init_15 : decode cX3_init 15 = .ok (.putfield 15, 3) := by decide +kernel
theorem dX3_init_18 : decode cX3_init 18 = .ok (.return_, 1) := by decide +kernel
theorem dX3_from_0 : decode cX3_from 0 = .ok (.aload_n 0, 1) := by decide +kernel
theorem dX3_from_1 : decode cX3_from 1 = .ok (.getfield 15, 3) := by decide +kernel
theorem dX3_from_4 : decode cX3_from 4 = .ok (.aload_n 1, 1) := by decide +kernel
theorem dX3_from_5 : decode cX3_from 5 = .ok (.invokevirtual 19, 3) := by decide +kernel
theorem dX3_from_8 : decode cX3_from 8 = .ok (.aload_n 0, 1) := by decide +kernel
theorem dX3_from_9 : decode cX3_from 9 = .ok (.getfield 11, 3) := by decide +kernel
theorem dX3_from_12 : decode cX3_from 12 = .ok (.iconst (-1), 1) := by decide +kernel
theorem dX3_from_13 : decode cX3_from 13 = .ok (.invokestatic 25, 3) := by decide +kernel
theorem dX3_from_16 : decode cX3_from 16 = .ok (.aload_n 0, 1) := by decide +kernel
theorem dX3_from_17 : decode cX3_from 17 = .ok (.aload_n 1, 1) := by decide +kernel
theorem dX3_from_18 : decode cX3_from 18 = .ok (.getfield 31, 3) := by decide +kernel
theorem dX3_from_21 : decode cX3_from 21 = .ok (.aload_n 1, 1) := by decide +kernel
theorem dX3_from_22 : decode cX3_from 22 = .ok (.getfield 37, 3) := by decide +kernel
theorem dX3_from_25 : decode cX3_from 25 = .ok (.invokevirtual 40, 3) := by decide +kernel
theorem dX3_from_28 : decode cX3_from 28 = .ok (.ireturn, 1) := by decide +kernel
theorem dX3_fewest_0 : decode cX3_fewest 0 = .ok (.aload_n 0, 1) := by decide +kernel
theorem dX3_fewest_1 : decode cX3_fewest 1 = .ok (.getfield 15, 3) := by decide +kernel
theorem dX3_fewest_4 : decode cX3_fewest 4 = .ok (.getfield 44, 3) := by decide +kernel
theorem dX3_fewest_7 : decode cX3_fewest 7 = .ok (.iload_n 1, 1) := by decide +kernel
theorem dX3_fewest_8 : decode cX3_fewest 8 = .ok (.invokevirtual 48, 3) := by decide +kernel
theorem dX3_fewest_11 : decode cX3_fewest 11 = .ok (.ifCond .ne 5, 3) := by decide +kernel
theorem dX3_fewest_14 : decode cX3_fewest 14 = .ok (.iconst 0, 1) := by decide +kernel
theorem dX3_fewest_15 : decode cX3_fewest 15 = .ok (.ireturn, 1) := by decide +kernel
theorem dX3_fewest_16 : decode cX3_fewest 16 = .ok (.iload_n 1, 1) := by decide +kernel
theorem dX3_fewest_17 : decode cX3_fewest 17 = .ok (.bipush 100, 2) := by decide +kernel
theorem dX3_fewest_19 : decode cX3_fewest 19 = .ok (.imul, 1) := by decide +kernel
theorem dX3_fewest_20 : decode cX3_fewest 20 = .ok (.iload_n 2, 1) := by decide +kernel
theorem dX3_fewest_21 : decode cX3_fewest 21 = .ok (.iadd, 1) := by decide +kernel
theorem dX3_fewest_22 : decode cX3_fewest 22 = .ok (.istore_n 3, 1) := by decide +kernel
theorem dX3_fewest_23 : decode cX3_fewest 23 = .ok (.aload_n 0, 1) := by decide +kernel
theorem dX3_fewest_24 : decode cX3_fewest 24 = .ok (.getfield 11, 3) := by decide +kernel
theorem dX3_fewest_27 : decode cX3_fewest 27 = .ok (.iload_n 3, 1) := by decide +kernel
theorem dX3_fewest_28 : decode cX3_fewest 28 = .ok (.iaload, 1) := by decide +kernel
theorem dX3_fewest_29 : decode cX3_fewest 29 = .ok (.iconst (-1), 1) := by decide +kernel
theorem dX3_fewest_30 : decode cX3_fewest 30 = .ok (.if_icmp .ne 15, 3) := by decide +kernel
theorem dX3_fewest_33 : decode cX3_fewest 33 = .ok (.aload_n 0, 1) := by decide +kernel
theorem dX3_fewest_34 : decode cX3_fewest 34 = .ok (.getfield 11, 3) := by decide +kernel
theorem dX3_fewest_37 : decode cX3_fewest 37 = .ok (.iload_n 3, 1) := by decide +kernel
theorem dX3_fewest_38 : decode cX3_fewest 38 = .ok (.aload_n 0, 1) := by decide +kernel
theorem dX3_fewest_39 : decode cX3_fewest 39 = .ok (.iload_n 1, 1) := by decide +kernel
theorem dX3_fewest_40 : decode cX3_fewest 40 = .ok (.iload_n 2, 1) := by decide +kernel
theorem dX3_fewest_41 : decode cX3_fewest 41 = .ok (.invokevirtual 54, 3) := by decide +kernel
theorem dX3_fewest_44 : decode cX3_fewest 44 = .ok (.iastore, 1) := by decide +kernel
theorem dX3_fewest_45 : decode cX3_fewest 45 = .ok (.aload_n 0, 1) := by decide +kernel
theorem dX3_fewest_46 : decode cX3_fewest 46 = .ok (.getfield 11, 3) := by decide +kernel
theorem dX3_fewest_49 : decode cX3_fewest 49 = .ok (.iload_n 3, 1) := by decide +kernel
theorem dX3_fewest_50 : decode cX3_fewest 50 = .ok (.iaload, 1) := by decide +kernel
theorem dX3_fewest_51 : decode cX3_fewest 51 = .ok (.ireturn, 1) := by decide +kernel
theorem dX3_search_0 : decode cX3_search 0 = .ok (.sipush 1000, 3) := by decide +kernel
theorem dX3_search_3 : decode cX3_search 3 = .ok (.istore_n 3, 1) := by decide +kernel
theorem dX3_search_4 : decode cX3_search 4 = .ok (.iconst 0, 1) := by decide +kernel
theorem dX3_search_5 : decode cX3_search 5 = .ok (.istore 4, 2) := by decide +kernel
theorem dX3_search_7 : decode cX3_search 7 = .ok (.iconst 0, 1) := by decide +kernel
theorem dX3_search_8 : decode cX3_search 8 = .ok (.istore 5, 2) := by decide +kernel
theorem dX3_search_10 : decode cX3_search 10 = .ok (.iload 5, 2) := by decide +kernel
theorem dX3_search_12 : decode cX3_search 12 = .ok (.bipush 9, 2) := by decide +kernel
theorem dX3_search_14 : decode cX3_search 14 = .ok (.if_icmp .gt 92, 3) := by decide +kernel
theorem dX3_search_17 : decode cX3_search 17 = .ok (.iload 5, 2) := by decide +kernel
theorem dX3_search_19 : decode cX3_search 19 = .ok (.iload_n 3, 1) := by decide +kernel
theorem dX3_search_20 : decode cX3_search 20 = .ok (.if_icmp .ge 86, 3) := by decide +kernel
theorem dX3_search_23 : decode cX3_search 23 = .ok (.iload_n 2, 1) := by decide +kernel
theorem dX3_search_24 : decode cX3_search 24 = .ok (.iload 5, 2) := by decide +kernel
theorem dX3_search_26 : decode cX3_search 26 = .ok (.iadd, 1) := by decide +kernel
theorem dX3_search_27 : decode cX3_search 27 = .ok (.invokestatic 57, 3) := by decide +kernel
theorem dX3_search_30 : decode cX3_search 30 = .ok (.istore 6, 2) := by decide +kernel
theorem dX3_search_32 : decode cX3_search 32 = .ok (.iload 6, 2) := by decide +kernel
theorem dX3_search_34 : decode cX3_search 34 = .ok (.aload_n 0, 1) := by decide +kernel
theorem dX3_search_35 : decode cX3_search 35 = .ok (.getfield 15, 3) := by decide +kernel
theorem dX3_search_38 : decode cX3_search 38 = .ok (.getfield 61, 3) := by decide +kernel
theorem dX3_search_41 : decode cX3_search 41 = .ok (.if_icmp .lt 59, 3) := by decide +kernel
theorem dX3_search_44 : decode cX3_search 44 = .ok (.aload_n 0, 1) := by decide +kernel
theorem dX3_search_45 : decode cX3_search 45 = .ok (.getfield 15, 3) := by decide +kernel
theorem dX3_search_48 : decode cX3_search 48 = .ok (.iload_n 1, 1) := by decide +kernel
theorem dX3_search_49 : decode cX3_search 49 = .ok (.iload 6, 2) := by decide +kernel
theorem dX3_search_51 : decode cX3_search 51 = .ok (.invokevirtual 64, 3) := by decide +kernel
theorem dX3_search_54 : decode cX3_search 54 = .ok (.aload_n 0, 1) := by decide +kernel
theorem dX3_search_55 : decode cX3_search 55 = .ok (.getfield 15, 3) := by decide +kernel
theorem dX3_search_58 : decode cX3_search 58 = .ok (.invokevirtual 68, 3) := by decide +kernel
theorem dX3_search_61 : decode cX3_search 61 = .ok (.iload 5, 2) := by decide +kernel
theorem dX3_search_63 : decode cX3_search 63 = .ok (.aload_n 0, 1) := by decide +kernel
theorem dX3_search_64 : decode cX3_search 64 = .ok (.aload_n 0, 1) := by decide +kernel
theorem dX3_search_65 : decode cX3_search 65 = .ok (.getfield 15, 3) := by decide +kernel
theorem dX3_search_68 : decode cX3_search 68 = .ok (.getfield 71, 3) := by decide +kernel
theorem dX3_search_71 : decode cX3_search 71 = .ok (.aload_n 0, 1) := by decide +kernel
theorem dX3_search_72 : decode cX3_search 72 = .ok (.getfield 15, 3) := by decide +kernel
theorem dX3_search_75 : decode cX3_search 75 = .ok (.getfield 72, 3) := by decide +kernel
theorem dX3_search_78 : decode cX3_search 78 = .ok (.invokevirtual 40, 3) := by decide +kernel
theorem dX3_search_81 : decode cX3_search 81 = .ok (.bipush 10, 2) := by decide +kernel
theorem dX3_search_83 : decode cX3_search 83 = .ok (.idiv, 1) := by decide +kernel
theorem dX3_search_84 : decode cX3_search 84 = .ok (.iadd, 1) := by decide +kernel
theorem dX3_search_85 : decode cX3_search 85 = .ok (.istore 7, 2) := by decide +kernel
theorem dX3_search_87 : decode cX3_search 87 = .ok (.iload 7, 2) := by decide +kernel
theorem dX3_search_89 : decode cX3_search 89 = .ok (.iload_n 3, 1) := by decide +kernel
theorem dX3_search_90 : decode cX3_search 90 = .ok (.if_icmp .ge 10, 3) := by decide +kernel
theorem dX3_search_93 : decode cX3_search 93 = .ok (.iload 7, 2) := by decide +kernel
theorem dX3_search_95 : decode cX3_search 95 = .ok (.istore_n 3, 1) := by decide +kernel
theorem dX3_search_96 : decode cX3_search 96 = .ok (.iload 5, 2) := by decide +kernel
theorem dX3_search_98 : decode cX3_search 98 = .ok (.istore 4, 2) := by decide +kernel
theorem dX3_search_100 : decode cX3_search 100 = .ok (.iinc 5 1, 3) := by decide +kernel
theorem dX3_search_103 : decode cX3_search 103 = .ok (.goto (-93), 3) := by decide +kernel
theorem dX3_search_106 : decode cX3_search 106 = .ok (.iload_n 3, 1) := by decide +kernel
theorem dX3_search_107 : decode cX3_search 107 = .ok (.iload 4, 2) := by decide +kernel
theorem dX3_search_109 : decode cX3_search 109 = .ok (.invokestatic 73, 3) := by decide +kernel
theorem dX3_search_112 : decode cX3_search 112 = .ok (.ireturn, 1) := by decide +kernel
theorem dX4_init_0 : decode cX4_init 0 = .ok (.aload_n 0, 1) := by decide +kernel
theorem dX4_init_1 : decode cX4_init 1 = .ok (.invokespecial 3, 3) := by decide +kernel
theorem dX4_init_4 : decode cX4_init 4 = .ok (.aload_n 0, 1) := by decide +kernel
theorem dX4_init_5 : decode cX4_init 5 = .ok (.bipush 9, 2) := by decide +kernel
theorem dX4_init_7 : decode cX4_init 7 = .ok (.newarray .int, 2) := by decide +kernel
theorem dX4_init_9 : decode cX4_init 9 = .ok (.putfield 9, 3) := by decide +kernel
theorem dX4_init_12 : decode cX4_init 12 = .ok (.return_, 1) := by decide +kernel
theorem dX4_begin_0 : decode cX4_begin 0 = .ok (.aload_n 1, 1) := by decide +kernel
theorem dX4_begin_1 : decode cX4_begin 1 = .ok (.getfield 15, 3) := by decide +kernel
theorem dX4_begin_4 : decode cX4_begin 4 = .ok (.iconst 0, 1) := by decide +kernel
theorem dX4_begin_5 : decode cX4_begin 5 = .ok (.aload_n 0, 1) := by decide +kernel
theorem dX4_begin_6 : decode cX4_begin 6 = .ok (.getfield 9, 3) := by decide +kernel
theorem dX4_begin_9 : decode cX4_begin 9 = .ok (.iconst 0, 1) := by decide +kernel
theorem dX4_begin_10 : decode cX4_begin 10 = .ok (.bipush 9, 2) := by decide +kernel
theorem dX4_begin_12 : decode cX4_begin 12 = .ok (.invokestatic 18, 3) := by decide +kernel
theorem dX4_begin_15 : decode cX4_begin 15 = .ok (.aload_n 0, 1) := by decide +kernel
theorem dX4_begin_16 : decode cX4_begin 16 = .ok (.iconst 0, 1) := by decide +kernel
theorem dX4_begin_17 : decode cX4_begin 17 = .ok (.putfield 24, 3) := by decide +kernel
theorem dX4_begin_20 : decode cX4_begin 20 = .ok (.aload_n 0, 1) := by decide +kernel
theorem dX4_begin_21 : decode cX4_begin 21 = .ok (.iconst 0, 1) := by decide +kernel
theorem dX4_begin_22 : decode cX4_begin 22 = .ok (.putfield 28, 3) := by decide +kernel
theorem dX4_begin_25 : decode cX4_begin 25 = .ok (.aload_n 0, 1) := by decide +kernel
theorem dX4_begin_26 : decode cX4_begin 26 = .ok (.iconst 0, 1) := by decide +kernel
theorem dX4_begin_27 : decode cX4_begin 27 = .ok (.putfield 31, 3) := by decide +kernel
theorem dX4_begin_30 : decode cX4_begin 30 = .ok (.return_, 1) := by decide +kernel
theorem dX4_copy_0 : decode cX4_copy 0 = .ok (.aload_n 1, 1) := by decide +kernel
theorem dX4_copy_1 : decode cX4_copy 1 = .ok (.getfield 9, 3) := by decide +kernel
theorem dX4_copy_4 : decode cX4_copy 4 = .ok (.iconst 0, 1) := by decide +kernel
theorem dX4_copy_5 : decode cX4_copy 5 = .ok (.aload_n 0, 1) := by decide +kernel
theorem dX4_copy_6 : decode cX4_copy 6 = .ok (.getfield 9, 3) := by decide +kernel
theorem dX4_copy_9 : decode cX4_copy 9 = .ok (.iconst 0, 1) := by decide +kernel
theorem dX4_copy_10 : decode cX4_copy 10 = .ok (.bipush 9, 2) := by decide +kernel
theorem dX4_copy_12 : decode cX4_copy 12 = .ok (.invokestatic 18, 3) := by decide +kernel
theorem dX4_copy_15 : decode cX4_copy 15 = .ok (.aload_n 0, 1) := by decide +kernel
theorem dX4_copy_16 : decode cX4_copy 16 = .ok (.aload_n 1, 1) := by decide +kernel
theorem dX4_copy_17 : decode cX4_copy 17 = .ok (.getfield 24, 3) := by decide +kernel
theorem dX4_copy_20 : decode cX4_copy 20 = .ok (.putfield 24, 3) := by decide +kernel
theorem dX4_copy_23 : decode cX4_copy 23 = .ok (.aload_n 0, 1) := by decide +kernel
theorem dX4_copy_24 : decode cX4_copy 24 = .ok (.aload_n 1, 1) := by decide +kernel
theorem dX4_copy_25 : decode cX4_copy 25 = .ok (.getfield 28, 3) := by decide +kernel
theorem dX4_copy_28 : decode cX4_copy 28 = .ok (.putfield 28, 3) := by decide +kernel
theorem dX4_copy_31 : decode cX4_copy 31 = .ok (.aload_n 0, 1) := by decide +kernel
theorem dX4_copy_32 : decode cX4_copy 32 = .ok (.aload_n 1, 1) := by decide +kernel
theorem dX4_copy_33 : decode cX4_copy 33 = .ok (.getfield 31, 3) := by decide +kernel
theorem dX4_copy_36 : decode cX4_copy 36 = .ok (.putfield 31, 3) := by decide +kernel
theorem dX4_copy_39 : decode cX4_copy 39 = .ok (.return_, 1) := by decide +kernel
theorem dX5_init_0 : decode cX5_init 0 = .ok (.aload_n 0, 1) := by decide +kernel
theorem dX5_init_1 : decode cX5_init 1 = .ok (.invokespecial 3, 3) := by decide +kernel
theorem dX5_init_4 : decode cX5_init 4 = .ok (.aload_n 0, 1) := by decide +kernel
theorem dX5_init_5 : decode cX5_init 5 = .ok (.bipush 9, 2) := by decide +kernel
theorem dX5_init_7 : decode cX5_init 7 = .ok (.newarray .int, 2) := by decide +kernel
theorem dX5_init_9 : decode cX5_init 9 = .ok (.putfield 9, 3) := by decide +kernel
theorem dX5_init_12 : decode cX5_init 12 = .ok (.aload_n 0, 1) := by decide +kernel
theorem dX5_init_13 : decode cX5_init 13 = .ok (.bipush 9, 2) := by decide +kernel
theorem dX5_init_15 : decode cX5_init 15 = .ok (.newarray .int, 2) := by decide +kernel
theorem dX5_init_17 : decode cX5_init 17 = .ok (.putfield 15, 3) := by decide +kernel
theorem dX5_init_20 : decode cX5_init 20 = .ok (.aload_n 0, 1) := by decide +kernel
theorem dX5_init_21 : decode cX5_init 21 = .ok (.bipush 9, 2) := by decide +kernel
theorem dX5_init_23 : decode cX5_init 23 = .ok (.newarray .int, 2) := by decide +kernel
theorem dX5_init_25 : decode cX5_init 25 = .ok (.putfield 18, 3) := by decide +kernel
theorem dX5_init_28 : decode cX5_init 28 = .ok (.aload_n 0, 1) := by decide +kernel
theorem dX5_init_29 : decode cX5_init 29 = .ok (.invokevirtual 21, 3) := by decide +kernel
theorem dX5_init_32 : decode cX5_init 32 = .ok (.return_, 1) := by decide +kernel
theorem dX5_empty_0 : decode cX5_empty 0 = .ok (.aload_n 0, 1) := by decide +kernel
theorem dX5_empty_1 : decode cX5_empty 1 = .ok (.iconst 0, 1) := by decide +kernel
theorem dX5_empty_2 : decode cX5_empty 2 = .ok (.putfield 24, 3) := by decide +kernel
theorem dX5_empty_5 : decode cX5_empty 5 = .ok (.aload_n 0, 1) := by decide +kernel
theorem dX5_empty_6 : decode cX5_empty 6 = .ok (.iconst 4, 1) := by decide +kernel
theorem dX5_empty_7 : decode cX5_empty 7 = .ok (.putfield 28, 3) := by decide +kernel
theorem dX5_empty_10 : decode cX5_empty 10 = .ok (.aload_n 0, 1) := by decide +kernel
theorem dX5_empty_11 : decode cX5_empty 11 = .ok (.iconst 3, 1) := by decide +kernel
theorem dX5_empty_12 : decode cX5_empty 12 = .ok (.putfield 31, 3) := by decide +kernel
theorem dX5_empty_15 : decode cX5_empty 15 = .ok (.aload_n 0, 1) := by decide +kernel
theorem dX5_empty_16 : decode cX5_empty 16 = .ok (.iconst 1, 1) := by decide +kernel
theorem dX5_empty_17 : decode cX5_empty 17 = .ok (.putfield 34, 3) := by decide +kernel
theorem dX5_empty_20 : decode cX5_empty 20 = .ok (.return_, 1) := by decide +kernel
theorem dX5_copy_0 : decode cX5_copy 0 = .ok (.aload_n 1, 1) := by decide +kernel
theorem dX5_copy_1 : decode cX5_copy 1 = .ok (.getfield 9, 3) := by decide +kernel
theorem dX5_copy_4 : decode cX5_copy 4 = .ok (.iconst 0, 1) := by decide +kernel
theorem dX5_copy_5 : decode cX5_copy 5 = .ok (.aload_n 0, 1) := by decide +kernel
theorem dX5_copy_6 : decode cX5_copy 6 = .ok (.getfield 9, 3) := by decide +kernel
theorem dX5_copy_9 : decode cX5_copy 9 = .ok (.iconst 0, 1) := by decide +kernel
theorem dX5_copy_10 : decode cX5_copy 10 = .ok (.bipush 9, 2) := by decide +kernel
theorem dX5_copy_12 : decode cX5_copy 12 = .ok (.invokestatic 37, 3) := by decide +kernel
theorem dX5_copy_15 : decode cX5_copy 15 = .ok (.aload_n 1, 1) := by decide +kernel
theorem dX5_copy_16 : decode cX5_copy 16 = .ok (.getfield 15, 3) := by decide +kernel
theorem dX5_copy_19 : decode cX5_copy 19 = .ok (.iconst 0, 1) := by decide +kernel
theorem dX5_copy_20 : decode cX5_copy 20 = .ok (.aload_n 0, 1) := by decide +kernel
theorem dX5_copy_21 : decode cX5_copy 21 = .ok (.getfield 15, 3) := by decide +kernel
theorem dX5_copy_24 : decode cX5_copy 24 = .ok (.iconst 0, 1) := by decide +kernel
theorem dX5_copy_25 : decode cX5_copy 25 = .ok (.bipush 9, 2) := by decide +kernel
theorem dX5_copy_27 : decode cX5_copy 27 = .ok (.invokestatic 37, 3) := by decide +kernel
theorem dX5_copy_30 : decode cX5_copy 30 = .ok (.aload_n 1, 1) := by decide +kernel
theorem dX5_copy_31 : decode cX5_copy 31 = .ok (.getfield 18, 3) := by decide +kernel
theorem dX5_copy_34 : decode cX5_copy 34 = .ok (.iconst 0, 1) := by decide +kernel
theorem dX5_copy_35 : decode cX5_copy 35 = .ok (.aload_n 0, 1) := by decide +kernel
theorem dX5_copy_36 : decode cX5_copy 36 = .ok (.getfield 18, 3) := by decide +kernel
theorem dX5_copy_39 : decode cX5_copy 39 = .ok (.iconst 0, 1) := by decide +kernel
theorem dX5_copy_40 : decode cX5_copy 40 = .ok (.bipush 9, 2) := by decide +kernel
theorem dX5_copy_42 : decode cX5_copy 42 = .ok (.invokestatic 37, 3) := by decide +kernel
theorem dX5_copy_45 : decode cX5_copy 45 = .ok (.aload_n 0, 1) := by decide +kernel
theorem dX5_copy_46 : decode cX5_copy 46 = .ok (.aload_n 1, 1) := by decide +kernel
theorem dX5_copy_47 : decode cX5_copy 47 = .ok (.getfield 24, 3) := by decide +kernel
theorem dX5_copy_50 : decode cX5_copy 50 = .ok (.putfield 24, 3) := by decide +kernel
theorem dX5_copy_53 : decode cX5_copy 53 = .ok (.aload_n 0, 1) := by decide +kernel
theorem dX5_copy_54 : decode cX5_copy 54 = .ok (.aload_n 1, 1) := by decide +kernel
theorem dX5_copy_55 : decode cX5_copy 55 = .ok (.getfield 28, 3) := by decide +kernel
theorem dX5_copy_58 : decode cX5_copy 58 = .ok (.putfield 28, 3) := by decide +kernel
theorem dX5_copy_61 : decode cX5_copy 61 = .ok (.aload_n 0, 1) := by decide +kernel
theorem dX5_copy_62 : decode cX5_copy 62 = .ok (.aload_n 1, 1) := by decide +kernel
theorem dX5_copy_63 : decode cX5_copy 63 = .ok (.getfield 31, 3) := by decide +kernel
theorem dX5_copy_66 : decode cX5_copy 66 = .ok (.putfield 31, 3) := by decide +kernel
theorem dX5_copy_69 : decode cX5_copy 69 = .ok (.aload_n 0, 1) := by decide +kernel
theorem dX5_copy_70 : decode cX5_copy 70 = .ok (.aload_n 1, 1) := by decide +kernel
theorem dX5_copy_71 : decode cX5_copy 71 = .ok (.getfield 34, 3) := by decide +kernel
theorem dX5_copy_74 : decode cX5_copy 74 = .ok (.putfield 34, 3) := by decide +kernel
theorem dX5_copy_77 : decode cX5_copy 77 = .ok (.return_, 1) := by decide +kernel
theorem dX5_addStep_0 : decode cX5_addStep 0 = .ok (.aload_n 0, 1) := by decide +kernel
theorem dX5_addStep_1 : decode cX5_addStep 1 = .ok (.getfield 24, 3) := by decide +kernel
theorem dX5_addStep_4 : decode cX5_addStep 4 = .ok (.bipush 9, 2) := by decide +kernel
theorem dX5_addStep_6 : decode cX5_addStep 6 = .ok (.if_icmp .ge 43, 3) := by decide +kernel
theorem dX5_addStep_9 : decode cX5_addStep 9 = .ok (.aload_n 0, 1) := by decide +kernel
theorem dX5_addStep_10 : decode cX5_addStep 10 = .ok (.getfield 9, 3) := by decide +kernel
theorem dX5_addStep_13 : decode cX5_addStep 13 = .ok (.aload_n 0, 1) := by decide +kernel
theorem dX5_addStep_14 : decode cX5_addStep 14 = .ok (.getfield 24, 3) := by decide +kernel
theorem dX5_addStep_17 : decode cX5_addStep 17 = .ok (.iload_n 1, 1) := by decide +kernel
theorem dX5_addStep_18 : decode cX5_addStep 18 = .ok (.iastore, 1) := by decide +kernel
theorem dX5_addStep_19 : decode cX5_addStep 19 = .ok (.aload_n 0, 1) := by decide +kernel
theorem dX5_addStep_20 : decode cX5_addStep 20 = .ok (.getfield 15, 3) := by decide +kernel
theorem dX5_addStep_23 : decode cX5_addStep 23 = .ok (.aload_n 0, 1) := by decide +kernel
theorem dX5_addStep_24 : decode cX5_addStep 24 = .ok (.getfield 24, 3) := by decide +kernel
theorem dX5_addStep_27 : decode cX5_addStep 27 = .ok (.iload_n 2, 1) := by decide +kernel
theorem dX5_addStep_28 : decode cX5_addStep 28 = .ok (.iastore, 1) := by decide +kernel
theorem dX5_addStep_29 : decode cX5_addStep 29 = .ok (.aload_n 0, 1) := by decide +kernel
theorem dX5_addStep_30 : decode cX5_addStep 30 = .ok (.getfield 18, 3) := by decide +kernel
theorem dX5_addStep_33 : decode cX5_addStep 33 = .ok (.aload_n 0, 1) := by decide +kernel
theorem dX5_addStep_34 : decode cX5_addStep 34 = .ok (.getfield 24, 3) := by decide +kernel
theorem dX5_addStep_37 : decode cX5_addStep 37 = .ok (.iload_n 3, 1) := by decide +kernel
theorem dX5_addStep_38 : decode cX5_addStep 38 = .ok (.iastore, 1) := by decide +kernel
theorem dX5_addStep_39 : decode cX5_addStep 39 = .ok (.aload_n 0, 1) := by decide +kernel
theorem dX5_addStep_40 : decode cX5_addStep 40 = .ok (.dup, 1) := by decide +kernel
theorem dX5_addStep_41 : decode cX5_addStep 41 = .ok (.getfield 24, 3) := by decide +kernel
theorem dX5_addStep_44 : decode cX5_addStep 44 = .ok (.iconst 1, 1) := by decide +kernel
theorem dX5_addStep_45 : decode cX5_addStep 45 = .ok (.iadd, 1) := by decide +kernel
theorem dX5_addStep_46 : decode cX5_addStep 46 = .ok (.putfield 24, 3) := by decide +kernel
theorem dX5_addStep_49 : decode cX5_addStep 49 = .ok (.return_, 1) := by decide +kernel
theorem dX5_has_0 : decode cX5_has 0 = .ok (.iload_n 1, 1) := by decide +kernel
theorem dX5_has_1 : decode cX5_has 1 = .ok (.iconst 0, 1) := by decide +kernel
theorem dX5_has_2 : decode cX5_has 2 = .ok (.aload_n 0, 1) := by decide +kernel
theorem dX5_has_3 : decode cX5_has 3 = .ok (.getfield 24, 3) := by decide +kernel
theorem dX5_has_6 : decode cX5_has 6 = .ok (.iconst 1, 1) := by decide +kernel
theorem dX5_has_7 : decode cX5_has 7 = .ok (.isub, 1) := by decide +kernel
theorem dX5_has_8 : decode cX5_has 8 = .ok (.invokestatic 43, 3) := by decide +kernel
theorem dX5_has_11 : decode cX5_has 11 = .ok (.ireturn, 1) := by decide +kernel
theorem dX5_hasPlace_0 : decode cX5_hasPlace 0 = .ok (.iload_n 1, 1) := by decide +kernel
theorem dX5_hasPlace_1 : decode cX5_hasPlace 1 = .ok (.iconst 0, 1) := by decide +kernel
theorem dX5_hasPlace_2 : decode cX5_hasPlace 2 = .ok (.aload_n 0, 1) := by decide +kernel
theorem dX5_hasPlace_3 : decode cX5_hasPlace 3 = .ok (.getfield 24, 3) := by decide +kernel
theorem dX5_hasPlace_6 : decode cX5_hasPlace 6 = .ok (.invokestatic 43, 3) := by decide +kernel
theorem dX5_hasPlace_9 : decode cX5_hasPlace 9 = .ok (.ireturn, 1) := by decide +kernel
theorem dX6_init_0 : decode cX6_init 0 = .ok (.aload_n 0, 1) := by decide +kernel
theorem dX6_init_1 : decode cX6_init 1 = .ok (.invokespecial 3, 3) := by decide +kernel
theorem dX6_init_4 : decode cX6_init 4 = .ok (.aload_n 0, 1) := by decide +kernel
theorem dX6_init_5 : decode cX6_init 5 = .ok (.bipush 100, 2) := by decide +kernel
theorem dX6_init_7 : decode cX6_init 7 = .ok (.newarray .char, 2) := by decide +kernel
theorem dX6_init_9 : decode cX6_init 9 = .ok (.putfield 9, 3) := by decide +kernel
theorem dX6_init_12 : decode cX6_init 12 = .ok (.aload_n 0, 1) := by decide +kernel
theorem dX6_init_13 : decode cX6_init 13 = .ok (.new 15, 3) := by decide +kernel
theorem dX6_init_16 : decode cX6_init 16 = .ok (.dup, 1) := by decide +kernel
theorem dX6_init_17 : decode cX6_init 17 = .ok (.invokespecial 17, 3) := by decide +kernel
theorem dX6_init_20 : decode cX6_init 20 = .ok (.putfield 18, 3) := by decide +kernel
theorem dX6_init_23 : decode cX6_init 23 = .ok (.return_, 1) := by decide +kernel
theorem dX6_take_0 : decode cX6_take 0 = .ok (.aload_n 0, 1) := by decide +kernel
theorem dX6_take_1 : decode cX6_take 1 = .ok (.getfield 22, 3) := by decide +kernel
theorem dX6_take_4 : decode cX6_take 4 = .ok (.bipush 100, 2) := by decide +kernel
theorem dX6_take_6 : decode cX6_take 6 = .ok (.if_icmp .lt 5, 3) := by decide +kernel
theorem dX6_take_9 : decode cX6_take 9 = .ok (.iconst 0, 1) := by decide +kernel
theorem dX6_take_10 : decode cX6_take 10 = .ok (.ireturn, 1) := by decide +kernel
theorem dX6_take_11 : decode cX6_take 11 = .ok (.aload_n 0, 1) := by decide +kernel
theorem dX6_take_12 : decode cX6_take 12 = .ok (.getfield 9, 3) := by decide +kernel
theorem dX6_take_15 : decode cX6_take 15 = .ok (.aload_n 0, 1) := by decide +kernel
theorem dX6_take_16 : decode cX6_take 16 = .ok (.getfield 22, 3) := by decide +kernel
theorem dX6_take_19 : decode cX6_take 19 = .ok (.iload_n 1, 1) := by decide +kernel
theorem dX6_take_20 : decode cX6_take 20 = .ok (.castore, 1) := by decide +kernel
theorem dX6_take_21 : decode cX6_take 21 = .ok (.aload_n 0, 1) := by decide +kernel
theorem dX6_take_22 : decode cX6_take 22 = .ok (.dup, 1) := by decide +kernel
theorem dX6_take_23 : decode cX6_take 23 = .ok (.getfield 22, 3) := by decide +kernel
theorem dX6_take_26 : decode cX6_take 26 = .ok (.iconst 1, 1) := by decide +kernel
theorem dX6_take_27 : decode cX6_take 27 = .ok (.iadd, 1) := by decide +kernel
theorem dX6_take_28 : decode cX6_take 28 = .ok (.putfield 22, 3) := by decide +kernel
theorem dX6_take_31 : decode cX6_take 31 = .ok (.iconst 1, 1) := by decide +kernel
theorem dX6_take_32 : decode cX6_take 32 = .ok (.ireturn, 1) := by decide +kernel
theorem dX6_read_0 : decode cX6_read 0 = .ok (.aload_n 0, 1) := by decide +kernel
theorem dX6_read_1 : decode cX6_read 1 = .ok (.getfield 18, 3) := by decide +kernel
theorem dX6_read_4 : decode cX6_read 4 = .ok (.invokevirtual 26, 3) := by decide +kernel
theorem dX6_read_7 : decode cX6_read 7 = .ok (.aload_n 0, 1) := by decide +kernel
theorem dX6_read_8 : decode cX6_read 8 = .ok (.iconst 0, 1) := by decide +kernel
theorem dX6_read_9 : decode cX6_read 9 = .ok (.putfield 29, 3) := by decide +kernel
theorem dX6_read_12 : decode cX6_read 12 = .ok (.aload_n 0, 1) := by decide +kernel
theorem dX6_read_13 : decode cX6_read 13 = .ok (.iconst 0, 1) := by decide +kernel
theorem dX6_read_14 : decode cX6_read 14 = .ok (.putfield 32, 3) := by decide +kernel
theorem dX6_read_17 : decode cX6_read 17 = .ok (.aload_n 0, 1) := by decide +kernel
theorem dX6_read_18 : decode cX6_read 18 = .ok (.iconst (-1), 1) := by decide +kernel
theorem dX6_read_19 : decode cX6_read 19 = .ok (.putfield 35, 3) := by decide +kernel
theorem dX6_read_22 : decode cX6_read 22 = .ok (.aload_n 0, 1) := by decide +kernel
theorem dX6_read_23 : decode cX6_read 23 = .ok (.iconst 0, 1) := by decide +kernel
theorem dX6_read_24 : decode cX6_read 24 = .ok (.putfield 38, 3) := by decide +kernel
theorem dX6_read_27 : decode cX6_read 27 = .ok (.aload_n 0, 1) := by decide +kernel
theorem dX6_read_28 : decode cX6_read 28 = .ok (.iconst 0, 1) := by decide +kernel
theorem dX6_read_29 : decode cX6_read 29 = .ok (.putfield 42, 3) := by decide +kernel
theorem dX6_read_32 : decode cX6_read 32 = .ok (.aload_n 0, 1) := by decide +kernel
theorem dX6_read_33 : decode cX6_read 33 = .ok (.iconst 0, 1) := by decide +kernel
theorem dX6_read_34 : decode cX6_read 34 = .ok (.putfield 45, 3) := by decide +kernel
theorem dX6_read_37 : decode cX6_read 37 = .ok (.iconst 0, 1) := by decide +kernel
theorem dX6_read_38 : decode cX6_read 38 = .ok (.istore_n 1, 1) := by decide +kernel
theorem dX6_read_39 : decode cX6_read 39 = .ok (.iload_n 1, 1) := by decide +kernel
theorem dX6_read_40 : decode cX6_read 40 = .ok (.bipush 100, 2) := by decide +kernel
theorem dX6_read_42 : decode cX6_read 42 = .ok (.if_icmp .ge 28, 3) := by decide +kernel
theorem dX6_read_45 : decode cX6_read 45 = .ok (.aload_n 0, 1) := by decide +kernel
theorem dX6_read_46 : decode cX6_read 46 = .ok (.getfield 35, 3) := by decide +kernel
theorem dX6_read_49 : decode cX6_read 49 = .ok (.iconst (-1), 1) := by decide +kernel
theorem dX6_read_50 : decode cX6_read 50 = .ok (.if_icmp .ne 20, 3) := by decide +kernel
theorem dX6_read_53 : decode cX6_read 53 = .ok (.aload_n 0, 1) := by decide +kernel
theorem dX6_read_54 : decode cX6_read 54 = .ok (.invokevirtual 48, 3) := by decide +kernel
theorem dX6_read_57 : decode cX6_read 57 = .ok (.ifCond .eq 13, 3) := by decide +kernel
theorem dX6_read_60 : decode cX6_read 60 = .ok (.aload_n 0, 1) := by decide +kernel
theorem dX6_read_61 : decode cX6_read 61 = .ok (.invokevirtual 52, 3) := by decide +kernel
theorem dX6_read_64 : decode cX6_read 64 = .ok (.iinc 1 1, 3) := by decide +kernel
theorem dX6_read_67 : decode cX6_read 67 = .ok (.goto (-28), 3) := by decide +kernel
theorem dX6_read_70 : decode cX6_read 70 = .ok (.aload_n 0, 1) := by decide +kernel
theorem dX6_read_71 : decode cX6_read 71 = .ok (.getfield 35, 3) := by decide +kernel
theorem dX6_read_74 : decode cX6_read 74 = .ok (.iconst (-1), 1) := by decide +kernel
theorem dX6_read_75 : decode cX6_read 75 = .ok (.if_icmp .ne 7, 3) := by decide +kernel
theorem dX6_read_78 : decode cX6_read 78 = .ok (.iconst 1, 1) := by decide +kernel
theorem dX6_read_79 : decode cX6_read 79 = .ok (.goto 4, 3) := by decide +kernel
theorem dX6_read_82 : decode cX6_read 82 = .ok (.iconst 0, 1) := by decide +kernel
theorem dX6_read_83 : decode cX6_read 83 = .ok (.ireturn, 1) := by decide +kernel
theorem dX6_findToken_0 : decode cX6_findToken 0 = .ok (.aload_n 0, 1) := by decide +kernel
theorem dX6_findToken_1 : decode cX6_findToken 1 = .ok (.getfield 29, 3) := by decide +kernel
theorem dX6_findToken_4 : decode cX6_findToken 4 = .ok (.aload_n 0, 1) := by decide +kernel
theorem dX6_findToken_5 : decode cX6_findToken 5 = .ok (.getfield 22, 3) := by decide +kernel
theorem dX6_findToken_8 : decode cX6_findToken 8 = .ok (.if_icmp .ge 30, 3) := by decide +kernel
theorem dX6_findToken_11 : decode cX6_findToken 11 = .ok (.aload_n 0, 1) := by decide +kernel
theorem dX6_findToken_12 : decode cX6_findToken 12 = .ok (.getfield 9, 3) := by decide +kernel
theorem dX6_findToken_15 : decode cX6_findToken 15 = .ok (.aload_n 0, 1) := by decide +kernel
theorem dX6_findToken_16 : decode cX6_findToken 16 = .ok (.getfield 29, 3) := by decide +kernel
theorem dX6_findToken_19 : decode cX6_findToken 19 = .ok (.caload, 1) := by decide +kernel
theorem dX6_findToken_20 : decode cX6_findToken 20 = .ok (.bipush 32, 2) := by decide +kernel
theorem dX6_findToken_22 : decode cX6_findToken 22 = .ok (.if_icmp .ne 16, 3) := by decide +kernel
theorem dX6_findToken_25 : decode cX6_findToken 25 = .ok (.aload_n 0, 1) := by decide +kernel
theorem dX6_findToken_26 : decode cX6_findToken 26 = .ok (.dup, 1) := by decide +kernel
theorem dX6_findToken_27 : decode cX6_findToken 27 = .ok (.getfield 29, 3) := by decide +kernel
theorem dX6_findToken_30 : decode cX6_findToken 30 = .ok (.iconst 1, 1) := by decide +kernel
theorem dX6_findToken_31 : decode cX6_findToken 31 = .ok (.iadd, 1) := by decide +kernel
theorem dX6_findToken_32 : decode cX6_findToken 32 = .ok (.putfield 29, 3) := by decide +kernel
theorem dX6_findToken_35 : decode cX6_findToken 35 = .ok (.goto (-35), 3) := by decide +kernel
theorem dX6_findToken_38 : decode cX6_findToken 38 = .ok (.aload_n 0, 1) := by decide +kernel
theorem dX6_findToken_39 : decode cX6_findToken 39 = .ok (.getfield 29, 3) := by decide +kernel
theorem dX6_findToken_42 : decode cX6_findToken 42 = .ok (.aload_n 0, 1) := by decide +kernel
theorem dX6_findToken_43 : decode cX6_findToken 43 = .ok (.getfield 22, 3) := by decide +kernel
theorem dX6_findToken_46 : decode cX6_findToken 46 = .ok (.if_icmp .ge 7, 3) := by decide +kernel
theorem dX6_findToken_49 : decode cX6_findToken 49 = .ok (.iconst 1, 1) := by decide +kernel
theorem dX6_findToken_50 : decode cX6_findToken 50 = .ok (.goto 4, 3) := by decide +kernel
theorem dX6_findToken_53 : decode cX6_findToken 53 = .ok (.iconst 0, 1) := by decide +kernel
theorem dX6_findToken_54 : decode cX6_findToken 54 = .ok (.ireturn, 1) := by decide +kernel
theorem dX6_readItem_0 : decode cX6_readItem 0 = .ok (.aload_n 0, 1) := by decide +kernel
theorem dX6_readItem_1 : decode cX6_readItem 1 = .ok (.getfield 9, 3) := by decide +kernel
theorem dX6_readItem_4 : decode cX6_readItem 4 = .ok (.aload_n 0, 1) := by decide +kernel
theorem dX6_readItem_5 : decode cX6_readItem 5 = .ok (.getfield 29, 3) := by decide +kernel
theorem dX6_readItem_8 : decode cX6_readItem 8 = .ok (.caload, 1) := by decide +kernel
theorem dX6_readItem_9 : decode cX6_readItem 9 = .ok (.istore_n 1, 1) := by decide +kernel
theorem dX6_readItem_10 : decode cX6_readItem 10 = .ok (.aload_n 0, 1) := by decide +kernel
theorem dX6_readItem_11 : decode cX6_readItem 11 = .ok (.iload_n 1, 1) := by decide +kernel
theorem dX6_readItem_12 : decode cX6_readItem 12 = .ok (.invokevirtual 55, 3) := by decide +kernel
theorem dX6_readItem_15 : decode cX6_readItem 15 = .ok (.ifCond .ne 12, 3) := by decide +kernel
theorem dX6_readItem_18 : decode cX6_readItem 18 = .ok (.aload_n 0, 1) := by decide +kernel
theorem dX6_readItem_19 : decode cX6_readItem 19 = .ok (.aload_n 0, 1) := by decide +kernel
theorem dX6_readItem_20 : decode cX6_readItem 20 = .ok (.getfield 29, 3) := by decide +kernel
theorem dX6_readItem_23 : decode cX6_readItem 23 = .ok (.putfield 35, 3) := by decide +kernel
theorem dX6_readItem_26 : decode cX6_readItem 26 = .ok (.return_, 1) := by decide +kernel
theorem dX6_readItem_27 : decode cX6_readItem 27 = .ok (.aload_n 0, 1) := by decide +kernel
theorem dX6_readItem_28 : decode cX6_readItem 28 = .ok (.dup, 1) := by decide +kernel
theorem dX6_readItem_29 : decode cX6_readItem 29 = .ok (.getfield 29, 3) := by decide +kernel
theorem dX6_readItem_32 : decode cX6_readItem 32 = .ok (.iconst 1, 1) := by decide +kernel
theorem dX6_readItem_33 : decode cX6_readItem 33 = .ok (.iadd, 1) := by decide +kernel
theorem dX6_readItem_34 : decode cX6_readItem 34 = .ok (.putfield 29, 3) := by decide +kernel
theorem dX6_readItem_37 : decode cX6_readItem 37 = .ok (.iload_n 1, 1) := by decide +kernel
theorem dX6_readItem_38 : decode cX6_readItem 38 = .ok (.lookupswitch 85 #[(102, 63), (108, 41), (115, 34)], 34) := by decide +kernel
theorem dX6_readItem_72 : decode cX6_readItem 72 = .ok (.aload_n 0, 1) := by decide +kernel
theorem dX6_readItem_73 : decode cX6_readItem 73 = .ok (.invokevirtual 59, 3) := by decide +kernel
theorem dX6_readItem_76 : decode cX6_readItem 76 = .ok (.goto 65, 3) := by decide +kernel
theorem dX6_readItem_79 : decode cX6_readItem 79 = .ok (.aload_n 0, 1) := by decide +kernel
theorem dX6_readItem_80 : decode cX6_readItem 80 = .ok (.getfield 18, 3) := by decide +kernel
theorem dX6_readItem_83 : decode cX6_readItem 83 = .ok (.aload_n 0, 1) := by decide +kernel
theorem dX6_readItem_84 : decode cX6_readItem 84 = .ok (.iconst 0, 1) := by decide +kernel
theorem dX6_readItem_85 : decode cX6_readItem 85 = .ok (.bipush 9, 2) := by decide +kernel
theorem dX6_readItem_87 : decode cX6_readItem 87 = .ok (.invokevirtual 62, 3) := by decide +kernel
theorem dX6_readItem_90 : decode cX6_readItem 90 = .ok (.putfield 66, 3) := by decide +kernel
theorem dX6_readItem_93 : decode cX6_readItem 93 = .ok (.aload_n 0, 1) := by decide +kernel
theorem dX6_readItem_94 : decode cX6_readItem 94 = .ok (.iconst 1, 1) := by decide +kernel
theorem dX6_readItem_95 : decode cX6_readItem 95 = .ok (.putfield 38, 3) := by decide +kernel
theorem dX6_readItem_98 : decode cX6_readItem 98 = .ok (.goto 43, 3) := by decide +kernel
theorem dX6_readItem_101 : decode cX6_readItem 101 = .ok (.aload_n 0, 1) := by decide +kernel
theorem dX6_readItem_102 : decode cX6_readItem 102 = .ok (.getfield 18, 3) := by decide +kernel
theorem dX6_readItem_105 : decode cX6_readItem 105 = .ok (.aload_n 0, 1) := by decide +kernel
theorem dX6_readItem_106 : decode cX6_readItem 106 = .ok (.iconst 1, 1) := by decide +kernel
theorem dX6_readItem_107 : decode cX6_readItem 107 = .ok (.bipush 9, 2) := by decide +kernel
theorem dX6_readItem_109 : decode cX6_readItem 109 = .ok (.invokevirtual 62, 3) := by decide +kernel
theorem dX6_readItem_112 : decode cX6_readItem 112 = .ok (.putfield 69, 3) := by decide +kernel
theorem dX6_readItem_115 : decode cX6_readItem 115 = .ok (.aload_n 0, 1) := by decide +kernel
theorem dX6_readItem_116 : decode cX6_readItem 116 = .ok (.iconst 1, 1) := by decide +kernel
theorem dX6_readItem_117 : decode cX6_readItem 117 = .ok (.putfield 42, 3) := by decide +kernel
theorem dX6_readItem_120 : decode cX6_readItem 120 = .ok (.goto 21, 3) := by decide +kernel
theorem dX6_readItem_123 : decode cX6_readItem 123 = .ok (.aload_n 0, 1) := by decide +kernel
theorem dX6_readItem_124 : decode cX6_readItem 124 = .ok (.getfield 18, 3) := by decide +kernel
theorem dX6_readItem_127 : decode cX6_readItem 127 = .ok (.aload_n 0, 1) := by decide +kernel
theorem dX6_readItem_128 : decode cX6_readItem 128 = .ok (.iconst 0, 1) := by decide +kernel
theorem dX6_readItem_129 : decode cX6_readItem 129 = .ok (.iconst 3, 1) := by decide +kernel
theorem dX6_readItem_130 : decode cX6_readItem 130 = .ok (.invokevirtual 62, 3) := by decide +kernel
theorem dX6_readItem_133 : decode cX6_readItem 133 = .ok (.putfield 72, 3) := by decide +kernel
theorem dX6_readItem_136 : decode cX6_readItem 136 = .ok (.aload_n 0, 1) := by decide +kernel
theorem dX6_readItem_137 : decode cX6_readItem 137 = .ok (.iconst 1, 1) := by decide +kernel
theorem dX6_readItem_138 : decode cX6_readItem 138 = .ok (.putfield 45, 3) := by decide +kernel
theorem dX6_readItem_141 : decode cX6_readItem 141 = .ok (.aload_n 0, 1) := by decide +kernel
theorem dX6_readItem_142 : decode cX6_readItem 142 = .ok (.invokevirtual 75, 3) := by decide +kernel
theorem dX6_readItem_145 : decode cX6_readItem 145 = .ok (.return_, 1) := by decide +kernel
theorem dX6_mayBegin_0 : decode cX6_mayBegin 0 = .ok (.iload_n 1, 1) := by decide +kernel
theorem dX6_mayBegin_1 : decode cX6_mayBegin 1 = .ok (.lookupswitch 100 #[(100, 87), (102, 74), (108, 61), (115, 43)], 43) := by decide +kernel
theorem dX6_mayBegin_44 : decode cX6_mayBegin 44 = .ok (.aload_n 0, 1) := by decide +kernel
theorem dX6_mayBegin_45 : decode cX6_mayBegin 45 = .ok (.getfield 18, 3) := by decide +kernel
theorem dX6_mayBegin_48 : decode cX6_mayBegin 48 = .ok (.getfield 78, 3) := by decide +kernel
theorem dX6_mayBegin_51 : decode cX6_mayBegin 51 = .ok (.bipush 9, 2) := by decide +kernel
theorem dX6_mayBegin_53 : decode cX6_mayBegin 53 = .ok (.if_icmp .ge 7, 3) := by decide +kernel
theorem dX6_mayBegin_56 : decode cX6_mayBegin 56 = .ok (.iconst 1, 1) := by decide +kernel
theorem dX6_mayBegin_57 : decode cX6_mayBegin 57 = .ok (.goto 4, 3) := by decide +kernel
theorem dX6_mayBegin_60 : decode cX6_mayBegin 60 = .ok (.iconst 0, 1) := by decide +kernel
theorem dX6_mayBegin_61 : decode cX6_mayBegin 61 = .ok (.ireturn, 1) := by decide +kernel
theorem dX6_mayBegin_62 : decode cX6_mayBegin 62 = .ok (.aload_n 0, 1) := by decide +kernel
theorem dX6_mayBegin_63 : decode cX6_mayBegin 63 = .ok (.getfield 38, 3) := by decide +kernel
theorem dX6_mayBegin_66 : decode cX6_mayBegin 66 = .ok (.ifCond .ne 7, 3) := by decide +kernel
theorem dX6_mayBegin_69 : decode cX6_mayBegin 69 = .ok (.iconst 1, 1) := by decide +kernel
theorem dX6_mayBegin_70 : decode cX6_mayBegin 70 = .ok (.goto 4, 3) := by decide +kernel
theorem dX6_mayBegin_73 : decode cX6_mayBegin 73 = .ok (.iconst 0, 1) := by decide +kernel
theorem dX6_mayBegin_74 : decode cX6_mayBegin 74 = .ok (.ireturn, 1) := by decide +kernel
theorem dX6_mayBegin_75 : decode cX6_mayBegin 75 = .ok (.aload_n 0, 1) := by decide +kernel
theorem dX6_mayBegin_76 : decode cX6_mayBegin 76 = .ok (.getfield 42, 3) := by decide +kernel
theorem dX6_mayBegin_79 : decode cX6_mayBegin 79 = .ok (.ifCond .ne 7, 3) := by decide +kernel
theorem dX6_mayBegin_82 : decode cX6_mayBegin 82 = .ok (.iconst 1, 1) := by decide +kernel
theorem dX6_mayBegin_83 : decode cX6_mayBegin 83 = .ok (.goto 4, 3) := by decide +kernel
theorem dX6_mayBegin_86 : decode cX6_mayBegin 86 = .ok (.iconst 0, 1) := by decide +kernel
theorem dX6_mayBegin_87 : decode cX6_mayBegin 87 = .ok (.ireturn, 1) := by decide +kernel
theorem dX6_mayBegin_88 : decode cX6_mayBegin 88 = .ok (.aload_n 0, 1) := by decide +kernel
theorem dX6_mayBegin_89 : decode cX6_mayBegin 89 = .ok (.getfield 45, 3) := by decide +kernel
theorem dX6_mayBegin_92 : decode cX6_mayBegin 92 = .ok (.ifCond .ne 7, 3) := by decide +kernel
theorem dX6_mayBegin_95 : decode cX6_mayBegin 95 = .ok (.iconst 1, 1) := by decide +kernel
theorem dX6_mayBegin_96 : decode cX6_mayBegin 96 = .ok (.goto 4, 3) := by decide +kernel
theorem dX6_mayBegin_99 : decode cX6_mayBegin 99 = .ok (.iconst 0, 1) := by decide +kernel
theorem dX6_mayBegin_100 : decode cX6_mayBegin 100 = .ok (.ireturn, 1) := by decide +kernel
theorem dX6_mayBegin_101 : decode cX6_mayBegin 101 = .ok (.iconst 0, 1) := by decide +kernel
theorem dX6_mayBegin_102 : decode cX6_mayBegin 102 = .ok (.ireturn, 1) := by decide +kernel
theorem dX6_readStep_0 : decode cX6_readStep 0 = .ok (.aload_n 0, 1) := by decide +kernel
theorem dX6_readStep_1 : decode cX6_readStep 1 = .ok (.iconst 1, 1) := by decide +kernel
theorem dX6_readStep_2 : decode cX6_readStep 2 = .ok (.bipush 9, 2) := by decide +kernel
theorem dX6_readStep_4 : decode cX6_readStep 4 = .ok (.invokevirtual 62, 3) := by decide +kernel
theorem dX6_readStep_7 : decode cX6_readStep 7 = .ok (.istore_n 1, 1) := by decide +kernel
theorem dX6_readStep_8 : decode cX6_readStep 8 = .ok (.aload_n 0, 1) := by decide +kernel
theorem dX6_readStep_9 : decode cX6_readStep 9 = .ok (.iconst 1, 1) := by decide +kernel
theorem dX6_readStep_10 : decode cX6_readStep 10 = .ok (.bipush 9, 2) := by decide +kernel
theorem dX6_readStep_12 : decode cX6_readStep 12 = .ok (.invokevirtual 62, 3) := by decide +kernel
theorem dX6_readStep_15 : decode cX6_readStep 15 = .ok (.istore_n 2, 1) := by decide +kernel
theorem dX6_readStep_16 : decode cX6_readStep 16 = .ok (.aload_n 0, 1) := by decide +kernel
theorem dX6_readStep_17 : decode cX6_readStep 17 = .ok (.iconst 0, 1) := by decide +kernel
theorem dX6_readStep_18 : decode cX6_readStep 18 = .ok (.iconst 5, 1) := by decide +kernel
theorem dX6_readStep_19 : decode cX6_readStep 19 = .ok (.invokevirtual 62, 3) := by decide +kernel
theorem dX6_readStep_22 : decode cX6_readStep 22 = .ok (.istore_n 3, 1) := by decide +kernel
theorem dX6_readStep_23 : decode cX6_readStep 23 = .ok (.aload_n 0, 1) := by decide +kernel
theorem dX6_readStep_24 : decode cX6_readStep 24 = .ok (.getfield 35, 3) := by decide +kernel
theorem dX6_readStep_27 : decode cX6_readStep 27 = .ok (.iconst (-1), 1) := by decide +kernel
theorem dX6_readStep_28 : decode cX6_readStep 28 = .ok (.if_icmp .ne 13, 3) := by decide +kernel
theorem dX6_readStep_31 : decode cX6_readStep 31 = .ok (.aload_n 0, 1) := by decide +kernel
theorem dX6_readStep_32 : decode cX6_readStep 32 = .ok (.getfield 18, 3) := by decide +kernel
theorem dX6_readStep_35 : decode cX6_readStep 35 = .ok (.iload_n 1, 1) := by decide +kernel
theorem dX6_readStep_36 : decode cX6_readStep 36 = .ok (.iload_n 2, 1) := by decide +kernel
theorem dX6_readStep_37 : decode cX6_readStep 37 = .ok (.iload_n 3, 1) := by decide +kernel
theorem dX6_readStep_38 : decode cX6_readStep 38 = .ok (.invokevirtual 81, 3) := by decide +kernel
theorem dX6_readStep_41 : decode cX6_readStep 41 = .ok (.return_, 1) := by decide +kernel
theorem dX6_number_0 : decode cX6_number 0 = .ok (.aload_n 0, 1) := by decide +kernel
theorem dX6_number_1 : decode cX6_number 1 = .ok (.getfield 35, 3) := by decide +kernel
theorem dX6_number_4 : decode cX6_number 4 = .ok (.iconst (-1), 1) := by decide +kernel
theorem dX6_number_5 : decode cX6_number 5 = .ok (.if_icmp .eq 5, 3) := by decide +kernel
theorem dX6_number_8 : decode cX6_number 8 = .ok (.iload_n 1, 1) := by decide +kernel
theorem dX6_number_9 : decode cX6_number 9 = .ok (.ireturn, 1) := by decide +kernel
theorem dX6_number_10 : decode cX6_number 10 = .ok (.aload_n 0, 1) := by decide +kernel
theorem dX6_number_11 : decode cX6_number 11 = .ok (.invokevirtual 48, 3) := by decide +kernel
theorem dX6_number_14 : decode cX6_number 14 = .ok (.pop, 1) := by decide +kernel
theorem dX6_number_15 : decode cX6_number 15 = .ok (.aload_n 0, 1) := by decide +kernel
theorem dX6_number_16 : decode cX6_number 16 = .ok (.getfield 29, 3) := by decide +kernel
theorem dX6_number_19 : decode cX6_number 19 = .ok (.istore_n 3, 1) := by decide +kernel
theorem dX6_number_20 : decode cX6_number 20 = .ok (.iconst 0, 1) := by decide +kernel
theorem dX6_number_21 : decode cX6_number 21 = .ok (.istore 4, 2) := by decide +kernel
theorem dX6_number_23 : decode cX6_number 23 = .ok (.aload_n 0, 1) := by decide +kernel
theorem dX6_number_24 : decode cX6_number 24 = .ok (.getfield 29, 3) := by decide +kernel
theorem dX6_number_27 : decode cX6_number 27 = .ok (.aload_n 0, 1) := by decide +kernel
theorem dX6_number_28 : decode cX6_number 28 = .ok (.getfield 22, 3) := by decide +kernel
theorem dX6_number_31 : decode cX6_number 31 = .ok (.if_icmp .ge 60, 3) := by decide +kernel
theorem dX6_number_34 : decode cX6_number 34 = .ok (.aload_n 0, 1) := by decide +kernel
theorem dX6_number_35 : decode cX6_number 35 = .ok (.getfield 9, 3) := by decide +kernel
theorem dX6_number_38 : decode cX6_number 38 = .ok (.aload_n 0, 1) := by decide +kernel
theorem dX6_number_39 : decode cX6_number 39 = .ok (.getfield 29, 3) := by decide +kernel
theorem dX6_number_42 : decode cX6_number 42 = .ok (.caload, 1) := by decide +kernel
theorem dX6_number_43 : decode cX6_number 43 = .ok (.bipush 48, 2) := by decide +kernel
theorem dX6_number_45 : decode cX6_number 45 = .ok (.bipush 57, 2) := by decide +kernel
theorem dX6_number_47 : decode cX6_number 47 = .ok (.invokestatic 85, 3) := by decide +kernel
theorem dX6_number_50 : decode cX6_number 50 = .ok (.ifCond .eq 41, 3) := by decide +kernel
theorem dX6_number_53 : decode cX6_number 53 = .ok (.bipush 100, 2) := by decide +kernel
theorem dX6_number_55 : decode cX6_number 55 = .ok (.iload 4, 2) := by decide +kernel
theorem dX6_number_57 : decode cX6_number 57 = .ok (.bipush 10, 2) := by decide +kernel
theorem dX6_number_59 : decode cX6_number 59 = .ok (.imul, 1) := by decide +kernel
theorem dX6_number_60 : decode cX6_number 60 = .ok (.aload_n 0, 1) := by decide +kernel
theorem dX6_number_61 : decode cX6_number 61 = .ok (.getfield 9, 3) := by decide +kernel
theorem dX6_number_64 : decode cX6_number 64 = .ok (.aload_n 0, 1) := by decide +kernel
theorem dX6_number_65 : decode cX6_number 65 = .ok (.getfield 29, 3) := by decide +kernel
theorem dX6_number_68 : decode cX6_number 68 = .ok (.caload, 1) := by decide +kernel
theorem dX6_number_69 : decode cX6_number 69 = .ok (.bipush 48, 2) := by decide +kernel
theorem dX6_number_71 : decode cX6_number 71 = .ok (.isub, 1) := by decide +kernel
theorem dX6_number_72 : decode cX6_number 72 = .ok (.iadd, 1) := by decide +kernel
theorem dX6_number_73 : decode cX6_number 73 = .ok (.invokestatic 89, 3) := by decide +kernel
theorem dX6_number_76 : decode cX6_number 76 = .ok (.istore 4, 2) := by decide +kernel
theorem dX6_number_78 : decode cX6_number 78 = .ok (.aload_n 0, 1) := by decide +kernel
theorem dX6_number_79 : decode cX6_number 79 = .ok (.dup, 1) := by decide +kernel
theorem dX6_number_80 : decode cX6_number 80 = .ok (.getfield 29, 3) := by decide +kernel
theorem dX6_number_83 : decode cX6_number 83 = .ok (.iconst 1, 1) := by decide +kernel
theorem dX6_number_84 : decode cX6_number 84 = .ok (.iadd, 1) := by decide +kernel
theorem dX6_number_85 : decode cX6_number 85 = .ok (.putfield 29, 3) := by decide +kernel
theorem dX6_number_88 : decode cX6_number 88 = .ok (.goto (-65), 3) := by decide +kernel
theorem dX6_number_91 : decode cX6_number 91 = .ok (.aload_n 0, 1) := by decide +kernel
theorem dX6_number_92 : decode cX6_number 92 = .ok (.getfield 29, 3) := by decide +kernel
theorem dX6_number_95 : decode cX6_number 95 = .ok (.iload_n 3, 1) := by decide +kernel
theorem dX6_number_96 : decode cX6_number 96 = .ok (.iconst 1, 1) := by decide +kernel
theorem dX6_number_97 : decode cX6_number 97 = .ok (.iadd, 1) := by decide +kernel
theorem dX6_number_98 : decode cX6_number 98 = .ok (.if_icmp .eq 22, 3) := by decide +kernel
theorem dX6_number_101 : decode cX6_number 101 = .ok (.aload_n 0, 1) := by decide +kernel
theorem dX6_number_102 : decode cX6_number 102 = .ok (.getfield 29, 3) := by decide +kernel
theorem dX6_number_105 : decode cX6_number 105 = .ok (.iload_n 3, 1) := by decide +kernel
theorem dX6_number_106 : decode cX6_number 106 = .ok (.if_icmp .le 18, 3) := by decide +kernel
theorem dX6_number_109 : decode cX6_number 109 = .ok (.aload_n 0, 1) := by decide +kernel
theorem dX6_number_110 : decode cX6_number 110 = .ok (.getfield 9, 3) := by decide +kernel
theorem dX6_number_113 : decode cX6_number 113 = .ok (.iload_n 3, 1) := by decide +kernel
theorem dX6_number_114 : decode cX6_number 114 = .ok (.caload, 1) := by decide +kernel
theorem dX6_number_115 : decode cX6_number 115 = .ok (.bipush 48, 2) := by decide +kernel
theorem dX6_number_117 : decode cX6_number 117 = .ok (.if_icmp .eq 7, 3) := by decide +kernel
theorem dX6_number_120 : decode cX6_number 120 = .ok (.iconst 1, 1) := by decide +kernel
theorem dX6_number_121 : decode cX6_number 121 = .ok (.goto 4, 3) := by decide +kernel
theorem dX6_number_124 : decode cX6_number 124 = .ok (.iconst 0, 1) := by decide +kernel
theorem dX6_number_125 : decode cX6_number 125 = .ok (.istore 5, 2) := by decide +kernel
theorem dX6_number_127 : decode cX6_number 127 = .ok (.iload 5, 2) := by decide +kernel
theorem dX6_number_129 : decode cX6_number 129 = .ok (.ifCond .eq 13, 3) := by decide +kernel
theorem dX6_number_132 : decode cX6_number 132 = .ok (.iload 4, 2) := by decide +kernel
theorem dX6_number_134 : decode cX6_number 134 = .ok (.iload_n 1, 1) := by decide +kernel
theorem dX6_number_135 : decode cX6_number 135 = .ok (.iload_n 2, 1) := by decide +kernel
theorem dX6_number_136 : decode cX6_number 136 = .ok (.invokestatic 85, 3) := by decide +kernel
theorem dX6_number_139 : decode cX6_number 139 = .ok (.ifCond .ne 8, 3) := by decide +kernel
theorem dX6_number_142 : decode cX6_number 142 = .ok (.aload_n 0, 1) := by decide +kernel
theorem dX6_number_143 : decode cX6_number 143 = .ok (.iload_n 3, 1) := by decide +kernel
theorem dX6_number_144 : decode cX6_number 144 = .ok (.putfield 35, 3) := by decide +kernel
theorem dX6_number_147 : decode cX6_number 147 = .ok (.iload 4, 2) := by decide +kernel
theorem dX6_number_149 : decode cX6_number 149 = .ok (.ireturn, 1) := by decide +kernel
theorem dX6_endItem_0 : decode cX6_endItem 0 = .ok (.aload_n 0, 1) := by decide +kernel
theorem dX6_endItem_1 : decode cX6_endItem 1 = .ok (.getfield 35, 3) := by decide +kernel
theorem dX6_endItem_4 : decode cX6_endItem 4 = .ok (.iconst (-1), 1) := by decide +kernel
theorem dX6_endItem_5 : decode cX6_endItem 5 = .ok (.if_icmp .eq 4, 3) := by decide +kernel
theorem dX6_endItem_8 : decode cX6_endItem 8 = .ok (.return_, 1) := by decide +kernel
theorem dX6_endItem_9 : decode cX6_endItem 9 = .ok (.aload_n 0, 1) := by decide +kernel
theorem dX6_endItem_10 : decode cX6_endItem 10 = .ok (.invokevirtual 48, 3) := by decide +kernel
theorem dX6_endItem_13 : decode cX6_endItem 13 = .ok (.ifCond .eq 40, 3) := by decide +kernel
theorem dX6_endItem_16 : decode cX6_endItem 16 = .ok (.aload_n 0, 1) := by decide +kernel
theorem dX6_endItem_17 : decode cX6_endItem 17 = .ok (.getfield 9, 3) := by decide +kernel
theorem dX6_endItem_20 : decode cX6_endItem 20 = .ok (.aload_n 0, 1) := by decide +kernel
theorem dX6_endItem_21 : decode cX6_endItem 21 = .ok (.getfield 29, 3) := by decide +kernel
theorem dX6_endItem_24 : decode cX6_endItem 24 = .ok (.caload, 1) := by decide +kernel
theorem dX6_endItem_25 : decode cX6_endItem 25 = .ok (.bipush 59, 2) := by decide +kernel
theorem dX6_endItem_27 : decode cX6_endItem 27 = .ok (.if_icmp .ne 26, 3) := by decide +kernel
theorem dX6_endItem_30 : decode cX6_endItem 30 = .ok (.aload_n 0, 1) := by decide +kernel
theorem dX6_endItem_31 : decode cX6_endItem 31 = .ok (.dup, 1) := by decide +kernel
theorem dX6_endItem_32 : decode cX6_endItem 32 = .ok (.getfield 29, 3) := by decide +kernel
theorem dX6_endItem_35 : decode cX6_endItem 35 = .ok (.iconst 1, 1) := by decide +kernel
theorem dX6_endItem_36 : decode cX6_endItem 36 = .ok (.iadd, 1) := by decide +kernel
theorem dX6_endItem_37 : decode cX6_endItem 37 = .ok (.putfield 29, 3) := by decide +kernel
theorem dX6_endItem_40 : decode cX6_endItem 40 = .ok (.aload_n 0, 1) := by decide +kernel
theorem dX6_endItem_41 : decode cX6_endItem 41 = .ok (.dup, 1) := by decide +kernel
theorem dX6_endItem_42 : decode cX6_endItem 42 = .ok (.getfield 32, 3) := by decide +kernel
theorem dX6_endItem_45 : decode cX6_endItem 45 = .ok (.iconst 1, 1) := by decide +kernel
theorem dX6_endItem_46 : decode cX6_endItem 46 = .ok (.iadd, 1) := by decide +kernel
theorem dX6_endItem_47 : decode cX6_endItem 47 = .ok (.putfield 32, 3) := by decide +kernel
theorem dX6_endItem_50 : decode cX6_endItem 50 = .ok (.goto 11, 3) := by decide +kernel
theorem dX6_endItem_53 : decode cX6_endItem 53 = .ok (.aload_n 0, 1) := by decide +kernel
theorem dX6_endItem_54 : decode cX6_endItem 54 = .ok (.aload_n 0, 1) := by decide +kernel
theorem dX6_endItem_55 : decode cX6_endItem 55 = .ok (.getfield 29, 3) := by decide +kernel
theorem dX6_endItem_58 : decode cX6_endItem 58 = .ok (.putfield 35, 3) := by decide +kernel
theorem dX6_endItem_61 : decode cX6_endItem 61 = .ok (.return_, 1) := by decide +kernel
theorem dX7_init_0 : decode cX7_init 0 = .ok (.aload_n 0, 1) := by decide +kernel
theorem dX7_init_1 : decode cX7_init 1 = .ok (.invokespecial 3, 3) := by decide +kernel
theorem dX7_init_4 : decode cX7_init 4 = .ok (.aload_n 0, 1) := by decide +kernel
theorem dX7_init_5 : decode cX7_init 5 = .ok (.bipush 9, 2) := by decide +kernel
theorem dX7_init_7 : decode cX7_init 7 = .ok (.newarray .int, 2) := by decide +kernel
theorem dX7_init_9 : decode cX7_init 9 = .ok (.putfield 9, 3) := by decide +kernel
theorem dX7_init_12 : decode cX7_init 12 = .ok (.aload_n 0, 1) := by decide +kernel
theorem dX7_init_13 : decode cX7_init 13 = .ok (.aload_n 1, 1) := by decide +kernel
theorem dX7_init_14 : decode cX7_init 14 = .ok (.putfield 15, 3) := by decide +kernel
theorem dX7_init_17 : decode cX7_init 17 = .ok (.return_, 1) := by decide +kernel
theorem dX7_prepare_0 : decode cX7_prepare 0 = .ok (.aload_n 1, 1) := by decide +kernel
theorem dX7_prepare_1 : decode cX7_prepare 1 = .ok (.getfield 19, 3) := by decide +kernel
theorem dX7_prepare_4 : decode cX7_prepare 4 = .ok (.iconst 0, 1) := by decide +kernel
theorem dX7_prepare_5 : decode cX7_prepare 5 = .ok (.aload_n 0, 1) := by decide +kernel
theorem dX7_prepare_6 : decode cX7_prepare 6 = .ok (.getfield 9, 3) := by decide +kernel
theorem dX7_prepare_9 : decode cX7_prepare 9 = .ok (.iconst 0, 1) := by decide +kernel
theorem dX7_prepare_10 : decode cX7_prepare 10 = .ok (.bipush 9, 2) := by decide +kernel
theorem dX7_prepare_12 : decode cX7_prepare 12 = .ok (.invokestatic 22, 3) := by decide +kernel
theorem dX7_prepare_15 : decode cX7_prepare 15 = .ok (.aload_n 0, 1) := by decide +kernel
theorem dX7_prepare_16 : decode cX7_prepare 16 = .ok (.aload_n 0, 1) := by decide +kernel
theorem dX7_prepare_17 : decode cX7_prepare 17 = .ok (.getfield 15, 3) := by decide +kernel
theorem dX7_prepare_20 : decode cX7_prepare 20 = .ok (.getfield 28, 3) := by decide +kernel
theorem dX7_prepare_23 : decode cX7_prepare 23 = .ok (.putfield 34, 3) := by decide +kernel
theorem dX7_prepare_26 : decode cX7_prepare 26 = .ok (.aload_n 0, 1) := by decide +kernel
theorem dX7_prepare_27 : decode cX7_prepare 27 = .ok (.aload_n 0, 1) := by decide +kernel
theorem dX7_prepare_28 : decode cX7_prepare 28 = .ok (.getfield 15, 3) := by decide +kernel
theorem dX7_prepare_31 : decode cX7_prepare 31 = .ok (.getfield 35, 3) := by decide +kernel
theorem dX7_prepare_34 : decode cX7_prepare 34 = .ok (.putfield 38, 3) := by decide +kernel
theorem dX7_prepare_37 : decode cX7_prepare 37 = .ok (.return_, 1) := by decide +kernel
theorem dX7_stand_0 : decode cX7_stand 0 = .ok (.aload_n 0, 1) := by decide +kernel
theorem dX7_stand_1 : decode cX7_stand 1 = .ok (.iload_n 1, 1) := by decide +kernel
theorem dX7_stand_2 : decode cX7_stand 2 = .ok (.putfield 39, 3) := by decide +kernel
theorem dX7_stand_5 : decode cX7_stand 5 = .ok (.aload_n 0, 1) := by decide +kernel
theorem dX7_stand_6 : decode cX7_stand 6 = .ok (.iload_n 2, 1) := by decide +kernel
theorem dX7_stand_7 : decode cX7_stand 7 = .ok (.putfield 42, 3) := by decide +kernel
theorem dX7_stand_10 : decode cX7_stand 10 = .ok (.aload_n 0, 1) := by decide +kernel
theorem dX7_stand_11 : decode cX7_stand 11 = .ok (.iconst 0, 1) := by decide +kernel
theorem dX7_stand_12 : decode cX7_stand 12 = .ok (.putfield 45, 3) := by decide +kernel
theorem dX7_stand_15 : decode cX7_stand 15 = .ok (.aload_n 0, 1) := by decide +kernel
theorem dX7_stand_16 : decode cX7_stand 16 = .ok (.iconst 0, 1) := by decide +kernel
theorem dX7_stand_17 : decode cX7_stand 17 = .ok (.putfield 48, 3) := by decide +kernel
theorem dX7_stand_20 : decode cX7_stand 20 = .ok (.return_, 1) := by decide +kernel
theorem dX7_turn_0 : decode cX7_turn 0 = .ok (.aload_n 0, 1) := by decide +kernel
theorem dX7_turn_1 : decode cX7_turn 1 = .ok (.getfield 15, 3) := by decide +kernel
theorem dX7_turn_4 : decode cX7_turn 4 = .ok (.aload_n 0, 1) := by decide +kernel
theorem dX7_turn_5 : decode cX7_turn 5 = .ok (.getfield 39, 3) := by decide +kernel
theorem dX7_turn_8 : decode cX7_turn 8 = .ok (.invokevirtual 51, 3) := by decide +kernel
theorem dX7_turn_11 : decode cX7_turn 11 = .ok (.ifCond .ne 4, 3) := by decide +kernel
theorem dX7_turn_14 : decode cX7_turn 14 = .ok (.return_, 1) := by decide +kernel
theorem dX7_turn_15 : decode cX7_turn 15 = .ok (.aload_n 0, 1) := by decide +kernel
theorem dX7_turn_16 : decode cX7_turn 16 = .ok (.dup, 1) := by decide +kernel
theorem dX7_turn_17 : decode cX7_turn 17 = .ok (.getfield 45, 3) := by decide +kernel
theorem dX7_turn_20 : decode cX7_turn 20 = .ok (.iconst 1, 1) := by decide +kernel
theorem dX7_turn_21 : decode cX7_turn 21 = .ok (.iadd, 1) := by decide +kernel
theorem dX7_turn_22 : decode cX7_turn 22 = .ok (.putfield 45, 3) := by decide +kernel
theorem dX7_turn_25 : decode cX7_turn 25 = .ok (.aload_n 0, 1) := by decide +kernel
theorem dX7_turn_26 : decode cX7_turn 26 = .ok (.getfield 42, 3) := by decide +kernel
theorem dX7_turn_29 : decode cX7_turn 29 = .ok (.aload_n 0, 1) := by decide +kernel
theorem dX7_turn_30 : decode cX7_turn 30 = .ok (.getfield 34, 3) := by decide +kernel
theorem dX7_turn_33 : decode cX7_turn 33 = .ok (.if_icmp .ge 9, 3) := by decide +kernel
theorem dX7_turn_36 : decode cX7_turn 36 = .ok (.aload_n 0, 1) := by decide +kernel
theorem dX7_turn_37 : decode cX7_turn 37 = .ok (.iconst 0, 1) := by decide +kernel
theorem dX7_turn_38 : decode cX7_turn 38 = .ok (.putfield 42, 3) := by decide +kernel
theorem dX7_turn_41 : decode cX7_turn 41 = .ok (.return_, 1) := by decide +kernel
theorem dX7_turn_42 : decode cX7_turn 42 = .ok (.aload_n 0, 1) := by decide +kernel
theorem dX7_turn_43 : decode cX7_turn 43 = .ok (.aload_n 0, 1) := by decide +kernel
theorem dX7_turn_44 : decode cX7_turn 44 = .ok (.getfield 42, 3) := by decide +kernel
theorem dX7_turn_47 : decode cX7_turn 47 = .ok (.aload_n 0, 1) := by decide +kernel
theorem dX7_turn_48 : decode cX7_turn 48 = .ok (.getfield 34, 3) := by decide +kernel
theorem dX7_turn_51 : decode cX7_turn 51 = .ok (.isub, 1) := by decide +kernel
theorem dX7_turn_52 : decode cX7_turn 52 = .ok (.aload_n 0, 1) := by decide +kernel
theorem dX7_turn_53 : decode cX7_turn 53 = .ok (.getfield 15, 3) := by decide +kernel
theorem dX7_turn_56 : decode cX7_turn 56 = .ok (.getfield 55, 3) := by decide +kernel
theorem dX7_turn_59 : decode cX7_turn 59 = .ok (.aload_n 0, 1) := by decide +kernel
theorem dX7_turn_60 : decode cX7_turn 60 = .ok (.getfield 39, 3) := by decide +kernel
theorem dX7_turn_63 : decode cX7_turn 63 = .ok (.iaload, 1) := by decide +kernel
theorem dX7_turn_64 : decode cX7_turn 64 = .ok (.iadd, 1) := by decide +kernel
theorem dX7_turn_65 : decode cX7_turn 65 = .ok (.aload_n 0, 1) := by decide +kernel
theorem dX7_turn_66 : decode cX7_turn 66 = .ok (.getfield 38, 3) := by decide +kernel
theorem dX7_turn_69 : decode cX7_turn 69 = .ok (.isub, 1) := by decide +kernel
theorem dX7_turn_70 : decode cX7_turn 70 = .ok (.invokestatic 58, 3) := by decide +kernel
theorem dX7_turn_73 : decode cX7_turn 73 = .ok (.putfield 42, 3) := by decide +kernel
theorem dX7_turn_76 : decode cX7_turn 76 = .ok (.aload_n 0, 1) := by decide +kernel
theorem dX7_turn_77 : decode cX7_turn 77 = .ok (.dup, 1) := by decide +kernel
theorem dX7_turn_78 : decode cX7_turn 78 = .ok (.getfield 39, 3) := by decide +kernel
theorem dX7_turn_81 : decode cX7_turn 81 = .ok (.iconst 1, 1) := by decide +kernel
theorem dX7_turn_82 : decode cX7_turn 82 = .ok (.iadd, 1) := by decide +kernel
theorem dX7_turn_83 : decode cX7_turn 83 = .ok (.putfield 39, 3) := by decide +kernel
theorem dX7_turn_86 : decode cX7_turn 86 = .ok (.aload_n 0, 1) := by decide +kernel
theorem dX7_turn_87 : decode cX7_turn 87 = .ok (.invokevirtual 62, 3) := by decide +kernel
theorem dX7_turn_90 : decode cX7_turn 90 = .ok (.return_, 1) := by decide +kernel
theorem dX7_land_0 : decode cX7_land 0 = .ok (.aload_n 0, 1) := by decide +kernel
theorem dX7_land_1 : decode cX7_land 1 = .ok (.getfield 39, 3) := by decide +kernel
theorem dX7_land_4 : decode cX7_land 4 = .ok (.istore_n 1, 1) := by decide +kernel
theorem dX7_land_5 : decode cX7_land 5 = .ok (.iload_n 1, 1) := by decide +kernel
theorem dX7_land_6 : decode cX7_land 6 = .ok (.aload_n 0, 1) := by decide +kernel
theorem dX7_land_7 : decode cX7_land 7 = .ok (.getfield 15, 3) := by decide +kernel
theorem dX7_land_10 : decode cX7_land 10 = .ok (.getfield 65, 3) := by decide +kernel
theorem dX7_land_13 : decode cX7_land 13 = .ok (.if_icmp .ge 101, 3) := by decide +kernel
theorem dX7_land_16 : decode cX7_land 16 = .ok (.aload_n 0, 1) := by decide +kernel
theorem dX7_land_17 : decode cX7_land 17 = .ok (.aload_n 0, 1) := by decide +kernel
theorem dX7_land_18 : decode cX7_land 18 = .ok (.getfield 42, 3) := by decide +kernel
theorem dX7_land_21 : decode cX7_land 21 = .ok (.aload_n 0, 1) := by decide +kernel
theorem dX7_land_22 : decode cX7_land 22 = .ok (.getfield 9, 3) := by decide +kernel
theorem dX7_land_25 : decode cX7_land 25 = .ok (.iload_n 1, 1) := by decide +kernel
theorem dX7_land_26 : decode cX7_land 26 = .ok (.iaload, 1) := by decide +kernel
theorem dX7_land_27 : decode cX7_land 27 = .ok (.isub, 1) := by decide +kernel
theorem dX7_land_28 : decode cX7_land 28 = .ok (.invokestatic 58, 3) := by decide +kernel
theorem dX7_land_31 : decode cX7_land 31 = .ok (.putfield 42, 3) := by decide +kernel
theorem dX7_land_34 : decode cX7_land 34 = .ok (.aload_n 0, 1) := by decide +kernel
theorem dX7_land_35 : decode cX7_land 35 = .ok (.getfield 42, 3) := by decide +kernel
theorem dX7_land_38 : decode cX7_land 38 = .ok (.aload_n 0, 1) := by decide +kernel
theorem dX7_land_39 : decode cX7_land 39 = .ok (.getfield 15, 3) := by decide +kernel
theorem dX7_land_42 : decode cX7_land 42 = .ok (.getfield 68, 3) := by decide +kernel
theorem dX7_land_45 : decode cX7_land 45 = .ok (.aload_n 0, 1) := by decide +kernel
theorem dX7_land_46 : decode cX7_land 46 = .ok (.getfield 15, 3) := by decide +kernel
theorem dX7_land_49 : decode cX7_land 49 = .ok (.getfield 71, 3) := by decide +kernel
theorem dX7_land_52 : decode cX7_land 52 = .ok (.iload_n 1, 1) := by decide +kernel
theorem dX7_land_53 : decode cX7_land 53 = .ok (.iaload, 1) := by decide +kernel
theorem dX7_land_54 : decode cX7_land 54 = .ok (.iadd, 1) := by decide +kernel
theorem dX7_land_55 : decode cX7_land 55 = .ok (.if_icmp .gt 4, 3) := by decide +kernel
theorem dX7_land_58 : decode cX7_land 58 = .ok (.return_, 1) := by decide +kernel
theorem dX7_land_59 : decode cX7_land 59 = .ok (.aload_n 0, 1) := by decide +kernel
theorem dX7_land_60 : decode cX7_land 60 = .ok (.dup, 1) := by decide +kernel
theorem dX7_land_61 : decode cX7_land 61 = .ok (.getfield 48, 3) := by decide +kernel
theorem dX7_land_64 : decode cX7_land 64 = .ok (.iconst 1, 1) := by decide +kernel
theorem dX7_land_65 : decode cX7_land 65 = .ok (.iload_n 1, 1) := by decide +kernel
theorem dX7_land_66 : decode cX7_land 66 = .ok (.ishl, 1) := by decide +kernel
theorem dX7_land_67 : decode cX7_land 67 = .ok (.ior, 1) := by decide +kernel
theorem dX7_land_68 : decode cX7_land 68 = .ok (.putfield 48, 3) := by decide +kernel
theorem dX7_land_71 : decode cX7_land 71 = .ok (.aload_n 0, 1) := by decide +kernel
theorem dX7_land_72 : decode cX7_land 72 = .ok (.aload_n 0, 1) := by decide +kernel
theorem dX7_land_73 : decode cX7_land 73 = .ok (.getfield 42, 3) := by decide +kernel
theorem dX7_land_76 : decode cX7_land 76 = .ok (.aload_n 0, 1) := by decide +kernel
theorem dX7_land_77 : decode cX7_land 77 = .ok (.getfield 15, 3) := by decide +kernel
theorem dX7_land_80 : decode cX7_land 80 = .ok (.getfield 55, 3) := by decide +kernel
theorem dX7_land_83 : decode cX7_land 83 = .ok (.iload_n 1, 1) := by decide +kernel
theorem dX7_land_84 : decode cX7_land 84 = .ok (.iaload, 1) := by decide +kernel
theorem dX7_land_85 : decode cX7_land 85 = .ok (.iadd, 1) := by decide +kernel
theorem dX7_land_86 : decode cX7_land 86 = .ok (.iconst 2, 1) := by decide +kernel
theorem dX7_land_87 : decode cX7_land 87 = .ok (.aload_n 0, 1) := by decide +kernel
theorem dX7_land_88 : decode cX7_land 88 = .ok (.getfield 38, 3) := by decide +kernel
theorem dX7_land_91 : decode cX7_land 91 = .ok (.imul, 1) := by decide +kernel
theorem dX7_land_92 : decode cX7_land 92 = .ok (.isub, 1) := by decide +kernel
theorem dX7_land_93 : decode cX7_land 93 = .ok (.iconst 1, 1) := by decide +kernel
theorem dX7_land_94 : decode cX7_land 94 = .ok (.isub, 1) := by decide +kernel
theorem dX7_land_95 : decode cX7_land 95 = .ok (.invokestatic 58, 3) := by decide +kernel
theorem dX7_land_98 : decode cX7_land 98 = .ok (.putfield 42, 3) := by decide +kernel
theorem dX7_land_101 : decode cX7_land 101 = .ok (.aload_n 0, 1) := by decide +kernel
theorem dX7_land_102 : decode cX7_land 102 = .ok (.iload_n 1, 1) := by decide +kernel
theorem dX7_land_103 : decode cX7_land 103 = .ok (.iconst 1, 1) := by decide +kernel
theorem dX7_land_104 : decode cX7_land 104 = .ok (.iadd, 1) := by decide +kernel
theorem dX7_land_105 : decode cX7_land 105 = .ok (.putfield 39, 3) := by decide +kernel
theorem dX7_land_108 : decode cX7_land 108 = .ok (.iinc 1 1, 3) := by decide +kernel
theorem dX7_land_111 : decode cX7_land 111 = .ok (.goto (-106), 3) := by decide +kernel
theorem dX7_land_114 : decode cX7_land 114 = .ok (.aload_n 0, 1) := by decide +kernel
theorem dX7_land_115 : decode cX7_land 115 = .ok (.iconst 0, 1) := by decide +kernel
theorem dX7_land_116 : decode cX7_land 116 = .ok (.putfield 42, 3) := by decide +kernel
theorem dX7_land_119 : decode cX7_land 119 = .ok (.return_, 1) := by decide +kernel
theorem dX7_run_0 : decode cX7_run 0 = .ok (.aload_n 0, 1) := by decide +kernel
theorem dX7_run_1 : decode cX7_run 1 = .ok (.iload_n 1, 1) := by decide +kernel
theorem dX7_run_2 : decode cX7_run 2 = .ok (.iload_n 2, 1) := by decide +kernel
theorem dX7_run_3 : decode cX7_run 3 = .ok (.invokevirtual 74, 3) := by decide +kernel
theorem dX7_run_6 : decode cX7_run 6 = .ok (.iconst 0, 1) := by decide +kernel
theorem dX7_run_7 : decode cX7_run 7 = .ok (.istore_n 3, 1) := by decide +kernel
theorem dX7_run_8 : decode cX7_run 8 = .ok (.iload_n 3, 1) := by decide +kernel
theorem dX7_run_9 : decode cX7_run 9 = .ok (.bipush 9, 2) := by decide +kernel
theorem dX7_run_11 : decode cX7_run 11 = .ok (.if_icmp .ge 34, 3) := by decide +kernel
theorem dX7_run_14 : decode cX7_run 14 = .ok (.aload_n 0, 1) := by decide +kernel
theorem dX7_run_15 : decode cX7_run 15 = .ok (.getfield 42, 3) := by decide +kernel
theorem dX7_run_18 : decode cX7_run 18 = .ok (.ifCond .le 27, 3) := by decide +kernel
theorem dX7_run_21 : decode cX7_run 21 = .ok (.aload_n 0, 1) := by decide +kernel
theorem dX7_run_22 : decode cX7_run 22 = .ok (.getfield 15, 3) := by decide +kernel
theorem dX7_run_25 : decode cX7_run 25 = .ok (.aload_n 0, 1) := by decide +kernel
theorem dX7_run_26 : decode cX7_run 26 = .ok (.getfield 39, 3) := by decide +kernel
theorem dX7_run_29 : decode cX7_run 29 = .ok (.invokevirtual 51, 3) := by decide +kernel
theorem dX7_run_32 : decode cX7_run 32 = .ok (.ifCond .eq 13, 3) := by decide +kernel
theorem dX7_run_35 : decode cX7_run 35 = .ok (.aload_n 0, 1) := by decide +kernel
theorem dX7_run_36 : decode cX7_run 36 = .ok (.invokevirtual 78, 3) := by decide +kernel
theorem dX7_run_39 : decode cX7_run 39 = .ok (.iinc 3 1, 3) := by decide +kernel
theorem dX7_run_42 : decode cX7_run 42 = .ok (.goto (-34), 3) := by decide +kernel
theorem dX7_run_45 : decode cX7_run 45 = .ok (.aload_n 0, 1) := by decide +kernel
theorem dX7_run_46 : decode cX7_run 46 = .ok (.getfield 39, 3) := by decide +kernel
theorem dX7_run_49 : decode cX7_run 49 = .ok (.ireturn, 1) := by decide +kernel
theorem dX8_init_0 : decode cX8_init 0 = .ok (.aload_n 0, 1) := by decide +kernel
theorem dX8_init_1 : decode cX8_init 1 = .ok (.invokespecial 3, 3) := by decide +kernel
theorem dX8_init_4 : decode cX8_init 4 = .ok (.aload_n 0, 1) := by decide +kernel
theorem dX8_init_5 : decode cX8_init 5 = .ok (.new 9, 3) := by decide +kernel
theorem dX8_init_8 : decode cX8_init 8 = .ok (.dup, 1) := by decide +kernel
theorem dX8_init_9 : decode cX8_init 9 = .ok (.invokespecial 11, 3) := by decide +kernel
theorem dX8_init_12 : decode cX8_init 12 = .ok (.putfield 12, 3) := by decide +kernel
theorem dX8_init_15 : decode cX8_init 15 = .ok (.aload_n 0, 1) := by decide +kernel
theorem dX8_init_16 : decode cX8_init 16 = .ok (.new 16, 3) := by decide +kernel
theorem dX8_init_19 : decode cX8_init 19 = .ok (.dup, 1) := by decide +kernel
theorem dX8_init_20 : decode cX8_init 20 = .ok (.invokespecial 18, 3) := by decide +kernel
theorem dX8_init_23 : decode cX8_init 23 = .ok (.putfield 19, 3) := by decide +kernel
theorem dX8_init_26 : decode cX8_init 26 = .ok (.aload_n 0, 1) := by decide +kernel
theorem dX8_init_27 : decode cX8_init 27 = .ok (.new 23, 3) := by decide +kernel
theorem dX8_init_30 : decode cX8_init 30 = .ok (.dup, 1) := by decide +kernel
theorem dX8_init_31 : decode cX8_init 31 = .ok (.invokespecial 25, 3) := by decide +kernel
theorem dX8_init_34 : decode cX8_init 34 = .ok (.putfield 26, 3) := by decide +kernel
theorem dX8_init_37 : decode cX8_init 37 = .ok (.aload_n 0, 1) := by decide +kernel
theorem dX8_init_38 : decode cX8_init 38 = .ok (.new 30, 3) := by decide +kernel
theorem dX8_init_41 : decode cX8_init 41 = .ok (.dup, 1) := by decide +kernel
theorem dX8_init_42 : decode cX8_init 42 = .ok (.invokespecial 32, 3) := by decide +kernel
theorem dX8_init_45 : decode cX8_init 45 = .ok (.putfield 33, 3) := by decide +kernel
theorem dX8_init_48 : decode cX8_init 48 = .ok (.aload_n 0, 1) := by decide +kernel
theorem dX8_init_49 : decode cX8_init 49 = .ok (.iconst 2, 1) := by decide +kernel
theorem dX8_init_50 : decode cX8_init 50 = .ok (.anewarray 23, 3) := by decide +kernel
theorem dX8_init_53 : decode cX8_init 53 = .ok (.putfield 37, 3) := by decide +kernel
theorem dX8_init_56 : decode cX8_init 56 = .ok (.iconst 0, 1) := by decide +kernel
theorem dX8_init_57 : decode cX8_init 57 = .ok (.istore_n 1, 1) := by decide +kernel
theorem dX8_init_58 : decode cX8_init 58 = .ok (.iload_n 1, 1) := by decide +kernel
theorem dX8_init_59 : decode cX8_init 59 = .ok (.iconst 2, 1) := by decide +kernel
theorem dX8_init_60 : decode cX8_init 60 = .ok (.if_icmp .ge 22, 3) := by decide +kernel
theorem dX8_init_63 : decode cX8_init 63 = .ok (.aload_n 0, 1) := by decide +kernel
theorem dX8_init_64 : decode cX8_init 64 = .ok (.getfield 37, 3) := by decide +kernel
theorem dX8_init_67 : decode cX8_init 67 = .ok (.iload_n 1, 1) := by decide +kernel
theorem dX8_init_68 : decode cX8_init 68 = .ok (.new 23, 3) := by decide +kernel
theorem dX8_init_71 : decode cX8_init 71 = .ok (.dup, 1) := by decide +kernel
theorem dX8_init_72 : decode cX8_init 72 = .ok (.invokespecial 25, 3) := by decide +kernel
theorem dX8_init_75 : decode cX8_init 75 = .ok (.aastore, 1) := by decide +kernel
theorem dX8_init_76 : decode cX8_init 76 = .ok (.iinc 1 1, 3) := by decide +kernel
theorem dX8_init_79 : decode cX8_init 79 = .ok (.goto (-21), 3) := by decide +kernel
theorem dX8_init_82 : decode cX8_init 82 = .ok (.aload_n 0, 1) := by decide +kernel
theorem dX8_init_83 : decode cX8_init 83 = .ok (.iconst 2, 1) := by decide +kernel
theorem dX8_init_84 : decode cX8_init 84 = .ok (.newarray .boolean, 2) := by decide +kernel
theorem dX8_init_86 : decode cX8_init 86 = .ok (.putfield 41, 3) := by decide +kernel
theorem dX8_init_89 : decode cX8_init 89 = .ok (.aload_n 0, 1) := by decide +kernel
theorem dX8_init_90 : decode cX8_init 90 = .ok (.new 45, 3) := by decide +kernel
theorem dX8_init_93 : decode cX8_init 93 = .ok (.dup, 1) := by decide +kernel
theorem dX8_init_94 : decode cX8_init 94 = .ok (.aload_n 0, 1) := by decide +kernel
theorem dX8_init_95 : decode cX8_init 95 = .ok (.getfield 12, 3) := by decide +kernel
theorem dX8_init_98 : decode cX8_init 98 = .ok (.invokespecial 47, 3) := by decide +kernel
theorem dX8_init_101 : decode cX8_init 101 = .ok (.putfield 50, 3) := by decide +kernel
theorem dX8_init_104 : decode cX8_init 104 = .ok (.aload_n 0, 1) := by decide +kernel
theorem dX8_init_105 : decode cX8_init 105 = .ok (.new 54, 3) := by decide +kernel
theorem dX8_init_108 : decode cX8_init 108 = .ok (.dup, 1) := by decide +kernel
theorem dX8_init_109 : decode cX8_init 109 = .ok (.aload_n 0, 1) := by decide +kernel
theorem dX8_init_110 : decode cX8_init 110 = .ok (.getfield 50, 3) := by decide +kernel
theorem dX8_init_113 : decode cX8_init 113 = .ok (.invokespecial 56, 3) := by decide +kernel
theorem dX8_init_116 : decode cX8_init 116 = .ok (.putfield 59, 3) := by decide +kernel
theorem dX8_init_119 : decode cX8_init 119 = .ok (.aload_n 0, 1) := by decide +kernel
theorem dX8_init_120 : decode cX8_init 120 = .ok (.new 63, 3) := by decide +kernel
theorem dX8_init_123 : decode cX8_init 123 = .ok (.dup, 1) := by decide +kernel
theorem dX8_init_124 : decode cX8_init 124 = .ok (.aload_n 0, 1) := by decide +kernel
theorem dX8_init_125 : decode cX8_init 125 = .ok (.getfield 50, 3) := by decide +kernel
theorem dX8_init_128 : decode cX8_init 128 = .ok (.invokespecial 65, 3) := by decide +kernel
theorem dX8_init_131 : decode cX8_init 131 = .ok (.putfield 66, 3) := by decide +kernel
theorem dX8_init_134 : decode cX8_init 134 = .ok (.aload_n 0, 1) := by decide +kernel
theorem dX8_init_135 : decode cX8_init 135 = .ok (.new 70, 3) := by decide +kernel
theorem dX8_init_138 : decode cX8_init 138 = .ok (.dup, 1) := by decide +kernel
theorem dX8_init_139 : decode cX8_init 139 = .ok (.aload_n 0, 1) := by decide +kernel
theorem dX8_init_140 : decode cX8_init 140 = .ok (.getfield 50, 3) := by decide +kernel
theorem dX8_init_143 : decode cX8_init 143 = .ok (.invokespecial 72, 3) := by decide +kernel
theorem dX8_init_146 : decode cX8_init 146 = .ok (.putfield 73, 3) := by decide +kernel
theorem dX8_init_149 : decode cX8_init 149 = .ok (.aload_n 0, 1) := by decide +kernel
theorem dX8_init_150 : decode cX8_init 150 = .ok (.lconst 0, 1) := by decide +kernel
theorem dX8_init_151 : decode cX8_init 151 = .ok (.putfield 77, 3) := by decide +kernel
theorem dX8_init_154 : decode cX8_init 154 = .ok (.return_, 1) := by decide +kernel
theorem dX8_type_0 : decode cX8_type 0 = .ok (.iload_n 1, 1) := by decide +kernel
theorem dX8_type_1 : decode cX8_type 1 = .ok (.iconst 0, 1) := by decide +kernel
theorem dX8_type_2 : decode cX8_type 2 = .ok (.sipush 255, 3) := by decide +kernel
theorem dX8_type_5 : decode cX8_type 5 = .ok (.invokestatic 81, 3) := by decide +kernel
theorem dX8_type_8 : decode cX8_type 8 = .ok (.ifCond .ne 5, 3) := by decide +kernel
theorem dX8_type_11 : decode cX8_type 11 = .ok (.iconst (-1), 1) := by decide +kernel
theorem dX8_type_12 : decode cX8_type 12 = .ok (.ireturn, 1) := by decide +kernel
theorem dX8_type_13 : decode cX8_type 13 = .ok (.aload_n 0, 1) := by decide +kernel
theorem dX8_type_14 : decode cX8_type 14 = .ok (.getfield 19, 3) := by decide +kernel
theorem dX8_type_17 : decode cX8_type 17 = .ok (.iload_n 1, 1) := by decide +kernel
theorem dX8_type_18 : decode cX8_type 18 = .ok (.i2c, 1) := by decide +kernel
theorem dX8_type_19 : decode cX8_type 19 = .ok (.invokevirtual 85, 3) := by decide +kernel
theorem dX8_type_22 : decode cX8_type 22 = .ok (.ifCond .eq 13, 3) := by decide +kernel
theorem dX8_type_25 : decode cX8_type 25 = .ok (.aload_n 0, 1) := by decide +kernel
theorem dX8_type_26 : decode cX8_type 26 = .ok (.getfield 19, 3) := by decide +kernel
theorem dX8_type_29 : decode cX8_type 29 = .ok (.getfield 89, 3) := by decide +kernel
theorem dX8_type_32 : decode cX8_type 32 = .ok (.goto 5, 3) := by decide +kernel
theorem dX8_type_35 : decode cX8_type 35 = .ok (.bipush (-3), 2) := by decide +kernel
theorem dX8_type_37 : decode cX8_type 37 = .ok (.ireturn, 1) := by decide +kernel
theorem dX8_clear_0 : decode cX8_clear 0 = .ok (.aload_n 0, 1) := by decide +kernel
theorem dX8_clear_1 : decode cX8_clear 1 = .ok (.getfield 19, 3) := by decide +kernel
theorem dX8_clear_4 : decode cX8_clear 4 = .ok (.getfield 89, 3) := by decide +kernel
theorem dX8_clear_7 : decode cX8_clear 7 = .ok (.istore_n 1, 1) := by decide +kernel
theorem dX8_clear_8 : decode cX8_clear 8 = .ok (.aload_n 0, 1) := by decide +kernel
theorem dX8_clear_9 : decode cX8_clear 9 = .ok (.getfield 19, 3) := by decide +kernel
theorem dX8_clear_12 : decode cX8_clear 12 = .ok (.iconst 0, 1) := by decide +kernel
theorem dX8_clear_13 : decode cX8_clear 13 = .ok (.putfield 89, 3) := by decide +kernel
theorem dX8_clear_16 : decode cX8_clear 16 = .ok (.iload_n 1, 1) := by decide +kernel
theorem dX8_clear_17 : decode cX8_clear 17 = .ok (.ireturn, 1) := by decide +kernel
theorem dX8_stairs_0 : decode cX8_stairs 0 = .ok (.aload_n 0, 1) := by decide +kernel
theorem dX8_stairs_1 : decode cX8_stairs 1 = .ok (.getfield 19, 3) := by decide +kernel
theorem dX8_stairs_4 : decode cX8_stairs 4 = .ok (.invokevirtual 93, 3) := by decide +kernel
theorem dX8_stairs_7 : decode cX8_stairs 7 = .ok (.ifCond .ne 14, 3) := by decide +kernel
theorem dX8_stairs_10 : decode cX8_stairs 10 = .ok (.bipush (-10), 2) := by decide +kernel
theorem dX8_stairs_12 : decode cX8_stairs 12 = .ok (.aload_n 0, 1) := by decide +kernel
theorem dX8_stairs_13 : decode cX8_stairs 13 = .ok (.getfield 19, 3) := by decide +kernel
theorem dX8_stairs_16 : decode cX8_stairs 16 = .ok (.getfield 97, 3) := by decide +kernel
theorem dX8_stairs_19 : decode cX8_stairs 19 = .ok (.isub, 1) := by decide +kernel
theorem dX8_stairs_20 : decode cX8_stairs 20 = .ok (.ireturn, 1) := by decide +kernel
theorem dX8_stairs_21 : decode cX8_stairs 21 = .ok (.aload_n 0, 1) := by decide +kernel
theorem dX8_stairs_22 : decode cX8_stairs 22 = .ok (.getfield 12, 3) := by decide +kernel
theorem dX8_stairs_25 : decode cX8_stairs 25 = .ok (.aload_n 0, 1) := by decide +kernel
theorem dX8_stairs_26 : decode cX8_stairs 26 = .ok (.getfield 19, 3) := by decide +kernel
theorem dX8_stairs_29 : decode cX8_stairs 29 = .ok (.getfield 100, 3) := by decide +kernel
theorem dX8_stairs_32 : decode cX8_stairs 32 = .ok (.invokevirtual 103, 3) := by decide +kernel
theorem dX8_stairs_35 : decode cX8_stairs 35 = .ok (.aload_n 0, 1) := by decide +kernel
theorem dX8_stairs_36 : decode cX8_stairs 36 = .ok (.getfield 26, 3) := by decide +kernel
theorem dX8_stairs_39 : decode cX8_stairs 39 = .ok (.aload_n 0, 1) := by decide +kernel
theorem dX8_stairs_40 : decode cX8_stairs 40 = .ok (.getfield 12, 3) := by decide +kernel
theorem dX8_stairs_43 : decode cX8_stairs 43 = .ok (.invokevirtual 106, 3) := by decide +kernel
theorem dX8_stairs_46 : decode cX8_stairs 46 = .ok (.aload_n 0, 1) := by decide +kernel
theorem dX8_stairs_47 : decode cX8_stairs 47 = .ok (.getfield 33, 3) := by decide +kernel
theorem dX8_stairs_50 : decode cX8_stairs 50 = .ok (.iconst 0, 1) := by decide +kernel
theorem dX8_stairs_51 : decode cX8_stairs 51 = .ok (.putfield 109, 3) := by decide +kernel
theorem dX8_stairs_54 : decode cX8_stairs 54 = .ok (.aload_n 0, 1) := by decide +kernel
theorem dX8_stairs_55 : decode cX8_stairs 55 = .ok (.getfield 66, 3) := by decide +kernel
theorem dX8_stairs_58 : decode cX8_stairs 58 = .ok (.iconst 0, 1) := by decide +kernel
theorem dX8_stairs_59 : decode cX8_stairs 59 = .ok (.putfield 112, 3) := by decide +kernel
theorem dX8_stairs_62 : decode cX8_stairs 62 = .ok (.iconst 0, 1) := by decide +kernel
theorem dX8_stairs_63 : decode cX8_stairs 63 = .ok (.istore_n 1, 1) := by decide +kernel
theorem dX8_stairs_64 : decode cX8_stairs 64 = .ok (.iload_n 1, 1) := by decide +kernel
theorem dX8_stairs_65 : decode cX8_stairs 65 = .ok (.iconst 2, 1) := by decide +kernel
theorem dX8_stairs_66 : decode cX8_stairs 66 = .ok (.if_icmp .ge 16, 3) := by decide +kernel
theorem dX8_stairs_69 : decode cX8_stairs 69 = .ok (.aload_n 0, 1) := by decide +kernel
theorem dX8_stairs_70 : decode cX8_stairs 70 = .ok (.getfield 41, 3) := by decide +kernel
theorem dX8_stairs_73 : decode cX8_stairs 73 = .ok (.iload_n 1, 1) := by decide +kernel
theorem dX8_stairs_74 : decode cX8_stairs 74 = .ok (.iconst 0, 1) := by decide +kernel
theorem dX8_stairs_75 : decode cX8_stairs 75 = .ok (.bastore, 1) := by decide +kernel
theorem dX8_stairs_76 : decode cX8_stairs 76 = .ok (.iinc 1 1, 3) := by decide +kernel
theorem dX8_stairs_79 : decode cX8_stairs 79 = .ok (.goto (-15), 3) := by decide +kernel
theorem dX8_stairs_82 : decode cX8_stairs 82 = .ok (.aload_n 0, 1) := by decide +kernel
theorem dX8_stairs_83 : decode cX8_stairs 83 = .ok (.getfield 19, 3) := by decide +kernel
theorem dX8_stairs_86 : decode cX8_stairs 86 = .ok (.iconst 0, 1) := by decide +kernel
theorem dX8_stairs_87 : decode cX8_stairs 87 = .ok (.putfield 89, 3) := by decide +kernel
theorem dX8_stairs_90 : decode cX8_stairs 90 = .ok (.aload_n 0, 1) := by decide +kernel
theorem dX8_stairs_91 : decode cX8_stairs 91 = .ok (.getfield 19, 3) := by decide +kernel
theorem dX8_stairs_94 : decode cX8_stairs 94 = .ok (.getfield 115, 3) := by decide +kernel
theorem dX8_stairs_97 : decode cX8_stairs 97 = .ok (.ireturn, 1) := by decide +kernel
theorem dX8_step_0 : decode cX8_step 0 = .ok (.aload_n 0, 1) := by decide +kernel
theorem dX8_step_1 : decode cX8_step 1 = .ok (.getfield 12, 3) := by decide +kernel
theorem dX8_step_4 : decode cX8_step 4 = .ok (.iload_n 1, 1) := by decide +kernel
theorem dX8_step_5 : decode cX8_step 5 = .ok (.invokevirtual 118, 3) := by decide +kernel
theorem dX8_step_8 : decode cX8_step 8 = .ok (.ifCond .ne 5, 3) := by decide +kernel
theorem dX8_step_11 : decode cX8_step 11 = .ok (.iconst (-1), 1) := by decide +kernel
theorem dX8_step_12 : decode cX8_step 12 = .ok (.ireturn, 1) := by decide +kernel
theorem dX8_step_13 : decode cX8_step 13 = .ok (.iload_n 2, 1) := by decide +kernel
theorem dX8_step_14 : decode cX8_step 14 = .ok (.tableswitch 56 0 2 #[26, 36, 46], 26) := by decide +kernel
theorem dX8_step_40 : decode cX8_step 40 = .ok (.aload_n 0, 1) := by decide +kernel
theorem dX8_step_41 : decode cX8_step 41 = .ok (.getfield 12, 3) := by decide +kernel
theorem dX8_step_44 : decode cX8_step 44 = .ok (.getfield 122, 3) := by decide +kernel
theorem dX8_step_47 : decode cX8_step 47 = .ok (.iload_n 1, 1) := by decide +kernel
theorem dX8_step_48 : decode cX8_step 48 = .ok (.iaload, 1) := by decide +kernel
theorem dX8_step_49 : decode cX8_step 49 = .ok (.ireturn, 1) := by decide +kernel
theorem dX8_step_50 : decode cX8_step 50 = .ok (.aload_n 0, 1) := by decide +kernel
theorem dX8_step_51 : decode cX8_step 51 = .ok (.getfield 12, 3) := by decide +kernel
theorem dX8_step_54 : decode cX8_step 54 = .ok (.getfield 126, 3) := by decide +kernel
theorem dX8_step_57 : decode cX8_step 57 = .ok (.iload_n 1, 1) := by decide +kernel
theorem dX8_step_58 : decode cX8_step 58 = .ok (.iaload, 1) := by decide +kernel
theorem dX8_step_59 : decode cX8_step 59 = .ok (.ireturn, 1) := by decide +kernel
theorem dX8_step_60 : decode cX8_step 60 = .ok (.aload_n 0, 1) := by decide +kernel
theorem dX8_step_61 : decode cX8_step 61 = .ok (.getfield 26, 3) := by decide +kernel
theorem dX8_step_64 : decode cX8_step 64 = .ok (.getfield 129, 3) := by decide +kernel
theorem dX8_step_67 : decode cX8_step 67 = .ok (.iload_n 1, 1) := by decide +kernel
theorem dX8_step_68 : decode cX8_step 68 = .ok (.iaload, 1) := by decide +kernel
theorem dX8_step_69 : decode cX8_step 69 = .ok (.ireturn, 1) := by decide +kernel
theorem dX8_step_70 : decode cX8_step 70 = .ok (.iconst (-1), 1) := by decide +kernel
theorem dX8_step_71 : decode cX8_step 71 = .ok (.ireturn, 1) := by decide +kernel
theorem dX8_now_0 : decode cX8_now 0 = .ok (.iload_n 1, 1) := by decide +kernel
theorem dX8_now_1 : decode cX8_now 1 = .ok (.tableswitch 165 0 8 #[51, 59, 67, 75, 87, 107, 127, 142, 157], 51) := by decide +kernel
theorem dX8_now_52 : decode cX8_now 52 = .ok (.aload_n 0, 1) := by decide +kernel
theorem dX8_now_53 : decode cX8_now 53 = .ok (.getfield 26, 3) := by decide +kernel
theorem dX8_now_56 : decode cX8_now 56 = .ok (.getfield 132, 3) := by decide +kernel
theorem dX8_now_59 : decode cX8_now 59 = .ok (.ireturn, 1) := by decide +kernel
theorem dX8_now_60 : decode cX8_now 60 = .ok (.aload_n 0, 1) := by decide +kernel
theorem dX8_now_61 : decode cX8_now 61 = .ok (.getfield 26, 3) := by decide +kernel
theorem dX8_now_64 : decode cX8_now 64 = .ok (.getfield 135, 3) := by decide +kernel
theorem dX8_now_67 : decode cX8_now 67 = .ok (.ireturn, 1) := by decide +kernel
theorem dX8_now_68 : decode cX8_now 68 = .ok (.aload_n 0, 1) := by decide +kernel
theorem dX8_now_69 : decode cX8_now 69 = .ok (.getfield 26, 3) := by decide +kernel
end
section
theorem dX8_now_72 : decode cX8_now 72 = .ok (.getfield 138, 3) := by decide +kernel
theorem dX8_now_75 : decode cX8_now 75 = .ok (.ireturn, 1) := by decide +kernel
theorem dX8_now_76 : decode cX8_now 76 = .ok (.aload_n 0, 1) := by decide +kernel
theorem dX8_now_77 : decode cX8_now 77 = .ok (.aload_n 0, 1) := by decide +kernel
theorem dX8_now_78 : decode cX8_now 78 = .ok (.getfield 26, 3) := by decide +kernel
theorem dX8_now_81 : decode cX8_now 81 = .ok (.getfield 135, 3) := by decide +kernel
theorem dX8_now_84 : decode cX8_now 84 = .ok (.invokevirtual 141, 3) := by decide +kernel
theorem dX8_now_87 : decode cX8_now 87 = .ok (.ireturn, 1) := by decide +kernel
theorem dX8_now_88 : decode cX8_now 88 = .ok (.aload_n 0, 1) := by decide +kernel
theorem dX8_now_89 : decode cX8_now 89 = .ok (.aload_n 0, 1) := by decide +kernel
theorem dX8_now_90 : decode cX8_now 90 = .ok (.getfield 26, 3) := by decide +kernel
theorem dX8_now_93 : decode cX8_now 93 = .ok (.getfield 135, 3) := by decide +kernel
theorem dX8_now_96 : decode cX8_now 96 = .ok (.invokevirtual 141, 3) := by decide +kernel
theorem dX8_now_99 : decode cX8_now 99 = .ok (.pop, 1) := by decide +kernel
theorem dX8_now_100 : decode cX8_now 100 = .ok (.aload_n 0, 1) := by decide +kernel
theorem dX8_now_101 : decode cX8_now 101 = .ok (.getfield 50, 3) := by decide +kernel
theorem dX8_now_104 : decode cX8_now 104 = .ok (.getfield 145, 3) := by decide +kernel
theorem dX8_now_107 : decode cX8_now 107 = .ok (.ireturn, 1) := by decide +kernel
theorem dX8_now_108 : decode cX8_now 108 = .ok (.aload_n 0, 1) := by decide +kernel
theorem dX8_now_109 : decode cX8_now 109 = .ok (.aload_n 0, 1) := by decide +kernel
theorem dX8_now_110 : decode cX8_now 110 = .ok (.getfield 26, 3) := by decide +kernel
theorem dX8_now_113 : decode cX8_now 113 = .ok (.getfield 135, 3) := by decide +kernel
theorem dX8_now_116 : decode cX8_now 116 = .ok (.invokevirtual 141, 3) := by decide +kernel
theorem dX8_now_119 : decode cX8_now 119 = .ok (.pop, 1) := by decide +kernel
theorem dX8_now_120 : decode cX8_now 120 = .ok (.aload_n 0, 1) := by decide +kernel
theorem dX8_now_121 : decode cX8_now 121 = .ok (.getfield 50, 3) := by decide +kernel
theorem dX8_now_124 : decode cX8_now 124 = .ok (.getfield 146, 3) := by decide +kernel
theorem dX8_now_127 : decode cX8_now 127 = .ok (.ireturn, 1) := by decide +kernel
theorem dX8_now_128 : decode cX8_now 128 = .ok (.aload_n 0, 1) := by decide +kernel
theorem dX8_now_129 : decode cX8_now 129 = .ok (.getfield 59, 3) := by decide +kernel
theorem dX8_now_132 : decode cX8_now 132 = .ok (.aload_n 0, 1) := by decide +kernel
theorem dX8_now_133 : decode cX8_now 133 = .ok (.getfield 26, 3) := by decide +kernel
theorem dX8_now_136 : decode cX8_now 136 = .ok (.invokevirtual 149, 3) := by decide +kernel
theorem dX8_now_139 : decode cX8_now 139 = .ok (.bipush 10, 2) := by decide +kernel
theorem dX8_now_141 : decode cX8_now 141 = .ok (.idiv, 1) := by decide +kernel
theorem dX8_now_142 : decode cX8_now 142 = .ok (.ireturn, 1) := by decide +kernel
theorem dX8_now_143 : decode cX8_now 143 = .ok (.aload_n 0, 1) := by decide +kernel
theorem dX8_now_144 : decode cX8_now 144 = .ok (.getfield 59, 3) := by decide +kernel
theorem dX8_now_147 : decode cX8_now 147 = .ok (.aload_n 0, 1) := by decide +kernel
theorem dX8_now_148 : decode cX8_now 148 = .ok (.getfield 26, 3) := by decide +kernel
theorem dX8_now_151 : decode cX8_now 151 = .ok (.invokevirtual 149, 3) := by decide +kernel
theorem dX8_now_154 : decode cX8_now 154 = .ok (.bipush 10, 2) := by decide +kernel
theorem dX8_now_156 : decode cX8_now 156 = .ok (.irem, 1) := by decide +kernel
theorem dX8_now_157 : decode cX8_now 157 = .ok (.ireturn, 1) := by decide +kernel
theorem dX8_now_158 : decode cX8_now 158 = .ok (.aload_n 0, 1) := by decide +kernel
theorem dX8_now_159 : decode cX8_now 159 = .ok (.getfield 33, 3) := by decide +kernel
theorem dX8_now_162 : decode cX8_now 162 = .ok (.getfield 109, 3) := by decide +kernel
theorem dX8_now_165 : decode cX8_now 165 = .ok (.ireturn, 1) := by decide +kernel
theorem dX8_now_166 : decode cX8_now 166 = .ok (.iconst (-1), 1) := by decide +kernel
theorem dX8_now_167 : decode cX8_now 167 = .ok (.ireturn, 1) := by decide +kernel
theorem dX8_flips_0 : decode cX8_flips 0 = .ok (.aload_n 0, 1) := by decide +kernel
theorem dX8_flips_1 : decode cX8_flips 1 = .ok (.getfield 12, 3) := by decide +kernel
theorem dX8_flips_4 : decode cX8_flips 4 = .ok (.aload_n 0, 1) := by decide +kernel
theorem dX8_flips_5 : decode cX8_flips 5 = .ok (.getfield 26, 3) := by decide +kernel
theorem dX8_flips_8 : decode cX8_flips 8 = .ok (.getfield 132, 3) := by decide +kernel
theorem dX8_flips_11 : decode cX8_flips 11 = .ok (.invokevirtual 118, 3) := by decide +kernel
theorem dX8_flips_14 : decode cX8_flips 14 = .ok (.ifCond .eq 26, 3) := by decide +kernel
theorem dX8_flips_17 : decode cX8_flips 17 = .ok (.aload_n 0, 1) := by decide +kernel
theorem dX8_flips_18 : decode cX8_flips 18 = .ok (.getfield 26, 3) := by decide +kernel
theorem dX8_flips_21 : decode cX8_flips 21 = .ok (.getfield 135, 3) := by decide +kernel
theorem dX8_flips_24 : decode cX8_flips 24 = .ok (.ifCond .eq 16, 3) := by decide +kernel
theorem dX8_flips_27 : decode cX8_flips 27 = .ok (.aload_n 0, 1) := by decide +kernel
theorem dX8_flips_28 : decode cX8_flips 28 = .ok (.getfield 26, 3) := by decide +kernel
theorem dX8_flips_31 : decode cX8_flips 31 = .ok (.getfield 138, 3) := by decide +kernel
theorem dX8_flips_34 : decode cX8_flips 34 = .ok (.sipush 999, 3) := by decide +kernel
theorem dX8_flips_37 : decode cX8_flips 37 = .ok (.if_icmp .lt 6, 3) := by decide +kernel
theorem dX8_flips_40 : decode cX8_flips 40 = .ok (.bipush (-2), 2) := by decide +kernel
theorem dX8_flips_42 : decode cX8_flips 42 = .ok (.ireturn, 1) := by decide +kernel
theorem dX8_flips_43 : decode cX8_flips 43 = .ok (.aload_n 0, 1) := by decide +kernel
theorem dX8_flips_44 : decode cX8_flips 44 = .ok (.getfield 33, 3) := by decide +kernel
theorem dX8_flips_47 : decode cX8_flips 47 = .ok (.aload_n 0, 1) := by decide +kernel
theorem dX8_flips_48 : decode cX8_flips 48 = .ok (.getfield 26, 3) := by decide +kernel
theorem dX8_flips_51 : decode cX8_flips 51 = .ok (.invokevirtual 153, 3) := by decide +kernel
theorem dX8_flips_54 : decode cX8_flips 54 = .ok (.aload_n 0, 1) := by decide +kernel
theorem dX8_flips_55 : decode cX8_flips 55 = .ok (.getfield 50, 3) := by decide +kernel
theorem dX8_flips_58 : decode cX8_flips 58 = .ok (.aload_n 0, 1) := by decide +kernel
theorem dX8_flips_59 : decode cX8_flips 59 = .ok (.getfield 26, 3) := by decide +kernel
theorem dX8_flips_62 : decode cX8_flips 62 = .ok (.invokevirtual 157, 3) := by decide +kernel
theorem dX8_flips_65 : decode cX8_flips 65 = .ok (.aload_n 0, 1) := by decide +kernel
theorem dX8_flips_66 : decode cX8_flips 66 = .ok (.getfield 50, 3) := by decide +kernel
theorem dX8_flips_69 : decode cX8_flips 69 = .ok (.aload_n 0, 1) := by decide +kernel
theorem dX8_flips_70 : decode cX8_flips 70 = .ok (.getfield 26, 3) := by decide +kernel
theorem dX8_flips_73 : decode cX8_flips 73 = .ok (.getfield 132, 3) := by decide +kernel
theorem dX8_flips_76 : decode cX8_flips 76 = .ok (.aload_n 0, 1) := by decide +kernel
theorem dX8_flips_77 : decode cX8_flips 77 = .ok (.getfield 26, 3) := by decide +kernel
theorem dX8_flips_80 : decode cX8_flips 80 = .ok (.getfield 135, 3) := by decide +kernel
theorem dX8_flips_83 : decode cX8_flips 83 = .ok (.invokevirtual 160, 3) := by decide +kernel
theorem dX8_flips_86 : decode cX8_flips 86 = .ok (.aload_n 0, 1) := by decide +kernel
theorem dX8_flips_87 : decode cX8_flips 87 = .ok (.getfield 50, 3) := by decide +kernel
theorem dX8_flips_90 : decode cX8_flips 90 = .ok (.invokevirtual 164, 3) := by decide +kernel
theorem dX8_flips_93 : decode cX8_flips 93 = .ok (.aload_n 0, 1) := by decide +kernel
theorem dX8_flips_94 : decode cX8_flips 94 = .ok (.getfield 26, 3) := by decide +kernel
theorem dX8_flips_97 : decode cX8_flips 97 = .ok (.aload_n 0, 1) := by decide +kernel
theorem dX8_flips_98 : decode cX8_flips 98 = .ok (.getfield 50, 3) := by decide +kernel
theorem dX8_flips_101 : decode cX8_flips 101 = .ok (.getfield 167, 3) := by decide +kernel
theorem dX8_flips_104 : decode cX8_flips 104 = .ok (.putfield 132, 3) := by decide +kernel
theorem dX8_flips_107 : decode cX8_flips 107 = .ok (.aload_n 0, 1) := by decide +kernel
theorem dX8_flips_108 : decode cX8_flips 108 = .ok (.getfield 26, 3) := by decide +kernel
theorem dX8_flips_111 : decode cX8_flips 111 = .ok (.aload_n 0, 1) := by decide +kernel
theorem dX8_flips_112 : decode cX8_flips 112 = .ok (.getfield 50, 3) := by decide +kernel
theorem dX8_flips_115 : decode cX8_flips 115 = .ok (.getfield 168, 3) := by decide +kernel
theorem dX8_flips_118 : decode cX8_flips 118 = .ok (.putfield 135, 3) := by decide +kernel
theorem dX8_flips_121 : decode cX8_flips 121 = .ok (.aload_n 0, 1) := by decide +kernel
theorem dX8_flips_122 : decode cX8_flips 122 = .ok (.getfield 26, 3) := by decide +kernel
theorem dX8_flips_125 : decode cX8_flips 125 = .ok (.dup, 1) := by decide +kernel
theorem dX8_flips_126 : decode cX8_flips 126 = .ok (.getfield 138, 3) := by decide +kernel
theorem dX8_flips_129 : decode cX8_flips 129 = .ok (.iconst 1, 1) := by decide +kernel
theorem dX8_flips_130 : decode cX8_flips 130 = .ok (.iadd, 1) := by decide +kernel
theorem dX8_flips_131 : decode cX8_flips 131 = .ok (.putfield 138, 3) := by decide +kernel
theorem dX8_flips_134 : decode cX8_flips 134 = .ok (.aload_n 0, 1) := by decide +kernel
theorem dX8_flips_135 : decode cX8_flips 135 = .ok (.getfield 26, 3) := by decide +kernel
theorem dX8_flips_138 : decode cX8_flips 138 = .ok (.getfield 132, 3) := by decide +kernel
theorem dX8_flips_141 : decode cX8_flips 141 = .ok (.ireturn, 1) := by decide +kernel
theorem dX8_pushes_0 : decode cX8_pushes 0 = .ok (.iload_n 1, 1) := by decide +kernel
theorem dX8_pushes_1 : decode cX8_pushes 1 = .ok (.iconst 1, 1) := by decide +kernel
theorem dX8_pushes_2 : decode cX8_pushes 2 = .ok (.bipush 20, 2) := by decide +kernel
theorem dX8_pushes_4 : decode cX8_pushes 4 = .ok (.invokestatic 81, 3) := by decide +kernel
theorem dX8_pushes_7 : decode cX8_pushes 7 = .ok (.ifCond .ne 5, 3) := by decide +kernel
theorem dX8_pushes_10 : decode cX8_pushes 10 = .ok (.iconst (-1), 1) := by decide +kernel
theorem dX8_pushes_11 : decode cX8_pushes 11 = .ok (.ireturn, 1) := by decide +kernel
theorem dX8_pushes_12 : decode cX8_pushes 12 = .ok (.aload_n 0, 1) := by decide +kernel
theorem dX8_pushes_13 : decode cX8_pushes 13 = .ok (.getfield 12, 3) := by decide +kernel
theorem dX8_pushes_16 : decode cX8_pushes 16 = .ok (.aload_n 0, 1) := by decide +kernel
theorem dX8_pushes_17 : decode cX8_pushes 17 = .ok (.getfield 26, 3) := by decide +kernel
theorem dX8_pushes_20 : decode cX8_pushes 20 = .ok (.getfield 132, 3) := by decide +kernel
theorem dX8_pushes_23 : decode cX8_pushes 23 = .ok (.invokevirtual 118, 3) := by decide +kernel
theorem dX8_pushes_26 : decode cX8_pushes 26 = .ok (.ifCond .ne 6, 3) := by decide +kernel
theorem dX8_pushes_29 : decode cX8_pushes 29 = .ok (.bipush (-2), 2) := by decide +kernel
theorem dX8_pushes_31 : decode cX8_pushes 31 = .ok (.ireturn, 1) := by decide +kernel
theorem dX8_pushes_32 : decode cX8_pushes 32 = .ok (.aload_n 0, 1) := by decide +kernel
theorem dX8_pushes_33 : decode cX8_pushes 33 = .ok (.getfield 33, 3) := by decide +kernel
theorem dX8_pushes_36 : decode cX8_pushes 36 = .ok (.aload_n 0, 1) := by decide +kernel
theorem dX8_pushes_37 : decode cX8_pushes 37 = .ok (.getfield 26, 3) := by decide +kernel
theorem dX8_pushes_40 : decode cX8_pushes 40 = .ok (.invokevirtual 153, 3) := by decide +kernel
theorem dX8_pushes_43 : decode cX8_pushes 43 = .ok (.aload_n 0, 1) := by decide +kernel
theorem dX8_pushes_44 : decode cX8_pushes 44 = .ok (.getfield 26, 3) := by decide +kernel
theorem dX8_pushes_47 : decode cX8_pushes 47 = .ok (.aload_n 0, 1) := by decide +kernel
theorem dX8_pushes_48 : decode cX8_pushes 48 = .ok (.getfield 26, 3) := by decide +kernel
theorem dX8_pushes_51 : decode cX8_pushes 51 = .ok (.getfield 135, 3) := by decide +kernel
theorem dX8_pushes_54 : decode cX8_pushes 54 = .ok (.iload_n 1, 1) := by decide +kernel
theorem dX8_pushes_55 : decode cX8_pushes 55 = .ok (.iadd, 1) := by decide +kernel
theorem dX8_pushes_56 : decode cX8_pushes 56 = .ok (.invokestatic 169, 3) := by decide +kernel
theorem dX8_pushes_59 : decode cX8_pushes 59 = .ok (.putfield 135, 3) := by decide +kernel
theorem dX8_pushes_62 : decode cX8_pushes 62 = .ok (.aload_n 0, 1) := by decide +kernel
theorem dX8_pushes_63 : decode cX8_pushes 63 = .ok (.getfield 26, 3) := by decide +kernel
theorem dX8_pushes_66 : decode cX8_pushes 66 = .ok (.getfield 135, 3) := by decide +kernel
theorem dX8_pushes_69 : decode cX8_pushes 69 = .ok (.ireturn, 1) := by decide +kernel
theorem dX8_lifts_0 : decode cX8_lifts 0 = .ok (.aload_n 0, 1) := by decide +kernel
theorem dX8_lifts_1 : decode cX8_lifts 1 = .ok (.getfield 12, 3) := by decide +kernel
theorem dX8_lifts_4 : decode cX8_lifts 4 = .ok (.iload_n 1, 1) := by decide +kernel
theorem dX8_lifts_5 : decode cX8_lifts 5 = .ok (.invokevirtual 118, 3) := by decide +kernel
theorem dX8_lifts_8 : decode cX8_lifts 8 = .ok (.ifCond .ne 5, 3) := by decide +kernel
theorem dX8_lifts_11 : decode cX8_lifts 11 = .ok (.iconst (-1), 1) := by decide +kernel
theorem dX8_lifts_12 : decode cX8_lifts 12 = .ok (.ireturn, 1) := by decide +kernel
theorem dX8_lifts_13 : decode cX8_lifts 13 = .ok (.aload_n 0, 1) := by decide +kernel
theorem dX8_lifts_14 : decode cX8_lifts 14 = .ok (.getfield 26, 3) := by decide +kernel
theorem dX8_lifts_17 : decode cX8_lifts 17 = .ok (.getfield 132, 3) := by decide +kernel
theorem dX8_lifts_20 : decode cX8_lifts 20 = .ok (.iload_n 1, 1) := by decide +kernel
theorem dX8_lifts_21 : decode cX8_lifts 21 = .ok (.if_icmp .ne 6, 3) := by decide +kernel
theorem dX8_lifts_24 : decode cX8_lifts 24 = .ok (.bipush (-2), 2) := by decide +kernel
theorem dX8_lifts_26 : decode cX8_lifts 26 = .ok (.ireturn, 1) := by decide +kernel
theorem dX8_lifts_27 : decode cX8_lifts 27 = .ok (.aload_n 0, 1) := by decide +kernel
theorem dX8_lifts_28 : decode cX8_lifts 28 = .ok (.getfield 33, 3) := by decide +kernel
theorem dX8_lifts_31 : decode cX8_lifts 31 = .ok (.aload_n 0, 1) := by decide +kernel
theorem dX8_lifts_32 : decode cX8_lifts 32 = .ok (.getfield 26, 3) := by decide +kernel
theorem dX8_lifts_35 : decode cX8_lifts 35 = .ok (.invokevirtual 153, 3) := by decide +kernel
theorem dX8_lifts_38 : decode cX8_lifts 38 = .ok (.aload_n 0, 1) := by decide +kernel
theorem dX8_lifts_39 : decode cX8_lifts 39 = .ok (.getfield 26, 3) := by decide +kernel
theorem dX8_lifts_42 : decode cX8_lifts 42 = .ok (.getfield 132, 3) := by decide +kernel
theorem dX8_lifts_45 : decode cX8_lifts 45 = .ok (.istore_n 2, 1) := by decide +kernel
theorem dX8_lifts_46 : decode cX8_lifts 46 = .ok (.aload_n 0, 1) := by decide +kernel
theorem dX8_lifts_47 : decode cX8_lifts 47 = .ok (.getfield 26, 3) := by decide +kernel
theorem dX8_lifts_50 : decode cX8_lifts 50 = .ok (.iload_n 1, 1) := by decide +kernel
theorem dX8_lifts_51 : decode cX8_lifts 51 = .ok (.putfield 132, 3) := by decide +kernel
theorem dX8_lifts_54 : decode cX8_lifts 54 = .ok (.aload_n 0, 1) := by decide +kernel
theorem dX8_lifts_55 : decode cX8_lifts 55 = .ok (.getfield 26, 3) := by decide +kernel
theorem dX8_lifts_58 : decode cX8_lifts 58 = .ok (.iconst 0, 1) := by decide +kernel
theorem dX8_lifts_59 : decode cX8_lifts 59 = .ok (.putfield 135, 3) := by decide +kernel
theorem dX8_lifts_62 : decode cX8_lifts 62 = .ok (.iload_n 2, 1) := by decide +kernel
theorem dX8_lifts_63 : decode cX8_lifts 63 = .ok (.ireturn, 1) := by decide +kernel
theorem dX8_lays_0 : decode cX8_lays 0 = .ok (.aload_n 0, 1) := by decide +kernel
theorem dX8_lays_1 : decode cX8_lays 1 = .ok (.getfield 12, 3) := by decide +kernel
theorem dX8_lays_4 : decode cX8_lays 4 = .ok (.iload_n 1, 1) := by decide +kernel
theorem dX8_lays_5 : decode cX8_lays 5 = .ok (.invokevirtual 118, 3) := by decide +kernel
theorem dX8_lays_8 : decode cX8_lays 8 = .ok (.ifCond .eq 12, 3) := by decide +kernel
theorem dX8_lays_11 : decode cX8_lays 11 = .ok (.iload_n 2, 1) := by decide +kernel
theorem dX8_lays_12 : decode cX8_lays 12 = .ok (.iconst 0, 1) := by decide +kernel
theorem dX8_lays_13 : decode cX8_lays 13 = .ok (.iconst 5, 1) := by decide +kernel
theorem dX8_lays_14 : decode cX8_lays 14 = .ok (.invokestatic 81, 3) := by decide +kernel
theorem dX8_lays_17 : decode cX8_lays 17 = .ok (.ifCond .ne 5, 3) := by decide +kernel
theorem dX8_lays_20 : decode cX8_lays 20 = .ok (.iconst (-1), 1) := by decide +kernel
theorem dX8_lays_21 : decode cX8_lays 21 = .ok (.ireturn, 1) := by decide +kernel
theorem dX8_lays_22 : decode cX8_lays 22 = .ok (.aload_n 0, 1) := by decide +kernel
theorem dX8_lays_23 : decode cX8_lays 23 = .ok (.getfield 26, 3) := by decide +kernel
theorem dX8_lays_26 : decode cX8_lays 26 = .ok (.getfield 129, 3) := by decide +kernel
theorem dX8_lays_29 : decode cX8_lays 29 = .ok (.iload_n 1, 1) := by decide +kernel
theorem dX8_lays_30 : decode cX8_lays 30 = .ok (.iaload, 1) := by decide +kernel
theorem dX8_lays_31 : decode cX8_lays 31 = .ok (.istore_n 3, 1) := by decide +kernel
theorem dX8_lays_32 : decode cX8_lays 32 = .ok (.iload_n 3, 1) := by decide +kernel
theorem dX8_lays_33 : decode cX8_lays 33 = .ok (.iload_n 2, 1) := by decide +kernel
theorem dX8_lays_34 : decode cX8_lays 34 = .ok (.if_icmp .ne 6, 3) := by decide +kernel
theorem dX8_lays_37 : decode cX8_lays 37 = .ok (.bipush (-2), 2) := by decide +kernel
theorem dX8_lays_39 : decode cX8_lays 39 = .ok (.ireturn, 1) := by decide +kernel
theorem dX8_lays_40 : decode cX8_lays 40 = .ok (.aload_n 0, 1) := by decide +kernel
theorem dX8_lays_41 : decode cX8_lays 41 = .ok (.getfield 33, 3) := by decide +kernel
theorem dX8_lays_44 : decode cX8_lays 44 = .ok (.aload_n 0, 1) := by decide +kernel
theorem dX8_lays_45 : decode cX8_lays 45 = .ok (.getfield 26, 3) := by decide +kernel
theorem dX8_lays_48 : decode cX8_lays 48 = .ok (.invokevirtual 153, 3) := by decide +kernel
theorem dX8_lays_51 : decode cX8_lays 51 = .ok (.aload_n 0, 1) := by decide +kernel
theorem dX8_lays_52 : decode cX8_lays 52 = .ok (.getfield 26, 3) := by decide +kernel
theorem dX8_lays_55 : decode cX8_lays 55 = .ok (.getfield 129, 3) := by decide +kernel
theorem dX8_lays_58 : decode cX8_lays 58 = .ok (.iload_n 1, 1) := by decide +kernel
theorem dX8_lays_59 : decode cX8_lays 59 = .ok (.iload_n 2, 1) := by decide +kernel
theorem dX8_lays_60 : decode cX8_lays 60 = .ok (.iastore, 1) := by decide +kernel
theorem dX8_lays_61 : decode cX8_lays 61 = .ok (.iload_n 3, 1) := by decide +kernel
theorem dX8_lays_62 : decode cX8_lays 62 = .ok (.ireturn, 1) := by decide +kernel
theorem dX8_undo_0 : decode cX8_undo 0 = .ok (.aload_n 0, 1) := by decide +kernel
theorem dX8_undo_1 : decode cX8_undo 1 = .ok (.getfield 33, 3) := by decide +kernel
theorem dX8_undo_4 : decode cX8_undo 4 = .ok (.aload_n 0, 1) := by decide +kernel
theorem dX8_undo_5 : decode cX8_undo 5 = .ok (.getfield 26, 3) := by decide +kernel
theorem dX8_undo_8 : decode cX8_undo 8 = .ok (.invokevirtual 172, 3) := by decide +kernel
theorem dX8_undo_11 : decode cX8_undo 11 = .ok (.ifCond .eq 13, 3) := by decide +kernel
theorem dX8_undo_14 : decode cX8_undo 14 = .ok (.aload_n 0, 1) := by decide +kernel
theorem dX8_undo_15 : decode cX8_undo 15 = .ok (.getfield 33, 3) := by decide +kernel
theorem dX8_undo_18 : decode cX8_undo 18 = .ok (.getfield 109, 3) := by decide +kernel
theorem dX8_undo_21 : decode cX8_undo 21 = .ok (.goto 5, 3) := by decide +kernel
theorem dX8_undo_24 : decode cX8_undo 24 = .ok (.bipush (-2), 2) := by decide +kernel
theorem dX8_undo_26 : decode cX8_undo 26 = .ok (.ireturn, 1) := by decide +kernel
theorem dX8_push_0 : decode cX8_push 0 = .ok (.aload_n 0, 1) := by decide +kernel
theorem dX8_push_1 : decode cX8_push 1 = .ok (.getfield 12, 3) := by decide +kernel
theorem dX8_push_4 : decode cX8_push 4 = .ok (.iload_n 1, 1) := by decide +kernel
theorem dX8_push_5 : decode cX8_push 5 = .ok (.invokevirtual 176, 3) := by decide +kernel
theorem dX8_push_8 : decode cX8_push 8 = .ok (.ifCond .ne 5, 3) := by decide +kernel
theorem dX8_push_11 : decode cX8_push 11 = .ok (.iconst (-1), 1) := by decide +kernel
theorem dX8_push_12 : decode cX8_push 12 = .ok (.ireturn, 1) := by decide +kernel
theorem dX8_push_13 : decode cX8_push 13 = .ok (.iconst 0, 1) := by decide +kernel
theorem dX8_push_14 : decode cX8_push 14 = .ok (.istore_n 2, 1) := by decide +kernel
theorem dX8_push_15 : decode cX8_push 15 = .ok (.iload_n 2, 1) := by decide +kernel
theorem dX8_push_16 : decode cX8_push 16 = .ok (.bipush 60, 2) := by decide +kernel
theorem dX8_push_18 : decode cX8_push 18 = .ok (.if_icmp .gt 31, 3) := by decide +kernel
theorem dX8_push_21 : decode cX8_push 21 = .ok (.aload_n 0, 1) := by decide +kernel
theorem dX8_push_22 : decode cX8_push 22 = .ok (.aload_n 0, 1) := by decide +kernel
theorem dX8_push_23 : decode cX8_push 23 = .ok (.getfield 26, 3) := by decide +kernel
theorem dX8_push_26 : decode cX8_push 26 = .ok (.getfield 135, 3) := by decide +kernel
theorem dX8_push_29 : decode cX8_push 29 = .ok (.iload_n 2, 1) := by decide +kernel
theorem dX8_push_30 : decode cX8_push 30 = .ok (.iadd, 1) := by decide +kernel
theorem dX8_push_31 : decode cX8_push 31 = .ok (.invokestatic 169, 3) := by decide +kernel
theorem dX8_push_34 : decode cX8_push 34 = .ok (.invokevirtual 141, 3) := by decide +kernel
theorem dX8_push_37 : decode cX8_push 37 = .ok (.iload_n 1, 1) := by decide +kernel
theorem dX8_push_38 : decode cX8_push 38 = .ok (.if_icmp .ne 5, 3) := by decide +kernel
theorem dX8_push_41 : decode cX8_push 41 = .ok (.iload_n 2, 1) := by decide +kernel
theorem dX8_push_42 : decode cX8_push 42 = .ok (.ireturn, 1) := by decide +kernel
theorem dX8_push_43 : decode cX8_push 43 = .ok (.iinc 2 1, 3) := by decide +kernel
theorem dX8_push_46 : decode cX8_push 46 = .ok (.goto (-31), 3) := by decide +kernel
theorem dX8_push_49 : decode cX8_push 49 = .ok (.bipush (-9), 2) := by decide +kernel
theorem dX8_push_51 : decode cX8_push 51 = .ok (.ireturn, 1) := by decide +kernel
theorem dX8_mat_0 : decode cX8_mat 0 = .ok (.aload_n 0, 1) := by decide +kernel
theorem dX8_mat_1 : decode cX8_mat 1 = .ok (.getfield 12, 3) := by decide +kernel
theorem dX8_mat_4 : decode cX8_mat 4 = .ok (.iload_n 1, 1) := by decide +kernel
theorem dX8_mat_5 : decode cX8_mat 5 = .ok (.invokevirtual 176, 3) := by decide +kernel
theorem dX8_mat_8 : decode cX8_mat 8 = .ok (.ifCond .eq 12, 3) := by decide +kernel
theorem dX8_mat_11 : decode cX8_mat 11 = .ok (.iload_n 2, 1) := by decide +kernel
theorem dX8_mat_12 : decode cX8_mat 12 = .ok (.iconst 0, 1) := by decide +kernel
theorem dX8_mat_13 : decode cX8_mat 13 = .ok (.iconst 5, 1) := by decide +kernel
theorem dX8_mat_14 : decode cX8_mat 14 = .ok (.invokestatic 81, 3) := by decide +kernel
theorem dX8_mat_17 : decode cX8_mat 17 = .ok (.ifCond .ne 5, 3) := by decide +kernel
theorem dX8_mat_20 : decode cX8_mat 20 = .ok (.iconst (-1), 1) := by decide +kernel
theorem dX8_mat_21 : decode cX8_mat 21 = .ok (.ireturn, 1) := by decide +kernel
theorem dX8_mat_22 : decode cX8_mat 22 = .ok (.iconst 0, 1) := by decide +kernel
theorem dX8_mat_23 : decode cX8_mat 23 = .ok (.istore_n 3, 1) := by decide +kernel
theorem dX8_mat_24 : decode cX8_mat 24 = .ok (.iload_n 3, 1) := by decide +kernel
theorem dX8_mat_25 : decode cX8_mat 25 = .ok (.aload_n 0, 1) := by decide +kernel
theorem dX8_mat_26 : decode cX8_mat 26 = .ok (.getfield 12, 3) := by decide +kernel
theorem dX8_mat_29 : decode cX8_mat 29 = .ok (.getfield 179, 3) := by decide +kernel
theorem dX8_mat_32 : decode cX8_mat 32 = .ok (.if_icmp .ge 21, 3) := by decide +kernel
theorem dX8_mat_35 : decode cX8_mat 35 = .ok (.aload_n 0, 1) := by decide +kernel
theorem dX8_mat_36 : decode cX8_mat 36 = .ok (.iload_n 3, 1) := by decide +kernel
theorem dX8_mat_37 : decode cX8_mat 37 = .ok (.iload_n 2, 1) := by decide +kernel
theorem dX8_mat_38 : decode cX8_mat 38 = .ok (.invokevirtual 182, 3) := by decide +kernel
theorem dX8_mat_41 : decode cX8_mat 41 = .ok (.iload_n 1, 1) := by decide +kernel
theorem dX8_mat_42 : decode cX8_mat 42 = .ok (.if_icmp .ne 5, 3) := by decide +kernel
theorem dX8_mat_45 : decode cX8_mat 45 = .ok (.iload_n 3, 1) := by decide +kernel
theorem dX8_mat_46 : decode cX8_mat 46 = .ok (.ireturn, 1) := by decide +kernel
theorem dX8_mat_47 : decode cX8_mat 47 = .ok (.iinc 3 1, 3) := by decide +kernel
theorem dX8_mat_50 : decode cX8_mat 50 = .ok (.goto (-26), 3) := by decide +kernel
theorem dX8_mat_53 : decode cX8_mat 53 = .ok (.bipush (-9), 2) := by decide +kernel
theorem dX8_mat_55 : decode cX8_mat 55 = .ok (.ireturn, 1) := by decide +kernel
theorem dX8_odds_0 : decode cX8_odds 0 = .ok (.iload_n 1, 1) := by decide +kernel
theorem dX8_odds_1 : decode cX8_odds 1 = .ok (.iconst 0, 1) := by decide +kernel
theorem dX8_odds_2 : decode cX8_odds 2 = .ok (.bipush 10, 2) := by decide +kernel
theorem dX8_odds_4 : decode cX8_odds 4 = .ok (.invokestatic 81, 3) := by decide +kernel
theorem dX8_odds_7 : decode cX8_odds 7 = .ok (.ifCond .eq 12, 3) := by decide +kernel
theorem dX8_odds_10 : decode cX8_odds 10 = .ok (.iload_n 2, 1) := by decide +kernel
theorem dX8_odds_11 : decode cX8_odds 11 = .ok (.iconst 0, 1) := by decide +kernel
theorem dX8_odds_12 : decode cX8_odds 12 = .ok (.iconst 1, 1) := by decide +kernel
theorem dX8_odds_13 : decode cX8_odds 13 = .ok (.invokestatic 81, 3) := by decide +kernel
theorem dX8_odds_16 : decode cX8_odds 16 = .ok (.ifCond .ne 5, 3) := by decide +kernel
theorem dX8_odds_19 : decode cX8_odds 19 = .ok (.iconst (-1), 1) := by decide +kernel
theorem dX8_odds_20 : decode cX8_odds 20 = .ok (.ireturn, 1) := by decide +kernel
theorem dX8_odds_21 : decode cX8_odds 21 = .ok (.aload_n 0, 1) := by decide +kernel
theorem dX8_odds_22 : decode cX8_odds 22 = .ok (.getfield 73, 3) := by decide +kernel
theorem dX8_odds_25 : decode cX8_odds 25 = .ok (.aload_n 0, 1) := by decide +kernel
theorem dX8_odds_26 : decode cX8_odds 26 = .ok (.getfield 26, 3) := by decide +kernel
theorem dX8_odds_29 : decode cX8_odds 29 = .ok (.iload_n 1, 1) := by decide +kernel
theorem dX8_odds_30 : decode cX8_odds 30 = .ok (.invokevirtual 186, 3) := by decide +kernel
theorem dX8_odds_33 : decode cX8_odds 33 = .ok (.iload_n 2, 1) := by decide +kernel
theorem dX8_odds_34 : decode cX8_odds 34 = .ok (.ifCond .ne 13, 3) := by decide +kernel
theorem dX8_odds_37 : decode cX8_odds 37 = .ok (.aload_n 0, 1) := by decide +kernel
theorem dX8_odds_38 : decode cX8_odds 38 = .ok (.getfield 73, 3) := by decide +kernel
theorem dX8_odds_41 : decode cX8_odds 41 = .ok (.getfield 190, 3) := by decide +kernel
theorem dX8_odds_44 : decode cX8_odds 44 = .ok (.goto 10, 3) := by decide +kernel
theorem dX8_odds_47 : decode cX8_odds 47 = .ok (.aload_n 0, 1) := by decide +kernel
theorem dX8_odds_48 : decode cX8_odds 48 = .ok (.getfield 73, 3) := by decide +kernel
theorem dX8_odds_51 : decode cX8_odds 51 = .ok (.getfield 193, 3) := by decide +kernel
theorem dX8_odds_54 : decode cX8_odds 54 = .ok (.l2i, 1) := by decide +kernel
theorem dX8_odds_55 : decode cX8_odds 55 = .ok (.ireturn, 1) := by decide +kernel
theorem dX8_sees_0 : decode cX8_sees 0 = .ok (.aload_n 0, 1) := by decide +kernel
theorem dX8_sees_1 : decode cX8_sees 1 = .ok (.getfield 12, 3) := by decide +kernel
theorem dX8_sees_4 : decode cX8_sees 4 = .ok (.iload_n 1, 1) := by decide +kernel
theorem dX8_sees_5 : decode cX8_sees 5 = .ok (.invokevirtual 118, 3) := by decide +kernel
theorem dX8_sees_8 : decode cX8_sees 8 = .ok (.ifCond .eq 24, 3) := by decide +kernel
theorem dX8_sees_11 : decode cX8_sees 11 = .ok (.iload_n 2, 1) := by decide +kernel
theorem dX8_sees_12 : decode cX8_sees 12 = .ok (.iconst 1, 1) := by decide +kernel
theorem dX8_sees_13 : decode cX8_sees 13 = .ok (.bipush 60, 2) := by decide +kernel
theorem dX8_sees_15 : decode cX8_sees 15 = .ok (.invokestatic 81, 3) := by decide +kernel
theorem dX8_sees_18 : decode cX8_sees 18 = .ok (.ifCond .eq 14, 3) := by decide +kernel
theorem dX8_sees_21 : decode cX8_sees 21 = .ok (.aload_n 0, 1) := by decide +kernel
theorem dX8_sees_22 : decode cX8_sees 22 = .ok (.getfield 12, 3) := by decide +kernel
theorem dX8_sees_25 : decode cX8_sees 25 = .ok (.iload_n 3, 1) := by decide +kernel
theorem dX8_sees_26 : decode cX8_sees 26 = .ok (.invokevirtual 176, 3) := by decide +kernel
theorem dX8_sees_29 : decode cX8_sees 29 = .ok (.ifCond .ne 5, 3) := by decide +kernel
theorem dX8_sees_32 : decode cX8_sees 32 = .ok (.iconst (-1), 1) := by decide +kernel
theorem dX8_sees_33 : decode cX8_sees 33 = .ok (.ireturn, 1) := by decide +kernel
theorem dX8_sees_34 : decode cX8_sees 34 = .ok (.aload_n 0, 1) := by decide +kernel
theorem dX8_sees_35 : decode cX8_sees 35 = .ok (.getfield 66, 3) := by decide +kernel
theorem dX8_sees_38 : decode cX8_sees 38 = .ok (.iload_n 1, 1) := by decide +kernel
theorem dX8_sees_39 : decode cX8_sees 39 = .ok (.iload_n 2, 1) := by decide +kernel
theorem dX8_sees_40 : decode cX8_sees 40 = .ok (.iload_n 3, 1) := by decide +kernel
theorem dX8_sees_41 : decode cX8_sees 41 = .ok (.invokevirtual 196, 3) := by decide +kernel
theorem dX8_sees_44 : decode cX8_sees 44 = .ok (.ifCond .eq 13, 3) := by decide +kernel
theorem dX8_sees_47 : decode cX8_sees 47 = .ok (.aload_n 0, 1) := by decide +kernel
theorem dX8_sees_48 : decode cX8_sees 48 = .ok (.getfield 66, 3) := by decide +kernel
theorem dX8_sees_51 : decode cX8_sees 51 = .ok (.getfield 112, 3) := by decide +kernel
theorem dX8_sees_54 : decode cX8_sees 54 = .ok (.goto 5, 3) := by decide +kernel
theorem dX8_sees_57 : decode cX8_sees 57 = .ok (.bipush (-3), 2) := by decide +kernel
theorem dX8_sees_59 : decode cX8_sees 59 = .ok (.ireturn, 1) := by decide +kernel
theorem dX8_forget_0 : decode cX8_forget 0 = .ok (.aload_n 0, 1) := by decide +kernel
theorem dX8_forget_1 : decode cX8_forget 1 = .ok (.getfield 66, 3) := by decide +kernel
theorem dX8_forget_4 : decode cX8_forget 4 = .ok (.getfield 112, 3) := by decide +kernel
theorem dX8_forget_7 : decode cX8_forget 7 = .ok (.istore_n 1, 1) := by decide +kernel
theorem dX8_forget_8 : decode cX8_forget 8 = .ok (.aload_n 0, 1) := by decide +kernel
theorem dX8_forget_9 : decode cX8_forget 9 = .ok (.getfield 66, 3) := by decide +kernel
theorem dX8_forget_12 : decode cX8_forget 12 = .ok (.iconst 0, 1) := by decide +kernel
theorem dX8_forget_13 : decode cX8_forget 13 = .ok (.putfield 112, 3) := by decide +kernel
theorem dX8_forget_16 : decode cX8_forget 16 = .ok (.iload_n 1, 1) := by decide +kernel
theorem dX8_forget_17 : decode cX8_forget 17 = .ok (.ireturn, 1) := by decide +kernel
theorem dX8_ways_0 : decode cX8_ways 0 = .ok (.iload_n 1, 1) := by decide +kernel
theorem dX8_ways_1 : decode cX8_ways 1 = .ok (.iconst 0, 1) := by decide +kernel
theorem dX8_ways_2 : decode cX8_ways 2 = .ok (.iconst 1, 1) := by decide +kernel
theorem dX8_ways_3 : decode cX8_ways 3 = .ok (.invokestatic 81, 3) := by decide +kernel
theorem dX8_ways_6 : decode cX8_ways 6 = .ok (.ifCond .ne 5, 3) := by decide +kernel
theorem dX8_ways_9 : decode cX8_ways 9 = .ok (.iconst (-1), 1) := by decide +kernel
theorem dX8_ways_10 : decode cX8_ways 10 = .ok (.ireturn, 1) := by decide +kernel
theorem dX8_ways_11 : decode cX8_ways 11 = .ok (.aload_n 0, 1) := by decide +kernel
theorem dX8_ways_12 : decode cX8_ways 12 = .ok (.getfield 66, 3) := by decide +kernel
theorem dX8_ways_15 : decode cX8_ways 15 = .ok (.aload_n 0, 1) := by decide +kernel
theorem dX8_ways_16 : decode cX8_ways 16 = .ok (.getfield 26, 3) := by decide +kernel
theorem dX8_ways_19 : decode cX8_ways 19 = .ok (.invokevirtual 199, 3) := by decide +kernel
theorem dX8_ways_22 : decode cX8_ways 22 = .ok (.iload_n 1, 1) := by decide +kernel
theorem dX8_ways_23 : decode cX8_ways 23 = .ok (.ifCond .ne 11, 3) := by decide +kernel
theorem dX8_ways_26 : decode cX8_ways 26 = .ok (.aload_n 0, 1) := by decide +kernel
theorem dX8_ways_27 : decode cX8_ways 27 = .ok (.getfield 66, 3) := by decide +kernel
theorem dX8_ways_30 : decode cX8_ways 30 = .ok (.getfield 202, 3) := by decide +kernel
theorem dX8_ways_33 : decode cX8_ways 33 = .ok (.ireturn, 1) := by decide +kernel
theorem dX8_ways_34 : decode cX8_ways 34 = .ok (.aload_n 0, 1) := by decide +kernel
theorem dX8_ways_35 : decode cX8_ways 35 = .ok (.getfield 66, 3) := by decide +kernel
theorem dX8_ways_38 : decode cX8_ways 38 = .ok (.getfield 202, 3) := by decide +kernel
theorem dX8_ways_41 : decode cX8_ways 41 = .ok (.ifCond .ne 8, 3) := by decide +kernel
theorem dX8_ways_44 : decode cX8_ways 44 = .ok (.bipush (-9), 2) := by decide +kernel
theorem dX8_ways_46 : decode cX8_ways 46 = .ok (.goto 24, 3) := by decide +kernel
theorem dX8_ways_49 : decode cX8_ways 49 = .ok (.aload_n 0, 1) := by decide +kernel
theorem dX8_ways_50 : decode cX8_ways 50 = .ok (.getfield 66, 3) := by decide +kernel
theorem dX8_ways_53 : decode cX8_ways 53 = .ok (.getfield 205, 3) := by decide +kernel
theorem dX8_ways_56 : decode cX8_ways 56 = .ok (.iconst 0, 1) := by decide +kernel
theorem dX8_ways_57 : decode cX8_ways 57 = .ok (.iaload, 1) := by decide +kernel
theorem dX8_ways_58 : decode cX8_ways 58 = .ok (.aload_n 0, 1) := by decide +kernel
theorem dX8_ways_59 : decode cX8_ways 59 = .ok (.getfield 66, 3) := by decide +kernel
theorem dX8_ways_62 : decode cX8_ways 62 = .ok (.getfield 208, 3) := by decide +kernel
theorem dX8_ways_65 : decode cX8_ways 65 = .ok (.iconst 0, 1) := by decide +kernel
theorem dX8_ways_66 : decode cX8_ways 66 = .ok (.iaload, 1) := by decide +kernel
theorem dX8_ways_67 : decode cX8_ways 67 = .ok (.invokestatic 211, 3) := by decide +kernel
theorem dX8_ways_70 : decode cX8_ways 70 = .ok (.ireturn, 1) := by decide +kernel
theorem dX8_next_0 : decode cX8_next 0 = .ok (.aload_n 0, 1) := by decide +kernel
theorem dX8_next_1 : decode cX8_next 1 = .ok (.getfield 12, 3) := by decide +kernel
theorem dX8_next_4 : decode cX8_next 4 = .ok (.iload_n 1, 1) := by decide +kernel
theorem dX8_next_5 : decode cX8_next 5 = .ok (.invokevirtual 118, 3) := by decide +kernel
theorem dX8_next_8 : decode cX8_next 8 = .ok (.ifCond .ne 5, 3) := by decide +kernel
theorem dX8_next_11 : decode cX8_next 11 = .ok (.iconst (-1), 1) := by decide +kernel
theorem dX8_next_12 : decode cX8_next 12 = .ok (.ireturn, 1) := by decide +kernel
theorem dX8_next_13 : decode cX8_next 13 = .ok (.aload_n 0, 1) := by decide +kernel
theorem dX8_next_14 : decode cX8_next 14 = .ok (.getfield 66, 3) := by decide +kernel
theorem dX8_next_17 : decode cX8_next 17 = .ok (.aload_n 0, 1) := by decide +kernel
theorem dX8_next_18 : decode cX8_next 18 = .ok (.getfield 26, 3) := by decide +kernel
theorem dX8_next_21 : decode cX8_next 21 = .ok (.invokevirtual 199, 3) := by decide +kernel
theorem dX8_next_24 : decode cX8_next 24 = .ok (.aload_n 0, 1) := by decide +kernel
theorem dX8_next_25 : decode cX8_next 25 = .ok (.getfield 66, 3) := by decide +kernel
theorem dX8_next_28 : decode cX8_next 28 = .ok (.iload_n 1, 1) := by decide +kernel
theorem dX8_next_29 : decode cX8_next 29 = .ok (.invokevirtual 214, 3) := by decide +kernel
theorem dX8_next_32 : decode cX8_next 32 = .ok (.ireturn, 1) := by decide +kernel
theorem dX8_rate_0 : decode cX8_rate 0 = .ok (.aload_n 0, 1) := by decide +kernel
theorem dX8_rate_1 : decode cX8_rate 1 = .ok (.getfield 12, 3) := by decide +kernel
theorem dX8_rate_4 : decode cX8_rate 4 = .ok (.iload_n 2, 1) := by decide +kernel
theorem dX8_rate_5 : decode cX8_rate 5 = .ok (.invokevirtual 118, 3) := by decide +kernel
theorem dX8_rate_8 : decode cX8_rate 8 = .ok (.ifCond .ne 6, 3) := by decide +kernel
theorem dX8_rate_11 : decode cX8_rate 11 = .ok (.ldc 217, 2) := by decide +kernel
theorem dX8_rate_13 : decode cX8_rate 13 = .ok (.ireturn, 1) := by decide +kernel
theorem dX8_rate_14 : decode cX8_rate 14 = .ok (.iload_n 1, 1) := by decide +kernel
theorem dX8_rate_15 : decode cX8_rate 15 = .ok (.tableswitch 73 0 5 #[37, 43, 49, 55, 61, 67], 37) := by decide +kernel
theorem dX8_rate_52 : decode cX8_rate 52 = .ok (.aload_n 0, 1) := by decide +kernel
theorem dX8_rate_53 : decode cX8_rate 53 = .ok (.iload_n 2, 1) := by decide +kernel
theorem dX8_rate_54 : decode cX8_rate 54 = .ok (.invokevirtual 218, 3) := by decide +kernel
theorem dX8_rate_57 : decode cX8_rate 57 = .ok (.ireturn, 1) := by decide +kernel
theorem dX8_rate_58 : decode cX8_rate 58 = .ok (.aload_n 0, 1) := by decide +kernel
theorem dX8_rate_59 : decode cX8_rate 59 = .ok (.iload_n 2, 1) := by decide +kernel
theorem dX8_rate_60 : decode cX8_rate 60 = .ok (.invokevirtual 221, 3) := by decide +kernel
theorem dX8_rate_63 : decode cX8_rate 63 = .ok (.ireturn, 1) := by decide +kernel
theorem dX8_rate_64 : decode cX8_rate 64 = .ok (.aload_n 0, 1) := by decide +kernel
theorem dX8_rate_65 : decode cX8_rate 65 = .ok (.iload_n 2, 1) := by decide +kernel
theorem dX8_rate_66 : decode cX8_rate 66 = .ok (.invokevirtual 224, 3) := by decide +kernel
theorem dX8_rate_69 : decode cX8_rate 69 = .ok (.ireturn, 1) := by decide +kernel
theorem dX8_rate_70 : decode cX8_rate 70 = .ok (.aload_n 0, 1) := by decide +kernel
theorem dX8_rate_71 : decode cX8_rate 71 = .ok (.iload_n 2, 1) := by decide +kernel
theorem dX8_rate_72 : decode cX8_rate 72 = .ok (.invokevirtual 227, 3) := by decide +kernel
theorem dX8_rate_75 : decode cX8_rate 75 = .ok (.ireturn, 1) := by decide +kernel
theorem dX8_rate_76 : decode cX8_rate 76 = .ok (.aload_n 0, 1) := by decide +kernel
theorem dX8_rate_77 : decode cX8_rate 77 = .ok (.iload_n 2, 1) := by decide +kernel
theorem dX8_rate_78 : decode cX8_rate 78 = .ok (.invokevirtual 230, 3) := by decide +kernel
theorem dX8_rate_81 : decode cX8_rate 81 = .ok (.ireturn, 1) := by decide +kernel
theorem dX8_rate_82 : decode cX8_rate 82 = .ok (.aload_n 0, 1) := by decide +kernel
theorem dX8_rate_83 : decode cX8_rate 83 = .ok (.iload_n 2, 1) := by decide +kernel
theorem dX8_rate_84 : decode cX8_rate 84 = .ok (.invokevirtual 233, 3) := by decide +kernel
theorem dX8_rate_87 : decode cX8_rate 87 = .ok (.ireturn, 1) := by decide +kernel
theorem dX8_rate_88 : decode cX8_rate 88 = .ok (.ldc 217, 2) := by decide +kernel
theorem dX8_rate_90 : decode cX8_rate 90 = .ok (.ireturn, 1) := by decide +kernel
theorem dX8_keep_0 : decode cX8_keep 0 = .ok (.iload_n 1, 1) := by decide +kernel
theorem dX8_keep_1 : decode cX8_keep 1 = .ok (.iconst 0, 1) := by decide +kernel
theorem dX8_keep_2 : decode cX8_keep 2 = .ok (.iconst 1, 1) := by decide +kernel
theorem dX8_keep_3 : decode cX8_keep 3 = .ok (.invokestatic 81, 3) := by decide +kernel
theorem dX8_keep_6 : decode cX8_keep 6 = .ok (.ifCond .ne 5, 3) := by decide +kernel
theorem dX8_keep_9 : decode cX8_keep 9 = .ok (.iconst (-1), 1) := by decide +kernel
theorem dX8_keep_10 : decode cX8_keep 10 = .ok (.ireturn, 1) := by decide +kernel
theorem dX8_keep_11 : decode cX8_keep 11 = .ok (.aload_n 0, 1) := by decide +kernel
theorem dX8_keep_12 : decode cX8_keep 12 = .ok (.getfield 37, 3) := by decide +kernel
theorem dX8_keep_15 : decode cX8_keep 15 = .ok (.iload_n 1, 1) := by decide +kernel
theorem dX8_keep_16 : decode cX8_keep 16 = .ok (.aaload, 1) := by decide +kernel
theorem dX8_keep_17 : decode cX8_keep 17 = .ok (.aload_n 0, 1) := by decide +kernel
theorem dX8_keep_18 : decode cX8_keep 18 = .ok (.getfield 26, 3) := by decide +kernel
theorem dX8_keep_21 : decode cX8_keep 21 = .ok (.invokevirtual 236, 3) := by decide +kernel
theorem dX8_keep_24 : decode cX8_keep 24 = .ok (.aload_n 0, 1) := by decide +kernel
theorem dX8_keep_25 : decode cX8_keep 25 = .ok (.getfield 41, 3) := by decide +kernel
theorem dX8_keep_28 : decode cX8_keep 28 = .ok (.iload_n 1, 1) := by decide +kernel
theorem dX8_keep_29 : decode cX8_keep 29 = .ok (.iconst 1, 1) := by decide +kernel
theorem dX8_keep_30 : decode cX8_keep 30 = .ok (.bastore, 1) := by decide +kernel
theorem dX8_keep_31 : decode cX8_keep 31 = .ok (.aload_n 0, 1) := by decide +kernel
theorem dX8_keep_32 : decode cX8_keep 32 = .ok (.getfield 26, 3) := by decide +kernel
theorem dX8_keep_35 : decode cX8_keep 35 = .ok (.getfield 132, 3) := by decide +kernel
theorem dX8_keep_38 : decode cX8_keep 38 = .ok (.ireturn, 1) := by decide +kernel
theorem dX8_back_0 : decode cX8_back 0 = .ok (.iload_n 1, 1) := by decide +kernel
theorem dX8_back_1 : decode cX8_back 1 = .ok (.iconst 0, 1) := by decide +kernel
theorem dX8_back_2 : decode cX8_back 2 = .ok (.iconst 1, 1) := by decide +kernel
theorem dX8_back_3 : decode cX8_back 3 = .ok (.invokestatic 81, 3) := by decide +kernel
theorem dX8_back_6 : decode cX8_back 6 = .ok (.ifCond .ne 5, 3) := by decide +kernel
theorem dX8_back_9 : decode cX8_back 9 = .ok (.iconst (-1), 1) := by decide +kernel
theorem dX8_back_10 : decode cX8_back 10 = .ok (.ireturn, 1) := by decide +kernel
theorem dX8_back_11 : decode cX8_back 11 = .ok (.aload_n 0, 1) := by decide +kernel
theorem dX8_back_12 : decode cX8_back 12 = .ok (.getfield 41, 3) := by decide +kernel
theorem dX8_back_15 : decode cX8_back 15 = .ok (.iload_n 1, 1) := by decide +kernel
theorem dX8_back_16 : decode cX8_back 16 = .ok (.baload, 1) := by decide +kernel
theorem dX8_back_17 : decode cX8_back 17 = .ok (.ifCond .ne 6, 3) := by decide +kernel
theorem dX8_back_20 : decode cX8_back 20 = .ok (.bipush (-2), 2) := by decide +kernel
theorem dX8_back_22 : decode cX8_back 22 = .ok (.ireturn, 1) := by decide +kernel
theorem dX8_back_23 : decode cX8_back 23 = .ok (.aload_n 0, 1) := by decide +kernel
theorem dX8_back_24 : decode cX8_back 24 = .ok (.getfield 26, 3) := by decide +kernel
theorem dX8_back_27 : decode cX8_back 27 = .ok (.aload_n 0, 1) := by decide +kernel
theorem dX8_back_28 : decode cX8_back 28 = .ok (.getfield 37, 3) := by decide +kernel
theorem dX8_back_31 : decode cX8_back 31 = .ok (.iload_n 1, 1) := by decide +kernel
theorem dX8_back_32 : decode cX8_back 32 = .ok (.aaload, 1) := by decide +kernel
theorem dX8_back_33 : decode cX8_back 33 = .ok (.invokevirtual 236, 3) := by decide +kernel
theorem dX8_back_36 : decode cX8_back 36 = .ok (.aload_n 0, 1) := by decide +kernel
theorem dX8_back_37 : decode cX8_back 37 = .ok (.getfield 33, 3) := by decide +kernel
theorem dX8_back_40 : decode cX8_back 40 = .ok (.iconst 0, 1) := by decide +kernel
theorem dX8_back_41 : decode cX8_back 41 = .ok (.putfield 109, 3) := by decide +kernel
theorem dX8_back_44 : decode cX8_back 44 = .ok (.aload_n 0, 1) := by decide +kernel
theorem dX8_back_45 : decode cX8_back 45 = .ok (.getfield 26, 3) := by decide +kernel
theorem dX8_back_48 : decode cX8_back 48 = .ok (.getfield 132, 3) := by decide +kernel
theorem dX8_back_51 : decode cX8_back 51 = .ok (.ireturn, 1) := by decide +kernel
theorem dX8_count_0 : decode cX8_count 0 = .ok (.iload_n 1, 1) := by decide +kernel
theorem dX8_count_1 : decode cX8_count 1 = .ok (.tableswitch 87 0 5 #[39, 47, 55, 63, 71, 79], 39) := by decide +kernel
theorem dX8_count_40 : decode cX8_count 40 = .ok (.aload_n 0, 1) := by decide +kernel
theorem dX8_count_41 : decode cX8_count 41 = .ok (.getfield 12, 3) := by decide +kernel
theorem dX8_count_44 : decode cX8_count 44 = .ok (.getfield 179, 3) := by decide +kernel
theorem dX8_count_47 : decode cX8_count 47 = .ok (.ireturn, 1) := by decide +kernel
theorem dX8_count_48 : decode cX8_count 48 = .ok (.aload_n 0, 1) := by decide +kernel
theorem dX8_count_49 : decode cX8_count 49 = .ok (.getfield 12, 3) := by decide +kernel
theorem dX8_count_52 : decode cX8_count 52 = .ok (.getfield 238, 3) := by decide +kernel
theorem dX8_count_55 : decode cX8_count 55 = .ok (.ireturn, 1) := by decide +kernel
theorem dX8_count_56 : decode cX8_count 56 = .ok (.aload_n 0, 1) := by decide +kernel
theorem dX8_count_57 : decode cX8_count 57 = .ok (.getfield 12, 3) := by decide +kernel
theorem dX8_count_60 : decode cX8_count 60 = .ok (.getfield 241, 3) := by decide +kernel
theorem dX8_count_63 : decode cX8_count 63 = .ok (.ireturn, 1) := by decide +kernel
theorem dX8_count_64 : decode cX8_count 64 = .ok (.aload_n 0, 1) := by decide +kernel
theorem dX8_count_65 : decode cX8_count 65 = .ok (.getfield 12, 3) := by decide +kernel
theorem dX8_count_68 : decode cX8_count 68 = .ok (.getfield 244, 3) := by decide +kernel
theorem dX8_count_71 : decode cX8_count 71 = .ok (.ireturn, 1) := by decide +kernel
theorem dX8_count_72 : decode cX8_count 72 = .ok (.aload_n 0, 1) := by decide +kernel
theorem dX8_count_73 : decode cX8_count 73 = .ok (.getfield 66, 3) := by decide +kernel
theorem dX8_count_76 : decode cX8_count 76 = .ok (.getfield 112, 3) := by decide +kernel
theorem dX8_count_79 : decode cX8_count 79 = .ok (.ireturn, 1) := by decide +kernel
theorem dX8_count_80 : decode cX8_count 80 = .ok (.aload_n 0, 1) := by decide +kernel
theorem dX8_count_81 : decode cX8_count 81 = .ok (.getfield 19, 3) := by decide +kernel
theorem dX8_count_84 : decode cX8_count 84 = .ok (.getfield 89, 3) := by decide +kernel
theorem dX8_count_87 : decode cX8_count 87 = .ok (.ireturn, 1) := by decide +kernel
theorem dX8_count_88 : decode cX8_count 88 = .ok (.iconst (-1), 1) := by decide +kernel
theorem dX8_count_89 : decode cX8_count 89 = .ok (.ireturn, 1) := by decide +kernel
theorem dX8_trace_0 : decode cX8_trace 0 = .ok (.aload_n 0, 1) := by decide +kernel
theorem dX8_trace_1 : decode cX8_trace 1 = .ok (.getfield 77, 3) := by decide +kernel
theorem dX8_trace_4 : decode cX8_trace 4 = .ok (.lreturn, 1) := by decide +kernel
theorem dX8_within_0 : decode cX8_within 0 = .ok (.iload_n 0, 1) := by decide +kernel
theorem dX8_within_1 : decode cX8_within 1 = .ok (.iload_n 1, 1) := by decide +kernel
theorem dX8_within_2 : decode cX8_within 2 = .ok (.if_icmp .lt 12, 3) := by decide +kernel
theorem dX8_within_5 : decode cX8_within 5 = .ok (.iload_n 0, 1) := by decide +kernel
theorem dX8_within_6 : decode cX8_within 6 = .ok (.iload_n 2, 1) := by decide +kernel
theorem dX8_within_7 : decode cX8_within 7 = .ok (.if_icmp .gt 7, 3) := by decide +kernel
theorem dX8_within_10 : decode cX8_within 10 = .ok (.iconst 1, 1) := by decide +kernel
theorem dX8_within_11 : decode cX8_within 11 = .ok (.goto 4, 3) := by decide +kernel
theorem dX8_within_14 : decode cX8_within 14 = .ok (.iconst 0, 1) := by decide +kernel
theorem dX8_within_15 : decode cX8_within 15 = .ok (.ireturn, 1) := by decide +kernel
theorem dX8_asVigour_0 : decode cX8_asVigour 0 = .ok (.iload_n 0, 1) := by decide +kernel
theorem dX8_asVigour_1 : decode cX8_asVigour 1 = .ok (.ifCond .ge 5, 3) := by decide +kernel
theorem dX8_asVigour_4 : decode cX8_asVigour 4 = .ok (.iconst 0, 1) := by decide +kernel
theorem dX8_asVigour_5 : decode cX8_asVigour 5 = .ok (.ireturn, 1) := by decide +kernel
theorem dX8_asVigour_6 : decode cX8_asVigour 6 = .ok (.iload_n 0, 1) := by decide +kernel
theorem dX8_asVigour_7 : decode cX8_asVigour 7 = .ok (.bipush 99, 2) := by decide +kernel
theorem dX8_asVigour_9 : decode cX8_asVigour 9 = .ok (.if_icmp .le 8, 3) := by decide +kernel
theorem dX8_asVigour_12 : decode cX8_asVigour 12 = .ok (.bipush 99, 2) := by decide +kernel
theorem dX8_asVigour_14 : decode cX8_asVigour 14 = .ok (.goto 4, 3) := by decide +kernel
theorem dX8_asVigour_17 : decode cX8_asVigour 17 = .ok (.iload_n 0, 1) := by decide +kernel
theorem dX8_asVigour_18 : decode cX8_asVigour 18 = .ok (.ireturn, 1) := by decide +kernel
theorem dX8_tenTimes_0 : decode cX8_tenTimes 0 = .ok (.bipush 10, 2) := by decide +kernel
theorem dX8_tenTimes_2 : decode cX8_tenTimes 2 = .ok (.iload_n 0, 1) := by decide +kernel
theorem dX8_tenTimes_3 : decode cX8_tenTimes 3 = .ok (.imul, 1) := by decide +kernel
theorem dX8_tenTimes_4 : decode cX8_tenTimes 4 = .ok (.iload_n 1, 1) := by decide +kernel
theorem dX8_tenTimes_5 : decode cX8_tenTimes 5 = .ok (.iadd, 1) := by decide +kernel
theorem dX8_tenTimes_6 : decode cX8_tenTimes 6 = .ok (.ireturn, 1) := by decide +kernel
theorem dX8_runFrom_0 : decode cX8_runFrom 0 = .ok (.aload_n 0, 1) := by decide +kernel
theorem dX8_runFrom_1 : decode cX8_runFrom 1 = .ok (.getfield 50, 3) := by decide +kernel
theorem dX8_runFrom_4 : decode cX8_runFrom 4 = .ok (.aload_n 0, 1) := by decide +kernel
theorem dX8_runFrom_5 : decode cX8_runFrom 5 = .ok (.getfield 26, 3) := by decide +kernel
theorem dX8_runFrom_8 : decode cX8_runFrom 8 = .ok (.invokevirtual 157, 3) := by decide +kernel
theorem dX8_runFrom_11 : decode cX8_runFrom 11 = .ok (.aload_n 0, 1) := by decide +kernel
theorem dX8_runFrom_12 : decode cX8_runFrom 12 = .ok (.getfield 50, 3) := by decide +kernel
theorem dX8_runFrom_15 : decode cX8_runFrom 15 = .ok (.aload_n 0, 1) := by decide +kernel
theorem dX8_runFrom_16 : decode cX8_runFrom 16 = .ok (.getfield 26, 3) := by decide +kernel
theorem dX8_runFrom_19 : decode cX8_runFrom 19 = .ok (.getfield 132, 3) := by decide +kernel
theorem dX8_runFrom_22 : decode cX8_runFrom 22 = .ok (.iload_n 1, 1) := by decide +kernel
theorem dX8_runFrom_23 : decode cX8_runFrom 23 = .ok (.invokevirtual 247, 3) := by decide +kernel
theorem dX8_runFrom_26 : decode cX8_runFrom 26 = .ok (.ireturn, 1) := by decide +kernel
theorem dX8_runWithMat_0 : decode cX8_runWithMat 0 = .ok (.aload_n 0, 1) := by decide +kernel
theorem dX8_runWithMat_1 : decode cX8_runWithMat 1 = .ok (.getfield 50, 3) := by decide +kernel
theorem dX8_runWithMat_4 : decode cX8_runWithMat 4 = .ok (.aload_n 0, 1) := by decide +kernel
theorem dX8_runWithMat_5 : decode cX8_runWithMat 5 = .ok (.getfield 26, 3) := by decide +kernel
theorem dX8_runWithMat_8 : decode cX8_runWithMat 8 = .ok (.invokevirtual 157, 3) := by decide +kernel
theorem dX8_runWithMat_11 : decode cX8_runWithMat 11 = .ok (.aload_n 0, 1) := by decide +kernel
theorem dX8_runWithMat_12 : decode cX8_runWithMat 12 = .ok (.getfield 50, 3) := by decide +kernel
theorem dX8_runWithMat_15 : decode cX8_runWithMat 15 = .ok (.getfield 250, 3) := by decide +kernel
theorem dX8_runWithMat_18 : decode cX8_runWithMat 18 = .ok (.iload_n 1, 1) := by decide +kernel
theorem dX8_runWithMat_19 : decode cX8_runWithMat 19 = .ok (.iload_n 2, 1) := by decide +kernel
theorem dX8_runWithMat_20 : decode cX8_runWithMat 20 = .ok (.iastore, 1) := by decide +kernel
theorem dX8_runWithMat_21 : decode cX8_runWithMat 21 = .ok (.aload_n 0, 1) := by decide +kernel
theorem dX8_runWithMat_22 : decode cX8_runWithMat 22 = .ok (.getfield 50, 3) := by decide +kernel
theorem dX8_runWithMat_25 : decode cX8_runWithMat 25 = .ok (.aload_n 0, 1) := by decide +kernel
theorem dX8_runWithMat_26 : decode cX8_runWithMat 26 = .ok (.getfield 26, 3) := by decide +kernel
theorem dX8_runWithMat_29 : decode cX8_runWithMat 29 = .ok (.getfield 132, 3) := by decide +kernel
theorem dX8_runWithMat_32 : decode cX8_runWithMat 32 = .ok (.aload_n 0, 1) := by decide +kernel
theorem dX8_runWithMat_33 : decode cX8_runWithMat 33 = .ok (.getfield 26, 3) := by decide +kernel
theorem dX8_runWithMat_36 : decode cX8_runWithMat 36 = .ok (.getfield 135, 3) := by decide +kernel
theorem dX8_runWithMat_39 : decode cX8_runWithMat 39 = .ok (.invokevirtual 247, 3) := by decide +kernel
theorem dX8_runWithMat_42 : decode cX8_runWithMat 42 = .ok (.ireturn, 1) := by decide +kernel
theorem dX8_asCoil_0 : decode cX8_asCoil 0 = .ok (.aload_n 0, 1) := by decide +kernel
theorem dX8_asCoil_1 : decode cX8_asCoil 1 = .ok (.dup, 1) := by decide +kernel
theorem dX8_asCoil_2 : decode cX8_asCoil 2 = .ok (.getfield 77, 3) := by decide +kernel
theorem dX8_asCoil_5 : decode cX8_asCoil 5 = .ok (.lconst 1, 1) := by decide +kernel
theorem dX8_asCoil_6 : decode cX8_asCoil 6 = .ok (.ladd, 1) := by decide +kernel
theorem dX8_asCoil_7 : decode cX8_asCoil 7 = .ok (.putfield 77, 3) := by decide +kernel
theorem dX8_asCoil_10 : decode cX8_asCoil 10 = .ok (.aload_n 0, 1) := by decide +kernel
theorem dX8_asCoil_11 : decode cX8_asCoil 11 = .ok (.getfield 12, 3) := by decide +kernel
theorem dX8_asCoil_14 : decode cX8_asCoil 14 = .ok (.getfield 122, 3) := by decide +kernel
theorem dX8_asCoil_17 : decode cX8_asCoil 17 = .ok (.iload_n 1, 1) := by decide +kernel
theorem dX8_asCoil_18 : decode cX8_asCoil 18 = .ok (.iaload, 1) := by decide +kernel
theorem dX8_asCoil_19 : decode cX8_asCoil 19 = .ok (.ireturn, 1) := by decide +kernel
theorem dX8_asBrass_0 : decode cX8_asBrass 0 = .ok (.aload_n 0, 1) := by decide +kernel
theorem dX8_asBrass_1 : decode cX8_asBrass 1 = .ok (.dup, 1) := by decide +kernel
theorem dX8_asBrass_2 : decode cX8_asBrass 2 = .ok (.getfield 77, 3) := by decide +kernel
theorem dX8_asBrass_5 : decode cX8_asBrass 5 = .ok (.ldc2_w 251, 3) := by decide +kernel
theorem dX8_asBrass_8 : decode cX8_asBrass 8 = .ok (.ladd, 1) := by decide +kernel
theorem dX8_asBrass_9 : decode cX8_asBrass 9 = .ok (.putfield 77, 3) := by decide +kernel
theorem dX8_asBrass_12 : decode cX8_asBrass 12 = .ok (.aload_n 0, 1) := by decide +kernel
theorem dX8_asBrass_13 : decode cX8_asBrass 13 = .ok (.iload_n 1, 1) := by decide +kernel
theorem dX8_asBrass_14 : decode cX8_asBrass 14 = .ok (.invokevirtual 218, 3) := by decide +kernel
theorem dX8_asBrass_17 : decode cX8_asBrass 17 = .ok (.aload_n 0, 1) := by decide +kernel
theorem dX8_asBrass_18 : decode cX8_asBrass 18 = .ok (.getfield 12, 3) := by decide +kernel
theorem dX8_asBrass_21 : decode cX8_asBrass 21 = .ok (.getfield 126, 3) := by decide +kernel
theorem dX8_asBrass_24 : decode cX8_asBrass 24 = .ok (.iload_n 1, 1) := by decide +kernel
theorem dX8_asBrass_25 : decode cX8_asBrass 25 = .ok (.iaload, 1) := by decide +kernel
theorem dX8_asBrass_26 : decode cX8_asBrass 26 = .ok (.iadd, 1) := by decide +kernel
theorem dX8_asBrass_27 : decode cX8_asBrass 27 = .ok (.ireturn, 1) := by decide +kernel
theorem dX8_asPaper_0 : decode cX8_asPaper 0 = .ok (.aload_n 0, 1) := by decide +kernel
theorem dX8_asPaper_1 : decode cX8_asPaper 1 = .ok (.dup, 1) := by decide +kernel
theorem dX8_asPaper_2 : decode cX8_asPaper 2 = .ok (.getfield 77, 3) := by decide +kernel
theorem dX8_asPaper_5 : decode cX8_asPaper 5 = .ok (.ldc2_w 253, 3) := by decide +kernel
theorem dX8_asPaper_8 : decode cX8_asPaper 8 = .ok (.ladd, 1) := by decide +kernel
theorem dX8_asPaper_9 : decode cX8_asPaper 9 = .ok (.putfield 77, 3) := by decide +kernel
theorem dX8_asPaper_12 : decode cX8_asPaper 12 = .ok (.aload_n 0, 1) := by decide +kernel
theorem dX8_asPaper_13 : decode cX8_asPaper 13 = .ok (.iload_n 1, 1) := by decide +kernel
theorem dX8_asPaper_14 : decode cX8_asPaper 14 = .ok (.invokevirtual 218, 3) := by decide +kernel
theorem dX8_asPaper_17 : decode cX8_asPaper 17 = .ok (.iconst 2, 1) := by decide +kernel
theorem dX8_asPaper_18 : decode cX8_asPaper 18 = .ok (.aload_n 0, 1) := by decide +kernel
theorem dX8_asPaper_19 : decode cX8_asPaper 19 = .ok (.getfield 26, 3) := by decide +kernel
theorem dX8_asPaper_22 : decode cX8_asPaper 22 = .ok (.getfield 129, 3) := by decide +kernel
theorem dX8_asPaper_25 : decode cX8_asPaper 25 = .ok (.iload_n 1, 1) := by decide +kernel
theorem dX8_asPaper_26 : decode cX8_asPaper 26 = .ok (.iaload, 1) := by decide +kernel
theorem dX8_asPaper_27 : decode cX8_asPaper 27 = .ok (.imul, 1) := by decide +kernel
theorem dX8_asPaper_28 : decode cX8_asPaper 28 = .ok (.isub, 1) := by decide +kernel
theorem dX8_asPaper_29 : decode cX8_asPaper 29 = .ok (.ireturn, 1) := by decide +kernel
theorem dX8_asSilver_0 : decode cX8_asSilver 0 = .ok (.aload_n 0, 1) := by decide +kernel
theorem dX8_asSilver_1 : decode cX8_asSilver 1 = .ok (.dup, 1) := by decide +kernel
theorem dX8_asSilver_2 : decode cX8_asSilver 2 = .ok (.getfield 77, 3) := by decide +kernel
theorem dX8_asSilver_5 : decode cX8_asSilver 5 = .ok (.ldc2_w 255, 3) := by decide +kernel
theorem dX8_asSilver_8 : decode cX8_asSilver 8 = .ok (.ladd, 1) := by decide +kernel
theorem dX8_asSilver_9 : decode cX8_asSilver 9 = .ok (.putfield 77, 3) := by decide +kernel
theorem dX8_asSilver_12 : decode cX8_asSilver 12 = .ok (.iconst 2, 1) := by decide +kernel
theorem dX8_asSilver_13 : decode cX8_asSilver 13 = .ok (.aload_n 0, 1) := by decide +kernel
theorem dX8_asSilver_14 : decode cX8_asSilver 14 = .ok (.iload_n 1, 1) := by decide +kernel
theorem dX8_asSilver_15 : decode cX8_asSilver 15 = .ok (.invokevirtual 221, 3) := by decide +kernel
theorem dX8_asSilver_18 : decode cX8_asSilver 18 = .ok (.imul, 1) := by decide +kernel
theorem dX8_asSilver_19 : decode cX8_asSilver 19 = .ok (.ireturn, 1) := by decide +kernel
theorem dX8_asTwine_0 : decode cX8_asTwine 0 = .ok (.aload_n 0, 1) := by decide +kernel
theorem dX8_asTwine_1 : decode cX8_asTwine 1 = .ok (.dup, 1) := by decide +kernel
theorem dX8_asTwine_2 : decode cX8_asTwine 2 = .ok (.getfield 77, 3) := by decide +kernel
theorem dX8_asTwine_5 : decode cX8_asTwine 5 = .ok (.ldc2_w 257, 3) := by decide +kernel
theorem dX8_asTwine_8 : decode cX8_asTwine 8 = .ok (.ladd, 1) := by decide +kernel
theorem dX8_asTwine_9 : decode cX8_asTwine 9 = .ok (.putfield 77, 3) := by decide +kernel
theorem dX8_asTwine_12 : decode cX8_asTwine 12 = .ok (.aload_n 0, 1) := by decide +kernel
theorem dX8_asTwine_13 : decode cX8_asTwine 13 = .ok (.iload_n 1, 1) := by decide +kernel
theorem dX8_asTwine_14 : decode cX8_asTwine 14 = .ok (.invokevirtual 224, 3) := by decide +kernel
theorem dX8_asTwine_17 : decode cX8_asTwine 17 = .ok (.iload_n 1, 1) := by decide +kernel
theorem dX8_asTwine_18 : decode cX8_asTwine 18 = .ok (.iadd, 1) := by decide +kernel
theorem dX8_asTwine_19 : decode cX8_asTwine 19 = .ok (.ireturn, 1) := by decide +kernel
theorem dX8_asLead_0 : decode cX8_asLead 0 = .ok (.aload_n 0, 1) := by decide +kernel
theorem dX8_asLead_1 : decode cX8_asLead 1 = .ok (.dup, 1) := by decide +kernel
theorem dX8_asLead_2 : decode cX8_asLead 2 = .ok (.getfield 77, 3) := by decide +kernel
theorem dX8_asLead_5 : decode cX8_asLead 5 = .ok (.ldc2_w 259, 3) := by decide +kernel
theorem dX8_asLead_8 : decode cX8_asLead 8 = .ok (.ladd, 1) := by decide +kernel
theorem dX8_asLead_9 : decode cX8_asLead 9 = .ok (.putfield 77, 3) := by decide +kernel
theorem dX8_asLead_12 : decode cX8_asLead 12 = .ok (.aload_n 0, 1) := by decide +kernel
theorem dX8_asLead_13 : decode cX8_asLead 13 = .ok (.iload_n 1, 1) := by decide +kernel
theorem dX8_asLead_14 : decode cX8_asLead 14 = .ok (.invokevirtual 218, 3) := by decide +kernel
theorem dX8_asLead_17 : decode cX8_asLead 17 = .ok (.aload_n 0, 1) := by decide +kernel
theorem dX8_asLead_18 : decode cX8_asLead 18 = .ok (.getfield 26, 3) := by decide +kernel
theorem dX8_asLead_21 : decode cX8_asLead 21 = .ok (.getfield 135, 3) := by decide +kernel
theorem dX8_asLead_24 : decode cX8_asLead 24 = .ok (.iadd, 1) := by decide +kernel
theorem dX8_asLead_25 : decode cX8_asLead 25 = .ok (.ireturn, 1) := by decide +kernel
theorem dX9_init_0 : decode cX9_init 0 = .ok (.aload_n 0, 1) := by decide +kernel
theorem dX9_init_1 : decode cX9_init 1 = .ok (.invokespecial 1, 3) := by decide +kernel
theorem dX9_init_4 : decode cX9_init 4 = .ok (.aload_n 0, 1) := by decide +kernel
theorem dX9_init_5 : decode cX9_init 5 = .ok (.sipush 168, 3) := by decide +kernel
theorem dX9_init_8 : decode cX9_init 8 = .ok (.newarray .int, 2) := by decide +kernel
theorem dX9_init_10 : decode cX9_init 10 = .ok (.putfield 7, 3) := by decide +kernel
theorem dX9_init_13 : decode cX9_init 13 = .ok (.aload_n 0, 1) := by decide +kernel
theorem dX9_init_14 : decode cX9_init 14 = .ok (.iconst 4, 1) := by decide +kernel
theorem dX9_init_15 : decode cX9_init 15 = .ok (.putfield 13, 3) := by decide +kernel
theorem dX9_init_18 : decode cX9_init 18 = .ok (.aload_n 0, 1) := by decide +kernel
theorem dX9_init_19 : decode cX9_init 19 = .ok (.iconst 3, 1) := by decide +kernel
theorem dX9_init_20 : decode cX9_init 20 = .ok (.putfield 17, 3) := by decide +kernel
theorem dX9_init_23 : decode cX9_init 23 = .ok (.aload_n 0, 1) := by decide +kernel
theorem dX9_init_24 : decode cX9_init 24 = .ok (.iconst 1, 1) := by decide +kernel
theorem dX9_init_25 : decode cX9_init 25 = .ok (.putfield 20, 3) := by decide +kernel
theorem dX9_init_28 : decode cX9_init 28 = .ok (.aload_n 0, 1) := by decide +kernel
theorem dX9_init_29 : decode cX9_init 29 = .ok (.bipush 9, 2) := by decide +kernel
theorem dX9_init_31 : decode cX9_init 31 = .ok (.newarray .int, 2) := by decide +kernel
theorem dX9_init_33 : decode cX9_init 33 = .ok (.putfield 23, 3) := by decide +kernel
theorem dX9_init_36 : decode cX9_init 36 = .ok (.aload_n 0, 1) := by decide +kernel
theorem dX9_init_37 : decode cX9_init 37 = .ok (.bipush 9, 2) := by decide +kernel
theorem dX9_init_39 : decode cX9_init 39 = .ok (.newarray .int, 2) := by decide +kernel
theorem dX9_init_41 : decode cX9_init 41 = .ok (.putfield 26, 3) := by decide +kernel
theorem dX9_init_44 : decode cX9_init 44 = .ok (.aload_n 0, 1) := by decide +kernel
theorem dX9_init_45 : decode cX9_init 45 = .ok (.iconst 2, 1) := by decide +kernel
theorem dX9_init_46 : decode cX9_init 46 = .ok (.newarray .boolean, 2) := by decide +kernel
theorem dX9_init_48 : decode cX9_init 48 = .ok (.putfield 29, 3) := by decide +kernel
theorem dX9_init_51 : decode cX9_init 51 = .ok (.aload_n 0, 1) := by decide +kernel
theorem dX9_init_52 : decode cX9_init 52 = .ok (.bipush 100, 2) := by decide +kernel
theorem dX9_init_54 : decode cX9_init 54 = .ok (.newarray .int, 2) := by decide +kernel
theorem dX9_init_56 : decode cX9_init 56 = .ok (.putfield 33, 3) := by decide +kernel
theorem dX9_init_59 : decode cX9_init 59 = .ok (.aload_n 0, 1) := by decide +kernel
theorem dX9_init_60 : decode cX9_init 60 = .ok (.bipush 6, 2) := by decide +kernel
theorem dX9_init_62 : decode cX9_init 62 = .ok (.newarray .int, 2) := by decide +kernel
theorem dX9_init_64 : decode cX9_init 64 = .ok (.putfield 36, 3) := by decide +kernel
theorem dX9_init_67 : decode cX9_init 67 = .ok (.aload_n 0, 1) := by decide +kernel
theorem dX9_init_68 : decode cX9_init 68 = .ok (.bipush 6, 2) := by decide +kernel
theorem dX9_init_70 : decode cX9_init 70 = .ok (.newarray .int, 2) := by decide +kernel
theorem dX9_init_72 : decode cX9_init 72 = .ok (.putfield 39, 3) := by decide +kernel
theorem dX9_init_75 : decode cX9_init 75 = .ok (.aload_n 0, 1) := by decide +kernel
theorem dX9_init_76 : decode cX9_init 76 = .ok (.bipush 6, 2) := by decide +kernel
theorem dX9_init_78 : decode cX9_init 78 = .ok (.newarray .int, 2) := by decide +kernel
theorem dX9_init_80 : decode cX9_init 80 = .ok (.putfield 42, 3) := by decide +kernel
theorem dX9_init_83 : decode cX9_init 83 = .ok (.aload_n 0, 1) := by decide +kernel
theorem dX9_init_84 : decode cX9_init 84 = .ok (.bipush 9, 2) := by decide +kernel
theorem dX9_init_86 : decode cX9_init 86 = .ok (.newarray .int, 2) := by decide +kernel
theorem dX9_init_88 : decode cX9_init 88 = .ok (.putfield 45, 3) := by decide +kernel
theorem dX9_init_91 : decode cX9_init 91 = .ok (.aload_n 0, 1) := by decide +kernel
theorem dX9_init_92 : decode cX9_init 92 = .ok (.bipush 9, 2) := by decide +kernel
theorem dX9_init_94 : decode cX9_init 94 = .ok (.newarray .int, 2) := by decide +kernel
theorem dX9_init_96 : decode cX9_init 96 = .ok (.putfield 48, 3) := by decide +kernel
theorem dX9_init_99 : decode cX9_init 99 = .ok (.aload_n 0, 1) := by decide +kernel
theorem dX9_init_100 : decode cX9_init 100 = .ok (.bipush 9, 2) := by decide +kernel
theorem dX9_init_102 : decode cX9_init 102 = .ok (.newarray .int, 2) := by decide +kernel
theorem dX9_init_104 : decode cX9_init 104 = .ok (.putfield 51, 3) := by decide +kernel
theorem dX9_init_107 : decode cX9_init 107 = .ok (.aload_n 0, 1) := by decide +kernel
theorem dX9_init_108 : decode cX9_init 108 = .ok (.iconst 3, 1) := by decide +kernel
theorem dX9_init_109 : decode cX9_init 109 = .ok (.newarray .int, 2) := by decide +kernel
theorem dX9_init_111 : decode cX9_init 111 = .ok (.putfield 54, 3) := by decide +kernel
theorem dX9_init_114 : decode cX9_init 114 = .ok (.aload_n 0, 1) := by decide +kernel
theorem dX9_init_115 : decode cX9_init 115 = .ok (.sipush 1000, 3) := by decide +kernel
theorem dX9_init_118 : decode cX9_init 118 = .ok (.newarray .int, 2) := by decide +kernel
theorem dX9_init_120 : decode cX9_init 120 = .ok (.putfield 57, 3) := by decide +kernel
theorem dX9_init_123 : decode cX9_init 123 = .ok (.aload_n 0, 1) := by decide +kernel
theorem dX9_init_124 : decode cX9_init 124 = .ok (.bipush 36, 2) := by decide +kernel
theorem dX9_init_126 : decode cX9_init 126 = .ok (.newarray .int, 2) := by decide +kernel
theorem dX9_init_128 : decode cX9_init 128 = .ok (.putfield 60, 3) := by decide +kernel
theorem dX9_init_131 : decode cX9_init 131 = .ok (.aload_n 0, 1) := by decide +kernel
theorem dX9_init_132 : decode cX9_init 132 = .ok (.bipush 10, 2) := by decide +kernel
theorem dX9_init_134 : decode cX9_init 134 = .ok (.newarray .int, 2) := by decide +kernel
theorem dX9_init_136 : decode cX9_init 136 = .ok (.putfield 63, 3) := by decide +kernel
theorem dX9_init_139 : decode cX9_init 139 = .ok (.return_, 1) := by decide +kernel
theorem dX9_in_0 : decode cX9_in 0 = .ok (.iload_n 0, 1) := by decide +kernel
theorem dX9_in_1 : decode cX9_in 1 = .ok (.iload_n 1, 1) := by decide +kernel
theorem dX9_in_2 : decode cX9_in 2 = .ok (.if_icmp .lt 12, 3) := by decide +kernel
theorem dX9_in_5 : decode cX9_in 5 = .ok (.iload_n 0, 1) := by decide +kernel
theorem dX9_in_6 : decode cX9_in 6 = .ok (.iload_n 2, 1) := by decide +kernel
theorem dX9_in_7 : decode cX9_in 7 = .ok (.if_icmp .gt 7, 3) := by decide +kernel
theorem dX9_in_10 : decode cX9_in 10 = .ok (.iconst 1, 1) := by decide +kernel
theorem dX9_in_11 : decode cX9_in 11 = .ok (.goto 4, 3) := by decide +kernel
theorem dX9_in_14 : decode cX9_in 14 = .ok (.iconst 0, 1) := by decide +kernel
theorem dX9_in_15 : decode cX9_in 15 = .ok (.ireturn, 1) := by decide +kernel
theorem dX9_copyRow_0 : decode cX9_copyRow 0 = .ok (.iconst 0, 1) := by decide +kernel
theorem dX9_copyRow_1 : decode cX9_copyRow 1 = .ok (.istore_n 3, 1) := by decide +kernel
theorem dX9_copyRow_2 : decode cX9_copyRow 2 = .ok (.iload_n 3, 1) := by decide +kernel
theorem dX9_copyRow_3 : decode cX9_copyRow 3 = .ok (.bipush 12, 2) := by decide +kernel
theorem dX9_copyRow_5 : decode cX9_copyRow 5 = .ok (.if_icmp .ge 25, 3) := by decide +kernel
theorem dX9_copyRow_8 : decode cX9_copyRow 8 = .ok (.aload_n 0, 1) := by decide +kernel
theorem dX9_copyRow_9 : decode cX9_copyRow 9 = .ok (.getfield 7, 3) := by decide +kernel
theorem dX9_copyRow_12 : decode cX9_copyRow 12 = .ok (.iload_n 2, 1) := by decide +kernel
theorem dX9_copyRow_13 : decode cX9_copyRow 13 = .ok (.iload_n 3, 1) := by decide +kernel
theorem dX9_copyRow_14 : decode cX9_copyRow 14 = .ok (.iadd, 1) := by decide +kernel
theorem dX9_copyRow_15 : decode cX9_copyRow 15 = .ok (.aload_n 0, 1) := by decide +kernel
theorem dX9_copyRow_16 : decode cX9_copyRow 16 = .ok (.getfield 7, 3) := by decide +kernel
theorem dX9_copyRow_19 : decode cX9_copyRow 19 = .ok (.iload_n 1, 1) := by decide +kernel
theorem dX9_copyRow_20 : decode cX9_copyRow 20 = .ok (.iload_n 3, 1) := by decide +kernel
theorem dX9_copyRow_21 : decode cX9_copyRow 21 = .ok (.iadd, 1) := by decide +kernel
theorem dX9_copyRow_22 : decode cX9_copyRow 22 = .ok (.iaload, 1) := by decide +kernel
theorem dX9_copyRow_23 : decode cX9_copyRow 23 = .ok (.iastore, 1) := by decide +kernel
theorem dX9_copyRow_24 : decode cX9_copyRow 24 = .ok (.iinc 3 1, 3) := by decide +kernel
theorem dX9_copyRow_27 : decode cX9_copyRow 27 = .ok (.goto (-25), 3) := by decide +kernel
theorem dX9_copyRow_30 : decode cX9_copyRow 30 = .ok (.return_, 1) := by decide +kernel
theorem dX9_isStep_0 : decode cX9_isStep 0 = .ok (.iload_n 1, 1) := by decide +kernel
theorem dX9_isStep_1 : decode cX9_isStep 1 = .ok (.iconst 0, 1) := by decide +kernel
theorem dX9_isStep_2 : decode cX9_isStep 2 = .ok (.aload_n 0, 1) := by decide +kernel
theorem dX9_isStep_3 : decode cX9_isStep 3 = .ok (.getfield 66, 3) := by decide +kernel
theorem dX9_isStep_6 : decode cX9_isStep 6 = .ok (.iconst 1, 1) := by decide +kernel
theorem dX9_isStep_7 : decode cX9_isStep 7 = .ok (.isub, 1) := by decide +kernel
theorem dX9_isStep_8 : decode cX9_isStep 8 = .ok (.invokestatic 69, 3) := by decide +kernel
theorem dX9_isStep_11 : decode cX9_isStep 11 = .ok (.ireturn, 1) := by decide +kernel
theorem dX9_type_0 : decode cX9_type 0 = .ok (.iload_n 1, 1) := by decide +kernel
theorem dX9_type_1 : decode cX9_type 1 = .ok (.iconst 0, 1) := by decide +kernel
theorem dX9_type_2 : decode cX9_type 2 = .ok (.sipush 255, 3) := by decide +kernel
theorem dX9_type_5 : decode cX9_type 5 = .ok (.invokestatic 69, 3) := by decide +kernel
theorem dX9_type_8 : decode cX9_type 8 = .ok (.ifCond .ne 5, 3) := by decide +kernel
theorem dX9_type_11 : decode cX9_type 11 = .ok (.iconst (-1), 1) := by decide +kernel
theorem dX9_type_12 : decode cX9_type 12 = .ok (.ireturn, 1) := by decide +kernel
theorem dX9_type_13 : decode cX9_type 13 = .ok (.aload_n 0, 1) := by decide +kernel
theorem dX9_type_14 : decode cX9_type 14 = .ok (.getfield 73, 3) := by decide +kernel
theorem dX9_type_17 : decode cX9_type 17 = .ok (.bipush 100, 2) := by decide +kernel
theorem dX9_type_19 : decode cX9_type 19 = .ok (.if_icmp .ne 6, 3) := by decide +kernel
theorem dX9_type_22 : decode cX9_type 22 = .ok (.bipush (-3), 2) := by decide +kernel
theorem dX9_type_24 : decode cX9_type 24 = .ok (.ireturn, 1) := by decide +kernel
theorem dX9_type_25 : decode cX9_type 25 = .ok (.aload_n 0, 1) := by decide +kernel
theorem dX9_type_26 : decode cX9_type 26 = .ok (.getfield 33, 3) := by decide +kernel
theorem dX9_type_29 : decode cX9_type 29 = .ok (.aload_n 0, 1) := by decide +kernel
theorem dX9_type_30 : decode cX9_type 30 = .ok (.getfield 73, 3) := by decide +kernel
theorem dX9_type_33 : decode cX9_type 33 = .ok (.iload_n 1, 1) := by decide +kernel
theorem dX9_type_34 : decode cX9_type 34 = .ok (.iastore, 1) := by decide +kernel
theorem dX9_type_35 : decode cX9_type 35 = .ok (.aload_n 0, 1) := by decide +kernel
theorem dX9_type_36 : decode cX9_type 36 = .ok (.dup, 1) := by decide +kernel
theorem dX9_type_37 : decode cX9_type 37 = .ok (.getfield 73, 3) := by decide +kernel
theorem dX9_type_40 : decode cX9_type 40 = .ok (.iconst 1, 1) := by decide +kernel
theorem dX9_type_41 : decode cX9_type 41 = .ok (.iadd, 1) := by decide +kernel
theorem dX9_type_42 : decode cX9_type 42 = .ok (.putfield 73, 3) := by decide +kernel
theorem dX9_type_45 : decode cX9_type 45 = .ok (.aload_n 0, 1) := by decide +kernel
theorem dX9_type_46 : decode cX9_type 46 = .ok (.getfield 73, 3) := by decide +kernel
theorem dX9_type_49 : decode cX9_type 49 = .ok (.ireturn, 1) := by decide +kernel
theorem dX9_clear_0 : decode cX9_clear 0 = .ok (.aload_n 0, 1) := by decide +kernel
theorem dX9_clear_1 : decode cX9_clear 1 = .ok (.getfield 73, 3) := by decide +kernel
theorem dX9_clear_4 : decode cX9_clear 4 = .ok (.istore_n 1, 1) := by decide +kernel
theorem dX9_clear_5 : decode cX9_clear 5 = .ok (.aload_n 0, 1) := by decide +kernel
theorem dX9_clear_6 : decode cX9_clear 6 = .ok (.iconst 0, 1) := by decide +kernel
theorem dX9_clear_7 : decode cX9_clear 7 = .ok (.putfield 73, 3) := by decide +kernel
theorem dX9_clear_10 : decode cX9_clear 10 = .ok (.iload_n 1, 1) := by decide +kernel
theorem dX9_clear_11 : decode cX9_clear 11 = .ok (.ireturn, 1) := by decide +kernel
theorem dX9_isFigure_0 : decode cX9_isFigure 0 = .ok (.iload_n 1, 1) := by decide +kernel
theorem dX9_isFigure_1 : decode cX9_isFigure 1 = .ok (.aload_n 0, 1) := by decide +kernel
theorem dX9_isFigure_2 : decode cX9_isFigure 2 = .ok (.getfield 73, 3) := by decide +kernel
theorem dX9_isFigure_5 : decode cX9_isFigure 5 = .ok (.if_icmp .ge 23, 3) := by decide +kernel
theorem dX9_isFigure_8 : decode cX9_isFigure 8 = .ok (.aload_n 0, 1) := by decide +kernel
theorem dX9_isFigure_9 : decode cX9_isFigure 9 = .ok (.getfield 33, 3) := by decide +kernel
theorem dX9_isFigure_12 : decode cX9_isFigure 12 = .ok (.iload_n 1, 1) := by decide +kernel
theorem dX9_isFigure_13 : decode cX9_isFigure 13 = .ok (.iaload, 1) := by decide +kernel
theorem dX9_isFigure_14 : decode cX9_isFigure 14 = .ok (.bipush 48, 2) := by decide +kernel
theorem dX9_isFigure_16 : decode cX9_isFigure 16 = .ok (.bipush 57, 2) := by decide +kernel
theorem dX9_isFigure_18 : decode cX9_isFigure 18 = .ok (.invokestatic 69, 3) := by decide +kernel
theorem dX9_isFigure_21 : decode cX9_isFigure 21 = .ok (.ifCond .eq 7, 3) := by decide +kernel
theorem dX9_isFigure_24 : decode cX9_isFigure 24 = .ok (.iconst 1, 1) := by decide +kernel
theorem dX9_isFigure_25 : decode cX9_isFigure 25 = .ok (.goto 4, 3) := by decide +kernel
theorem dX9_isFigure_28 : decode cX9_isFigure 28 = .ok (.iconst 0, 1) := by decide +kernel
theorem dX9_isFigure_29 : decode cX9_isFigure 29 = .ok (.ireturn, 1) := by decide +kernel
theorem dX9_nextToken_0 : decode cX9_nextToken 0 = .ok (.aload_n 0, 1) := by decide +kernel
theorem dX9_nextToken_1 : decode cX9_nextToken 1 = .ok (.aload_n 0, 1) := by decide +kernel
theorem dX9_nextToken_2 : decode cX9_nextToken 2 = .ok (.getfield 76, 3) := by decide +kernel
theorem dX9_nextToken_5 : decode cX9_nextToken 5 = .ok (.putfield 79, 3) := by decide +kernel
theorem dX9_nextToken_8 : decode cX9_nextToken 8 = .ok (.aload_n 0, 1) := by decide +kernel
theorem dX9_nextToken_9 : decode cX9_nextToken 9 = .ok (.getfield 79, 3) := by decide +kernel
theorem dX9_nextToken_12 : decode cX9_nextToken 12 = .ok (.aload_n 0, 1) := by decide +kernel
theorem dX9_nextToken_13 : decode cX9_nextToken 13 = .ok (.getfield 73, 3) := by decide +kernel
theorem dX9_nextToken_16 : decode cX9_nextToken 16 = .ok (.if_icmp .ge 30, 3) := by decide +kernel
theorem dX9_nextToken_19 : decode cX9_nextToken 19 = .ok (.aload_n 0, 1) := by decide +kernel
theorem dX9_nextToken_20 : decode cX9_nextToken 20 = .ok (.getfield 33, 3) := by decide +kernel
theorem dX9_nextToken_23 : decode cX9_nextToken 23 = .ok (.aload_n 0, 1) := by decide +kernel
theorem dX9_nextToken_24 : decode cX9_nextToken 24 = .ok (.getfield 79, 3) := by decide +kernel
theorem dX9_nextToken_27 : decode cX9_nextToken 27 = .ok (.iaload, 1) := by decide +kernel
theorem dX9_nextToken_28 : decode cX9_nextToken 28 = .ok (.bipush 32, 2) := by decide +kernel
theorem dX9_nextToken_30 : decode cX9_nextToken 30 = .ok (.if_icmp .ne 16, 3) := by decide +kernel
theorem dX9_nextToken_33 : decode cX9_nextToken 33 = .ok (.aload_n 0, 1) := by decide +kernel
theorem dX9_nextToken_34 : decode cX9_nextToken 34 = .ok (.dup, 1) := by decide +kernel
theorem dX9_nextToken_35 : decode cX9_nextToken 35 = .ok (.getfield 79, 3) := by decide +kernel
theorem dX9_nextToken_38 : decode cX9_nextToken 38 = .ok (.iconst 1, 1) := by decide +kernel
theorem dX9_nextToken_39 : decode cX9_nextToken 39 = .ok (.iadd, 1) := by decide +kernel
theorem dX9_nextToken_40 : decode cX9_nextToken 40 = .ok (.putfield 79, 3) := by decide +kernel
theorem dX9_nextToken_43 : decode cX9_nextToken 43 = .ok (.goto (-35), 3) := by decide +kernel
theorem dX9_nextToken_46 : decode cX9_nextToken 46 = .ok (.aload_n 0, 1) := by decide +kernel
theorem dX9_nextToken_47 : decode cX9_nextToken 47 = .ok (.aload_n 0, 1) := by decide +kernel
theorem dX9_nextToken_48 : decode cX9_nextToken 48 = .ok (.getfield 79, 3) := by decide +kernel
theorem dX9_nextToken_51 : decode cX9_nextToken 51 = .ok (.aload_n 0, 1) := by decide +kernel
theorem dX9_nextToken_52 : decode cX9_nextToken 52 = .ok (.getfield 73, 3) := by decide +kernel
theorem dX9_nextToken_55 : decode cX9_nextToken 55 = .ok (.if_icmp .ge 12, 3) := by decide +kernel
theorem dX9_nextToken_58 : decode cX9_nextToken 58 = .ok (.aload_n 0, 1) := by decide +kernel
theorem dX9_nextToken_59 : decode cX9_nextToken 59 = .ok (.getfield 79, 3) := by decide +kernel
theorem dX9_nextToken_62 : decode cX9_nextToken 62 = .ok (.iconst 1, 1) := by decide +kernel
theorem dX9_nextToken_63 : decode cX9_nextToken 63 = .ok (.iadd, 1) := by decide +kernel
theorem dX9_nextToken_64 : decode cX9_nextToken 64 = .ok (.goto 7, 3) := by decide +kernel
theorem dX9_nextToken_67 : decode cX9_nextToken 67 = .ok (.aload_n 0, 1) := by decide +kernel
theorem dX9_nextToken_68 : decode cX9_nextToken 68 = .ok (.getfield 79, 3) := by decide +kernel
theorem dX9_nextToken_71 : decode cX9_nextToken 71 = .ok (.putfield 76, 3) := by decide +kernel
theorem dX9_nextToken_74 : decode cX9_nextToken 74 = .ok (.aload_n 0, 1) := by decide +kernel
theorem dX9_nextToken_75 : decode cX9_nextToken 75 = .ok (.aload_n 0, 1) := by decide +kernel
theorem dX9_nextToken_76 : decode cX9_nextToken 76 = .ok (.getfield 79, 3) := by decide +kernel
theorem dX9_nextToken_79 : decode cX9_nextToken 79 = .ok (.invokevirtual 82, 3) := by decide +kernel
theorem dX9_nextToken_82 : decode cX9_nextToken 82 = .ok (.ifCond .eq 27, 3) := by decide +kernel
theorem dX9_nextToken_85 : decode cX9_nextToken 85 = .ok (.aload_n 0, 1) := by decide +kernel
theorem dX9_nextToken_86 : decode cX9_nextToken 86 = .ok (.aload_n 0, 1) := by decide +kernel
theorem dX9_nextToken_87 : decode cX9_nextToken 87 = .ok (.getfield 76, 3) := by decide +kernel
theorem dX9_nextToken_90 : decode cX9_nextToken 90 = .ok (.invokevirtual 82, 3) := by decide +kernel
theorem dX9_nextToken_93 : decode cX9_nextToken 93 = .ok (.ifCond .eq 16, 3) := by decide +kernel
theorem dX9_nextToken_96 : decode cX9_nextToken 96 = .ok (.aload_n 0, 1) := by decide +kernel
theorem dX9_nextToken_97 : decode cX9_nextToken 97 = .ok (.dup, 1) := by decide +kernel
theorem dX9_nextToken_98 : decode cX9_nextToken 98 = .ok (.getfield 76, 3) := by decide +kernel
theorem dX9_nextToken_101 : decode cX9_nextToken 101 = .ok (.iconst 1, 1) := by decide +kernel
theorem dX9_nextToken_102 : decode cX9_nextToken 102 = .ok (.iadd, 1) := by decide +kernel
theorem dX9_nextToken_103 : decode cX9_nextToken 103 = .ok (.putfield 76, 3) := by decide +kernel
theorem dX9_nextToken_106 : decode cX9_nextToken 106 = .ok (.goto (-32), 3) := by decide +kernel
theorem dX9_nextToken_109 : decode cX9_nextToken 109 = .ok (.return_, 1) := by decide +kernel
theorem dX9_isSign_0 : decode cX9_isSign 0 = .ok (.aload_n 0, 1) := by decide +kernel
theorem dX9_isSign_1 : decode cX9_isSign 1 = .ok (.getfield 79, 3) := by decide +kernel
theorem dX9_isSign_4 : decode cX9_isSign 4 = .ok (.aload_n 0, 1) := by decide +kernel
theorem dX9_isSign_5 : decode cX9_isSign 5 = .ok (.getfield 73, 3) := by decide +kernel
theorem dX9_isSign_8 : decode cX9_isSign 8 = .ok (.if_icmp .ge 20, 3) := by decide +kernel
theorem dX9_isSign_11 : decode cX9_isSign 11 = .ok (.aload_n 0, 1) := by decide +kernel
theorem dX9_isSign_12 : decode cX9_isSign 12 = .ok (.getfield 33, 3) := by decide +kernel
theorem dX9_isSign_15 : decode cX9_isSign 15 = .ok (.aload_n 0, 1) := by decide +kernel
theorem dX9_isSign_16 : decode cX9_isSign 16 = .ok (.getfield 79, 3) := by decide +kernel
theorem dX9_isSign_19 : decode cX9_isSign 19 = .ok (.iaload, 1) := by decide +kernel
theorem dX9_isSign_20 : decode cX9_isSign 20 = .ok (.iload_n 1, 1) := by decide +kernel
theorem dX9_isSign_21 : decode cX9_isSign 21 = .ok (.if_icmp .ne 7, 3) := by decide +kernel
theorem dX9_isSign_24 : decode cX9_isSign 24 = .ok (.iconst 1, 1) := by decide +kernel
theorem dX9_isSign_25 : decode cX9_isSign 25 = .ok (.goto 4, 3) := by decide +kernel
theorem dX9_isSign_28 : decode cX9_isSign 28 = .ok (.iconst 0, 1) := by decide +kernel
theorem dX9_isSign_29 : decode cX9_isSign 29 = .ok (.ireturn, 1) := by decide +kernel
theorem dX9_readsNumber_0 : decode cX9_readsNumber 0 = .ok (.aload_n 0, 1) := by decide +kernel
theorem dX9_readsNumber_1 : decode cX9_readsNumber 1 = .ok (.invokevirtual 86, 3) := by decide +kernel
theorem dX9_readsNumber_4 : decode cX9_readsNumber 4 = .ok (.aload_n 0, 1) := by decide +kernel
theorem dX9_readsNumber_5 : decode cX9_readsNumber 5 = .ok (.aload_n 0, 1) := by decide +kernel
theorem dX9_readsNumber_6 : decode cX9_readsNumber 6 = .ok (.aload_n 0, 1) := by decide +kernel
theorem dX9_readsNumber_7 : decode cX9_readsNumber 7 = .ok (.getfield 79, 3) := by decide +kernel
theorem dX9_readsNumber_10 : decode cX9_readsNumber 10 = .ok (.invokevirtual 82, 3) := by decide +kernel
theorem dX9_readsNumber_13 : decode cX9_readsNumber 13 = .ok (.ifCond .eq 31, 3) := by decide +kernel
theorem dX9_readsNumber_16 : decode cX9_readsNumber 16 = .ok (.aload_n 0, 1) := by decide +kernel
theorem dX9_readsNumber_17 : decode cX9_readsNumber 17 = .ok (.getfield 76, 3) := by decide +kernel
theorem dX9_readsNumber_20 : decode cX9_readsNumber 20 = .ok (.aload_n 0, 1) := by decide +kernel
theorem dX9_readsNumber_21 : decode cX9_readsNumber 21 = .ok (.getfield 79, 3) := by decide +kernel
theorem dX9_readsNumber_24 : decode cX9_readsNumber 24 = .ok (.isub, 1) := by decide +kernel
theorem dX9_readsNumber_25 : decode cX9_readsNumber 25 = .ok (.iconst 1, 1) := by decide +kernel
theorem dX9_readsNumber_26 : decode cX9_readsNumber 26 = .ok (.if_icmp .ne 18, 3) := by decide +kernel
theorem dX9_readsNumber_29 : decode cX9_readsNumber 29 = .ok (.aload_n 0, 1) := by decide +kernel
theorem dX9_readsNumber_30 : decode cX9_readsNumber 30 = .ok (.getfield 33, 3) := by decide +kernel
theorem dX9_readsNumber_33 : decode cX9_readsNumber 33 = .ok (.aload_n 0, 1) := by decide +kernel
theorem dX9_readsNumber_34 : decode cX9_readsNumber 34 = .ok (.getfield 79, 3) := by decide +kernel
theorem dX9_readsNumber_37 : decode cX9_readsNumber 37 = .ok (.iaload, 1) := by decide +kernel
theorem dX9_readsNumber_38 : decode cX9_readsNumber 38 = .ok (.bipush 48, 2) := by decide +kernel
theorem dX9_readsNumber_40 : decode cX9_readsNumber 40 = .ok (.isub, 1) := by decide +kernel
theorem dX9_readsNumber_41 : decode cX9_readsNumber 41 = .ok (.goto 4, 3) := by decide +kernel
theorem dX9_readsNumber_44 : decode cX9_readsNumber 44 = .ok (.iconst (-1), 1) := by decide +kernel
theorem dX9_readsNumber_45 : decode cX9_readsNumber 45 = .ok (.putfield 89, 3) := by decide +kernel
theorem dX9_readsNumber_48 : decode cX9_readsNumber 48 = .ok (.aload_n 0, 1) := by decide +kernel
theorem dX9_readsNumber_49 : decode cX9_readsNumber 49 = .ok (.getfield 89, 3) := by decide +kernel
theorem dX9_readsNumber_52 : decode cX9_readsNumber 52 = .ok (.iload_n 1, 1) := by decide +kernel
theorem dX9_readsNumber_53 : decode cX9_readsNumber 53 = .ok (.iload_n 2, 1) := by decide +kernel
theorem dX9_readsNumber_54 : decode cX9_readsNumber 54 = .ok (.invokestatic 69, 3) := by decide +kernel
theorem dX9_readsNumber_57 : decode cX9_readsNumber 57 = .ok (.ireturn, 1) := by decide +kernel
theorem dX9_readsStep_0 : decode cX9_readsStep 0 = .ok (.aload_n 0, 1) := by decide +kernel
theorem dX9_readsStep_1 : decode cX9_readsStep 1 = .ok (.getfield 92, 3) := by decide +kernel
theorem dX9_readsStep_4 : decode cX9_readsStep 4 = .ok (.bipush 9, 2) := by decide +kernel
theorem dX9_readsStep_6 : decode cX9_readsStep 6 = .ok (.if_icmp .eq 13, 3) := by decide +kernel
theorem dX9_readsStep_9 : decode cX9_readsStep 9 = .ok (.aload_n 0, 1) := by decide +kernel
theorem dX9_readsStep_10 : decode cX9_readsStep 10 = .ok (.iconst 1, 1) := by decide +kernel
theorem dX9_readsStep_11 : decode cX9_readsStep 11 = .ok (.bipush 9, 2) := by decide +kernel
theorem dX9_readsStep_13 : decode cX9_readsStep 13 = .ok (.invokevirtual 95, 3) := by decide +kernel
theorem dX9_readsStep_16 : decode cX9_readsStep 16 = .ok (.ifCond .ne 5, 3) := by decide +kernel
theorem dX9_readsStep_19 : decode cX9_readsStep 19 = .ok (.iconst 0, 1) := by decide +kernel
theorem dX9_readsStep_20 : decode cX9_readsStep 20 = .ok (.ireturn, 1) := by decide +kernel
theorem dX9_readsStep_21 : decode cX9_readsStep 21 = .ok (.aload_n 0, 1) := by decide +kernel
theorem dX9_readsStep_22 : decode cX9_readsStep 22 = .ok (.getfield 45, 3) := by decide +kernel
theorem dX9_readsStep_25 : decode cX9_readsStep 25 = .ok (.aload_n 0, 1) := by decide +kernel
theorem dX9_readsStep_26 : decode cX9_readsStep 26 = .ok (.getfield 92, 3) := by decide +kernel
theorem dX9_readsStep_29 : decode cX9_readsStep 29 = .ok (.aload_n 0, 1) := by decide +kernel
theorem dX9_readsStep_30 : decode cX9_readsStep 30 = .ok (.getfield 89, 3) := by decide +kernel
theorem dX9_readsStep_33 : decode cX9_readsStep 33 = .ok (.iastore, 1) := by decide +kernel
theorem dX9_readsStep_34 : decode cX9_readsStep 34 = .ok (.aload_n 0, 1) := by decide +kernel
theorem dX9_readsStep_35 : decode cX9_readsStep 35 = .ok (.iconst 1, 1) := by decide +kernel
theorem dX9_readsStep_36 : decode cX9_readsStep 36 = .ok (.bipush 9, 2) := by decide +kernel
theorem dX9_readsStep_38 : decode cX9_readsStep 38 = .ok (.invokevirtual 95, 3) := by decide +kernel
theorem dX9_readsStep_41 : decode cX9_readsStep 41 = .ok (.ifCond .ne 5, 3) := by decide +kernel
theorem dX9_readsStep_44 : decode cX9_readsStep 44 = .ok (.iconst 0, 1) := by decide +kernel
theorem dX9_readsStep_45 : decode cX9_readsStep 45 = .ok (.ireturn, 1) := by decide +kernel
theorem dX9_readsStep_46 : decode cX9_readsStep 46 = .ok (.aload_n 0, 1) := by decide +kernel
theorem dX9_readsStep_47 : decode cX9_readsStep 47 = .ok (.getfield 48, 3) := by decide +kernel
theorem dX9_readsStep_50 : decode cX9_readsStep 50 = .ok (.aload_n 0, 1) := by decide +kernel
theorem dX9_readsStep_51 : decode cX9_readsStep 51 = .ok (.getfield 92, 3) := by decide +kernel
theorem dX9_readsStep_54 : decode cX9_readsStep 54 = .ok (.aload_n 0, 1) := by decide +kernel
theorem dX9_readsStep_55 : decode cX9_readsStep 55 = .ok (.getfield 89, 3) := by decide +kernel
theorem dX9_readsStep_58 : decode cX9_readsStep 58 = .ok (.iastore, 1) := by decide +kernel
theorem dX9_readsStep_59 : decode cX9_readsStep 59 = .ok (.aload_n 0, 1) := by decide +kernel
theorem dX9_readsStep_60 : decode cX9_readsStep 60 = .ok (.iconst 0, 1) := by decide +kernel
theorem dX9_readsStep_61 : decode cX9_readsStep 61 = .ok (.iconst 5, 1) := by decide +kernel
theorem dX9_readsStep_62 : decode cX9_readsStep 62 = .ok (.invokevirtual 95, 3) := by decide +kernel
theorem dX9_readsStep_65 : decode cX9_readsStep 65 = .ok (.ifCond .ne 5, 3) := by decide +kernel
theorem dX9_readsStep_68 : decode cX9_readsStep 68 = .ok (.iconst 0, 1) := by decide +kernel
theorem dX9_readsStep_69 : decode cX9_readsStep 69 = .ok (.ireturn, 1) := by decide +kernel
theorem dX9_readsStep_70 : decode cX9_readsStep 70 = .ok (.aload_n 0, 1) := by decide +kernel
theorem dX9_readsStep_71 : decode cX9_readsStep 71 = .ok (.getfield 51, 3) := by decide +kernel
theorem dX9_readsStep_74 : decode cX9_readsStep 74 = .ok (.aload_n 0, 1) := by decide +kernel
theorem dX9_readsStep_75 : decode cX9_readsStep 75 = .ok (.getfield 92, 3) := by decide +kernel
theorem dX9_readsStep_78 : decode cX9_readsStep 78 = .ok (.aload_n 0, 1) := by decide +kernel
theorem dX9_readsStep_79 : decode cX9_readsStep 79 = .ok (.getfield 89, 3) := by decide +kernel
theorem dX9_readsStep_82 : decode cX9_readsStep 82 = .ok (.iastore, 1) := by decide +kernel
theorem dX9_readsStep_83 : decode cX9_readsStep 83 = .ok (.aload_n 0, 1) := by decide +kernel
theorem dX9_readsStep_84 : decode cX9_readsStep 84 = .ok (.dup, 1) := by decide +kernel
theorem dX9_readsStep_85 : decode cX9_readsStep 85 = .ok (.getfield 92, 3) := by decide +kernel
theorem dX9_readsStep_88 : decode cX9_readsStep 88 = .ok (.iconst 1, 1) := by decide +kernel
theorem dX9_readsStep_89 : decode cX9_readsStep 89 = .ok (.iadd, 1) := by decide +kernel
theorem dX9_readsStep_90 : decode cX9_readsStep 90 = .ok (.putfield 92, 3) := by decide +kernel
theorem dX9_readsStep_93 : decode cX9_readsStep 93 = .ok (.iconst 1, 1) := by decide +kernel
theorem dX9_readsStep_94 : decode cX9_readsStep 94 = .ok (.ireturn, 1) := by decide +kernel
theorem dX9_readsCoil_0 : decode cX9_readsCoil 0 = .ok (.aload_n 0, 1) := by decide +kernel
theorem dX9_readsCoil_1 : decode cX9_readsCoil 1 = .ok (.getfield 54, 3) := by decide +kernel
theorem dX9_readsCoil_4 : decode cX9_readsCoil 4 = .ok (.iload_n 1, 1) := by decide +kernel
theorem dX9_readsCoil_5 : decode cX9_readsCoil 5 = .ok (.iaload, 1) := by decide +kernel
theorem dX9_readsCoil_6 : decode cX9_readsCoil 6 = .ok (.ifCond .ge 12, 3) := by decide +kernel
theorem dX9_readsCoil_9 : decode cX9_readsCoil 9 = .ok (.aload_n 0, 1) := by decide +kernel
theorem dX9_readsCoil_10 : decode cX9_readsCoil 10 = .ok (.iload_n 2, 1) := by decide +kernel
theorem dX9_readsCoil_11 : decode cX9_readsCoil 11 = .ok (.iload_n 3, 1) := by decide +kernel
theorem dX9_readsCoil_12 : decode cX9_readsCoil 12 = .ok (.invokevirtual 95, 3) := by decide +kernel
theorem dX9_readsCoil_15 : decode cX9_readsCoil 15 = .ok (.ifCond .ne 5, 3) := by decide +kernel
theorem dX9_readsCoil_18 : decode cX9_readsCoil 18 = .ok (.iconst 0, 1) := by decide +kernel
theorem dX9_readsCoil_19 : decode cX9_readsCoil 19 = .ok (.ireturn, 1) := by decide +kernel
theorem dX9_readsCoil_20 : decode cX9_readsCoil 20 = .ok (.aload_n 0, 1) := by decide +kernel
theorem dX9_readsCoil_21 : decode cX9_readsCoil 21 = .ok (.getfield 54, 3) := by decide +kernel
theorem dX9_readsCoil_24 : decode cX9_readsCoil 24 = .ok (.iload_n 1, 1) := by decide +kernel
theorem dX9_readsCoil_25 : decode cX9_readsCoil 25 = .ok (.aload_n 0, 1) := by decide +kernel
theorem dX9_readsCoil_26 : decode cX9_readsCoil 26 = .ok (.getfield 89, 3) := by decide +kernel
theorem dX9_readsCoil_29 : decode cX9_readsCoil 29 = .ok (.iastore, 1) := by decide +kernel
theorem dX9_readsCoil_30 : decode cX9_readsCoil 30 = .ok (.iconst 1, 1) := by decide +kernel
theorem dX9_readsCoil_31 : decode cX9_readsCoil 31 = .ok (.ireturn, 1) := by decide +kernel
theorem dX9_readsItem_0 : decode cX9_readsItem 0 = .ok (.aload_n 0, 1) := by decide +kernel
theorem dX9_readsItem_1 : decode cX9_readsItem 1 = .ok (.bipush 115, 2) := by decide +kernel
theorem dX9_readsItem_3 : decode cX9_readsItem 3 = .ok (.invokevirtual 99, 3) := by decide +kernel
theorem dX9_readsItem_6 : decode cX9_readsItem 6 = .ok (.ifCond .eq 10, 3) := by decide +kernel
theorem dX9_readsItem_9 : decode cX9_readsItem 9 = .ok (.aload_n 0, 1) := by decide +kernel
theorem dX9_readsItem_10 : decode cX9_readsItem 10 = .ok (.invokevirtual 102, 3) := by decide +kernel
theorem dX9_readsItem_13 : decode cX9_readsItem 13 = .ok (.goto 67, 3) := by decide +kernel
theorem dX9_readsItem_16 : decode cX9_readsItem 16 = .ok (.aload_n 0, 1) := by decide +kernel
theorem dX9_readsItem_17 : decode cX9_readsItem 17 = .ok (.bipush 108, 2) := by decide +kernel
theorem dX9_readsItem_19 : decode cX9_readsItem 19 = .ok (.invokevirtual 99, 3) := by decide +kernel
theorem dX9_readsItem_22 : decode cX9_readsItem 22 = .ok (.ifCond .eq 14, 3) := by decide +kernel
theorem dX9_readsItem_25 : decode cX9_readsItem 25 = .ok (.aload_n 0, 1) := by decide +kernel
theorem dX9_readsItem_26 : decode cX9_readsItem 26 = .ok (.iconst 0, 1) := by decide +kernel
theorem dX9_readsItem_27 : decode cX9_readsItem 27 = .ok (.iconst 0, 1) := by decide +kernel
theorem dX9_readsItem_28 : decode cX9_readsItem 28 = .ok (.bipush 9, 2) := by decide +kernel
theorem dX9_readsItem_30 : decode cX9_readsItem 30 = .ok (.invokevirtual 106, 3) := by decide +kernel
theorem dX9_readsItem_33 : decode cX9_readsItem 33 = .ok (.goto 47, 3) := by decide +kernel
theorem dX9_readsItem_36 : decode cX9_readsItem 36 = .ok (.aload_n 0, 1) := by decide +kernel
theorem dX9_readsItem_37 : decode cX9_readsItem 37 = .ok (.bipush 102, 2) := by decide +kernel
theorem dX9_readsItem_39 : decode cX9_readsItem 39 = .ok (.invokevirtual 99, 3) := by decide +kernel
theorem dX9_readsItem_42 : decode cX9_readsItem 42 = .ok (.ifCond .eq 14, 3) := by decide +kernel
theorem dX9_readsItem_45 : decode cX9_readsItem 45 = .ok (.aload_n 0, 1) := by decide +kernel
theorem dX9_readsItem_46 : decode cX9_readsItem 46 = .ok (.iconst 1, 1) := by decide +kernel
theorem dX9_readsItem_47 : decode cX9_readsItem 47 = .ok (.iconst 1, 1) := by decide +kernel
theorem dX9_readsItem_48 : decode cX9_readsItem 48 = .ok (.bipush 9, 2) := by decide +kernel
theorem dX9_readsItem_50 : decode cX9_readsItem 50 = .ok (.invokevirtual 106, 3) := by decide +kernel
theorem dX9_readsItem_53 : decode cX9_readsItem 53 = .ok (.goto 27, 3) := by decide +kernel
theorem dX9_readsItem_56 : decode cX9_readsItem 56 = .ok (.aload_n 0, 1) := by decide +kernel
theorem dX9_readsItem_57 : decode cX9_readsItem 57 = .ok (.bipush 100, 2) := by decide +kernel
theorem dX9_readsItem_59 : decode cX9_readsItem 59 = .ok (.invokevirtual 99, 3) := by decide +kernel
theorem dX9_readsItem_62 : decode cX9_readsItem 62 = .ok (.ifCond .eq 17, 3) := by decide +kernel
theorem dX9_readsItem_65 : decode cX9_readsItem 65 = .ok (.aload_n 0, 1) := by decide +kernel
theorem dX9_readsItem_66 : decode cX9_readsItem 66 = .ok (.iconst 2, 1) := by decide +kernel
theorem dX9_readsItem_67 : decode cX9_readsItem 67 = .ok (.iconst 0, 1) := by decide +kernel
theorem dX9_readsItem_68 : decode cX9_readsItem 68 = .ok (.iconst 3, 1) := by decide +kernel
theorem dX9_readsItem_69 : decode cX9_readsItem 69 = .ok (.invokevirtual 106, 3) := by decide +kernel
theorem dX9_readsItem_72 : decode cX9_readsItem 72 = .ok (.ifCond .eq 7, 3) := by decide +kernel
theorem dX9_readsItem_75 : decode cX9_readsItem 75 = .ok (.iconst 1, 1) := by decide +kernel
theorem dX9_readsItem_76 : decode cX9_readsItem 76 = .ok (.goto 4, 3) := by decide +kernel
theorem dX9_readsItem_79 : decode cX9_readsItem 79 = .ok (.iconst 0, 1) := by decide +kernel
theorem dX9_readsItem_80 : decode cX9_readsItem 80 = .ok (.istore_n 1, 1) := by decide +kernel
theorem dX9_readsItem_81 : decode cX9_readsItem 81 = .ok (.iload_n 1, 1) := by decide +kernel
theorem dX9_readsItem_82 : decode cX9_readsItem 82 = .ok (.ifCond .eq 14, 3) := by decide +kernel
theorem dX9_readsItem_85 : decode cX9_readsItem 85 = .ok (.aload_n 0, 1) := by decide +kernel
theorem dX9_readsItem_86 : decode cX9_readsItem 86 = .ok (.invokevirtual 86, 3) := by decide +kernel
theorem dX9_readsItem_89 : decode cX9_readsItem 89 = .ok (.aload_n 0, 1) := by decide +kernel
theorem dX9_readsItem_90 : decode cX9_readsItem 90 = .ok (.bipush 59, 2) := by decide +kernel
theorem dX9_readsItem_92 : decode cX9_readsItem 92 = .ok (.invokevirtual 99, 3) := by decide +kernel
theorem dX9_readsItem_95 : decode cX9_readsItem 95 = .ok (.istore_n 1, 1) := by decide +kernel
theorem dX9_readsItem_96 : decode cX9_readsItem 96 = .ok (.iload_n 1, 1) := by decide +kernel
theorem dX9_readsItem_97 : decode cX9_readsItem 97 = .ok (.ireturn, 1) := by decide +kernel
theorem dX9_readItems_0 : decode cX9_readItems 0 = .ok (.aload_n 0, 1) := by decide +kernel
theorem dX9_readItems_1 : decode cX9_readItems 1 = .ok (.iconst 0, 1) := by decide +kernel
theorem dX9_readItems_2 : decode cX9_readItems 2 = .ok (.putfield 76, 3) := by decide +kernel
theorem dX9_readItems_5 : decode cX9_readItems 5 = .ok (.aload_n 0, 1) := by decide +kernel
theorem dX9_readItems_6 : decode cX9_readItems 6 = .ok (.iconst 0, 1) := by decide +kernel
theorem dX9_readItems_7 : decode cX9_readItems 7 = .ok (.putfield 92, 3) := by decide +kernel
theorem dX9_readItems_10 : decode cX9_readItems 10 = .ok (.iconst 0, 1) := by decide +kernel
theorem dX9_readItems_11 : decode cX9_readItems 11 = .ok (.istore_n 1, 1) := by decide +kernel
theorem dX9_readItems_12 : decode cX9_readItems 12 = .ok (.iload_n 1, 1) := by decide +kernel
theorem dX9_readItems_13 : decode cX9_readItems 13 = .ok (.iconst 3, 1) := by decide +kernel
theorem dX9_readItems_14 : decode cX9_readItems 14 = .ok (.if_icmp .ge 16, 3) := by decide +kernel
theorem dX9_readItems_17 : decode cX9_readItems 17 = .ok (.aload_n 0, 1) := by decide +kernel
theorem dX9_readItems_18 : decode cX9_readItems 18 = .ok (.getfield 54, 3) := by decide +kernel
theorem dX9_readItems_21 : decode cX9_readItems 21 = .ok (.iload_n 1, 1) := by decide +kernel
theorem dX9_readItems_22 : decode cX9_readItems 22 = .ok (.iconst (-1), 1) := by decide +kernel
theorem dX9_readItems_23 : decode cX9_readItems 23 = .ok (.iastore, 1) := by decide +kernel
theorem dX9_readItems_24 : decode cX9_readItems 24 = .ok (.iinc 1 1, 3) := by decide +kernel
theorem dX9_readItems_27 : decode cX9_readItems 27 = .ok (.goto (-15), 3) := by decide +kernel
theorem dX9_readItems_30 : decode cX9_readItems 30 = .ok (.iconst 0, 1) := by decide +kernel
theorem dX9_readItems_31 : decode cX9_readItems 31 = .ok (.istore_n 1, 1) := by decide +kernel
theorem dX9_readItems_32 : decode cX9_readItems 32 = .ok (.aload_n 0, 1) := by decide +kernel
theorem dX9_readItems_33 : decode cX9_readItems 33 = .ok (.invokevirtual 86, 3) := by decide +kernel
theorem dX9_readItems_36 : decode cX9_readItems 36 = .ok (.aload_n 0, 1) := by decide +kernel
theorem dX9_readItems_37 : decode cX9_readItems 37 = .ok (.getfield 79, 3) := by decide +kernel
theorem dX9_readItems_40 : decode cX9_readItems 40 = .ok (.aload_n 0, 1) := by decide +kernel
theorem dX9_readItems_41 : decode cX9_readItems 41 = .ok (.getfield 73, 3) := by decide +kernel
theorem dX9_readItems_44 : decode cX9_readItems 44 = .ok (.if_icmp .ge 23, 3) := by decide +kernel
theorem dX9_readItems_47 : decode cX9_readItems 47 = .ok (.aload_n 0, 1) := by decide +kernel
theorem dX9_readItems_48 : decode cX9_readItems 48 = .ok (.invokevirtual 109, 3) := by decide +kernel
theorem dX9_readItems_51 : decode cX9_readItems 51 = .ok (.ifCond .ne 6, 3) := by decide +kernel
theorem dX9_readItems_54 : decode cX9_readItems 54 = .ok (.bipush (-9), 2) := by decide +kernel
theorem dX9_readItems_56 : decode cX9_readItems 56 = .ok (.ireturn, 1) := by decide +kernel
theorem dX9_readItems_57 : decode cX9_readItems 57 = .ok (.iinc 1 1, 3) := by decide +kernel
theorem dX9_readItems_60 : decode cX9_readItems 60 = .ok (.aload_n 0, 1) := by decide +kernel
theorem dX9_readItems_61 : decode cX9_readItems 61 = .ok (.invokevirtual 86, 3) := by decide +kernel
theorem dX9_readItems_64 : decode cX9_readItems 64 = .ok (.goto (-28), 3) := by decide +kernel
theorem dX9_readItems_67 : decode cX9_readItems 67 = .ok (.iload_n 1, 1) := by decide +kernel
theorem dX9_readItems_68 : decode cX9_readItems 68 = .ok (.ireturn, 1) := by decide +kernel
theorem dX9_stairs_0 : decode cX9_stairs 0 = .ok (.aload_n 0, 1) := by decide +kernel
theorem dX9_stairs_1 : decode cX9_stairs 1 = .ok (.invokevirtual 112, 3) := by decide +kernel
theorem dX9_stairs_4 : decode cX9_stairs 4 = .ok (.istore_n 1, 1) := by decide +kernel
theorem dX9_stairs_5 : decode cX9_stairs 5 = .ok (.iload_n 1, 1) := by decide +kernel
theorem dX9_stairs_6 : decode cX9_stairs 6 = .ok (.bipush (-9), 2) := by decide +kernel
theorem dX9_stairs_8 : decode cX9_stairs 8 = .ok (.if_icmp .ne 11, 3) := by decide +kernel
theorem dX9_stairs_11 : decode cX9_stairs 11 = .ok (.bipush (-10), 2) := by decide +kernel
theorem dX9_stairs_13 : decode cX9_stairs 13 = .ok (.aload_n 0, 1) := by decide +kernel
theorem dX9_stairs_14 : decode cX9_stairs 14 = .ok (.getfield 79, 3) := by decide +kernel
theorem dX9_stairs_17 : decode cX9_stairs 17 = .ok (.isub, 1) := by decide +kernel
theorem dX9_stairs_18 : decode cX9_stairs 18 = .ok (.ireturn, 1) := by decide +kernel
theorem dX9_stairs_19 : decode cX9_stairs 19 = .ok (.aload_n 0, 1) := by decide +kernel
theorem dX9_stairs_20 : decode cX9_stairs 20 = .ok (.iconst 0, 1) := by decide +kernel
theorem dX9_stairs_21 : decode cX9_stairs 21 = .ok (.putfield 73, 3) := by decide +kernel
theorem dX9_stairs_24 : decode cX9_stairs 24 = .ok (.aload_n 0, 1) := by decide +kernel
theorem dX9_stairs_25 : decode cX9_stairs 25 = .ok (.aload_n 0, 1) := by decide +kernel
theorem dX9_stairs_26 : decode cX9_stairs 26 = .ok (.getfield 92, 3) := by decide +kernel
theorem dX9_stairs_29 : decode cX9_stairs 29 = .ok (.putfield 66, 3) := by decide +kernel
theorem dX9_stairs_32 : decode cX9_stairs 32 = .ok (.aload_n 0, 1) := by decide +kernel
theorem dX9_stairs_33 : decode cX9_stairs 33 = .ok (.aload_n 0, 1) := by decide +kernel
theorem dX9_stairs_34 : decode cX9_stairs 34 = .ok (.getfield 54, 3) := by decide +kernel
theorem dX9_stairs_37 : decode cX9_stairs 37 = .ok (.iconst 0, 1) := by decide +kernel
theorem dX9_stairs_38 : decode cX9_stairs 38 = .ok (.iaload, 1) := by decide +kernel
theorem dX9_stairs_39 : decode cX9_stairs 39 = .ok (.ifCond .ge 7, 3) := by decide +kernel
theorem dX9_stairs_42 : decode cX9_stairs 42 = .ok (.iconst 4, 1) := by decide +kernel
theorem dX9_stairs_43 : decode cX9_stairs 43 = .ok (.goto 9, 3) := by decide +kernel
theorem dX9_stairs_46 : decode cX9_stairs 46 = .ok (.aload_n 0, 1) := by decide +kernel
theorem dX9_stairs_47 : decode cX9_stairs 47 = .ok (.getfield 54, 3) := by decide +kernel
theorem dX9_stairs_50 : decode cX9_stairs 50 = .ok (.iconst 0, 1) := by decide +kernel
theorem dX9_stairs_51 : decode cX9_stairs 51 = .ok (.iaload, 1) := by decide +kernel
theorem dX9_stairs_52 : decode cX9_stairs 52 = .ok (.putfield 13, 3) := by decide +kernel
theorem dX9_stairs_55 : decode cX9_stairs 55 = .ok (.aload_n 0, 1) := by decide +kernel
theorem dX9_stairs_56 : decode cX9_stairs 56 = .ok (.aload_n 0, 1) := by decide +kernel
theorem dX9_stairs_57 : decode cX9_stairs 57 = .ok (.getfield 54, 3) := by decide +kernel
theorem dX9_stairs_60 : decode cX9_stairs 60 = .ok (.iconst 1, 1) := by decide +kernel
theorem dX9_stairs_61 : decode cX9_stairs 61 = .ok (.iaload, 1) := by decide +kernel
theorem dX9_stairs_62 : decode cX9_stairs 62 = .ok (.ifCond .ge 7, 3) := by decide +kernel
theorem dX9_stairs_65 : decode cX9_stairs 65 = .ok (.iconst 3, 1) := by decide +kernel
theorem dX9_stairs_66 : decode cX9_stairs 66 = .ok (.goto 9, 3) := by decide +kernel
theorem dX9_stairs_69 : decode cX9_stairs 69 = .ok (.aload_n 0, 1) := by decide +kernel
theorem dX9_stairs_70 : decode cX9_stairs 70 = .ok (.getfield 54, 3) := by decide +kernel
theorem dX9_stairs_73 : decode cX9_stairs 73 = .ok (.iconst 1, 1) := by decide +kernel
theorem dX9_stairs_74 : decode cX9_stairs 74 = .ok (.iaload, 1) := by decide +kernel
theorem dX9_stairs_75 : decode cX9_stairs 75 = .ok (.putfield 17, 3) := by decide +kernel
theorem dX9_stairs_78 : decode cX9_stairs 78 = .ok (.aload_n 0, 1) := by decide +kernel
theorem dX9_stairs_79 : decode cX9_stairs 79 = .ok (.aload_n 0, 1) := by decide +kernel
theorem dX9_stairs_80 : decode cX9_stairs 80 = .ok (.getfield 54, 3) := by decide +kernel
theorem dX9_stairs_83 : decode cX9_stairs 83 = .ok (.iconst 2, 1) := by decide +kernel
theorem dX9_stairs_84 : decode cX9_stairs 84 = .ok (.iaload, 1) := by decide +kernel
theorem dX9_stairs_85 : decode cX9_stairs 85 = .ok (.ifCond .ge 7, 3) := by decide +kernel
theorem dX9_stairs_88 : decode cX9_stairs 88 = .ok (.iconst 1, 1) := by decide +kernel
theorem dX9_stairs_89 : decode cX9_stairs 89 = .ok (.goto 9, 3) := by decide +kernel
theorem dX9_stairs_92 : decode cX9_stairs 92 = .ok (.aload_n 0, 1) := by decide +kernel
theorem dX9_stairs_93 : decode cX9_stairs 93 = .ok (.getfield 54, 3) := by decide +kernel
theorem dX9_stairs_96 : decode cX9_stairs 96 = .ok (.iconst 2, 1) := by decide +kernel
theorem dX9_stairs_97 : decode cX9_stairs 97 = .ok (.iaload, 1) := by decide +kernel
theorem dX9_stairs_98 : decode cX9_stairs 98 = .ok (.putfield 20, 3) := by decide +kernel
theorem dX9_stairs_101 : decode cX9_stairs 101 = .ok (.iconst 0, 1) := by decide +kernel
theorem dX9_stairs_102 : decode cX9_stairs 102 = .ok (.istore_n 2, 1) := by decide +kernel
theorem dX9_stairs_103 : decode cX9_stairs 103 = .ok (.iload_n 2, 1) := by decide +kernel
theorem dX9_stairs_104 : decode cX9_stairs 104 = .ok (.bipush 12, 2) := by decide +kernel
theorem dX9_stairs_106 : decode cX9_stairs 106 = .ok (.if_icmp .ge 16, 3) := by decide +kernel
theorem dX9_stairs_109 : decode cX9_stairs 109 = .ok (.aload_n 0, 1) := by decide +kernel
theorem dX9_stairs_110 : decode cX9_stairs 110 = .ok (.getfield 7, 3) := by decide +kernel
theorem dX9_stairs_113 : decode cX9_stairs 113 = .ok (.iload_n 2, 1) := by decide +kernel
theorem dX9_stairs_114 : decode cX9_stairs 114 = .ok (.iconst 0, 1) := by decide +kernel
theorem dX9_stairs_115 : decode cX9_stairs 115 = .ok (.iastore, 1) := by decide +kernel
theorem dX9_stairs_116 : decode cX9_stairs 116 = .ok (.iinc 2 1, 3) := by decide +kernel
theorem dX9_stairs_119 : decode cX9_stairs 119 = .ok (.goto (-16), 3) := by decide +kernel
theorem dX9_stairs_122 : decode cX9_stairs 122 = .ok (.iconst 0, 1) := by decide +kernel
theorem dX9_stairs_123 : decode cX9_stairs 123 = .ok (.istore_n 2, 1) := by decide +kernel
theorem dX9_stairs_124 : decode cX9_stairs 124 = .ok (.iload_n 2, 1) := by decide +kernel
theorem dX9_stairs_125 : decode cX9_stairs 125 = .ok (.aload_n 0, 1) := by decide +kernel
theorem dX9_stairs_126 : decode cX9_stairs 126 = .ok (.getfield 66, 3) := by decide +kernel
theorem dX9_stairs_129 : decode cX9_stairs 129 = .ok (.if_icmp .ge 47, 3) := by decide +kernel
theorem dX9_stairs_132 : decode cX9_stairs 132 = .ok (.aload_n 0, 1) := by decide +kernel
theorem dX9_stairs_133 : decode cX9_stairs 133 = .ok (.getfield 23, 3) := by decide +kernel
theorem dX9_stairs_136 : decode cX9_stairs 136 = .ok (.iload_n 2, 1) := by decide +kernel
theorem dX9_stairs_137 : decode cX9_stairs 137 = .ok (.aload_n 0, 1) := by decide +kernel
theorem dX9_stairs_138 : decode cX9_stairs 138 = .ok (.getfield 45, 3) := by decide +kernel
theorem dX9_stairs_141 : decode cX9_stairs 141 = .ok (.iload_n 2, 1) := by decide +kernel
theorem dX9_stairs_142 : decode cX9_stairs 142 = .ok (.iaload, 1) := by decide +kernel
theorem dX9_stairs_143 : decode cX9_stairs 143 = .ok (.iastore, 1) := by decide +kernel
theorem dX9_stairs_144 : decode cX9_stairs 144 = .ok (.aload_n 0, 1) := by decide +kernel
theorem dX9_stairs_145 : decode cX9_stairs 145 = .ok (.getfield 26, 3) := by decide +kernel
theorem dX9_stairs_148 : decode cX9_stairs 148 = .ok (.iload_n 2, 1) := by decide +kernel
theorem dX9_stairs_149 : decode cX9_stairs 149 = .ok (.aload_n 0, 1) := by decide +kernel
theorem dX9_stairs_150 : decode cX9_stairs 150 = .ok (.getfield 48, 3) := by decide +kernel
theorem dX9_stairs_153 : decode cX9_stairs 153 = .ok (.iload_n 2, 1) := by decide +kernel
theorem dX9_stairs_154 : decode cX9_stairs 154 = .ok (.iaload, 1) := by decide +kernel
theorem dX9_stairs_155 : decode cX9_stairs 155 = .ok (.iastore, 1) := by decide +kernel
theorem dX9_stairs_156 : decode cX9_stairs 156 = .ok (.aload_n 0, 1) := by decide +kernel
theorem dX9_stairs_157 : decode cX9_stairs 157 = .ok (.getfield 7, 3) := by decide +kernel
theorem dX9_stairs_160 : decode cX9_stairs 160 = .ok (.iconst 3, 1) := by decide +kernel
theorem dX9_stairs_161 : decode cX9_stairs 161 = .ok (.iload_n 2, 1) := by decide +kernel
theorem dX9_stairs_162 : decode cX9_stairs 162 = .ok (.iadd, 1) := by decide +kernel
theorem dX9_stairs_163 : decode cX9_stairs 163 = .ok (.aload_n 0, 1) := by decide +kernel
theorem dX9_stairs_164 : decode cX9_stairs 164 = .ok (.getfield 51, 3) := by decide +kernel
theorem dX9_stairs_167 : decode cX9_stairs 167 = .ok (.iload_n 2, 1) := by decide +kernel
theorem dX9_stairs_168 : decode cX9_stairs 168 = .ok (.iaload, 1) := by decide +kernel
theorem dX9_stairs_169 : decode cX9_stairs 169 = .ok (.iastore, 1) := by decide +kernel
theorem dX9_stairs_170 : decode cX9_stairs 170 = .ok (.iinc 2 1, 3) := by decide +kernel
theorem dX9_stairs_173 : decode cX9_stairs 173 = .ok (.goto (-49), 3) := by decide +kernel
theorem dX9_stairs_176 : decode cX9_stairs 176 = .ok (.aload_n 0, 1) := by decide +kernel
theorem dX9_stairs_177 : decode cX9_stairs 177 = .ok (.iconst 0, 1) := by decide +kernel
theorem dX9_stairs_178 : decode cX9_stairs 178 = .ok (.putfield 116, 3) := by decide +kernel
theorem dX9_stairs_181 : decode cX9_stairs 181 = .ok (.aload_n 0, 1) := by decide +kernel
theorem dX9_stairs_182 : decode cX9_stairs 182 = .ok (.iconst 0, 1) := by decide +kernel
theorem dX9_stairs_183 : decode cX9_stairs 183 = .ok (.putfield 119, 3) := by decide +kernel
theorem dX9_stairs_186 : decode cX9_stairs 186 = .ok (.aload_n 0, 1) := by decide +kernel
theorem dX9_stairs_187 : decode cX9_stairs 187 = .ok (.getfield 29, 3) := by decide +kernel
theorem dX9_stairs_190 : decode cX9_stairs 190 = .ok (.iconst 0, 1) := by decide +kernel
theorem dX9_stairs_191 : decode cX9_stairs 191 = .ok (.iconst 0, 1) := by decide +kernel
theorem dX9_stairs_192 : decode cX9_stairs 192 = .ok (.bastore, 1) := by decide +kernel
theorem dX9_stairs_193 : decode cX9_stairs 193 = .ok (.aload_n 0, 1) := by decide +kernel
theorem dX9_stairs_194 : decode cX9_stairs 194 = .ok (.getfield 29, 3) := by decide +kernel
theorem dX9_stairs_197 : decode cX9_stairs 197 = .ok (.iconst 1, 1) := by decide +kernel
theorem dX9_stairs_198 : decode cX9_stairs 198 = .ok (.iconst 0, 1) := by decide +kernel
theorem dX9_stairs_199 : decode cX9_stairs 199 = .ok (.bastore, 1) := by decide +kernel
theorem dX9_stairs_200 : decode cX9_stairs 200 = .ok (.iload_n 1, 1) := by decide +kernel
theorem dX9_stairs_201 : decode cX9_stairs 201 = .ok (.ireturn, 1) := by decide +kernel
theorem dX9_step_0 : decode cX9_step 0 = .ok (.aload_n 0, 1) := by decide +kernel
theorem dX9_step_1 : decode cX9_step 1 = .ok (.iload_n 1, 1) := by decide +kernel
theorem dX9_step_2 : decode cX9_step 2 = .ok (.invokevirtual 122, 3) := by decide +kernel
theorem dX9_step_5 : decode cX9_step 5 = .ok (.ifCond .eq 12, 3) := by decide +kernel
theorem dX9_step_8 : decode cX9_step 8 = .ok (.iload_n 2, 1) := by decide +kernel
theorem dX9_step_9 : decode cX9_step 9 = .ok (.iconst 0, 1) := by decide +kernel
theorem dX9_step_10 : decode cX9_step 10 = .ok (.iconst 2, 1) := by decide +kernel
theorem dX9_step_11 : decode cX9_step 11 = .ok (.invokestatic 69, 3) := by decide +kernel
theorem dX9_step_14 : decode cX9_step 14 = .ok (.ifCond .ne 7, 3) := by decide +kernel
theorem dX9_step_17 : decode cX9_step 17 = .ok (.iconst (-1), 1) := by decide +kernel
theorem dX9_step_18 : decode cX9_step 18 = .ok (.goto 38, 3) := by decide +kernel
theorem dX9_step_21 : decode cX9_step 21 = .ok (.iload_n 2, 1) := by decide +kernel
theorem dX9_step_22 : decode cX9_step 22 = .ok (.ifCond .ne 12, 3) := by decide +kernel
theorem dX9_step_25 : decode cX9_step 25 = .ok (.aload_n 0, 1) := by decide +kernel
theorem dX9_step_26 : decode cX9_step 26 = .ok (.getfield 23, 3) := by decide +kernel
theorem dX9_step_29 : decode cX9_step 29 = .ok (.iload_n 1, 1) := by decide +kernel
theorem dX9_step_30 : decode cX9_step 30 = .ok (.iaload, 1) := by decide +kernel
theorem dX9_step_31 : decode cX9_step 31 = .ok (.goto 25, 3) := by decide +kernel
theorem dX9_step_34 : decode cX9_step 34 = .ok (.iload_n 2, 1) := by decide +kernel
theorem dX9_step_35 : decode cX9_step 35 = .ok (.iconst 1, 1) := by decide +kernel
theorem dX9_step_36 : decode cX9_step 36 = .ok (.if_icmp .ne 12, 3) := by decide +kernel
theorem dX9_step_39 : decode cX9_step 39 = .ok (.aload_n 0, 1) := by decide +kernel
theorem dX9_step_40 : decode cX9_step 40 = .ok (.getfield 26, 3) := by decide +kernel
theorem dX9_step_43 : decode cX9_step 43 = .ok (.iload_n 1, 1) := by decide +kernel
theorem dX9_step_44 : decode cX9_step 44 = .ok (.iaload, 1) := by decide +kernel
theorem dX9_step_45 : decode cX9_step 45 = .ok (.goto 11, 3) := by decide +kernel
theorem dX9_step_48 : decode cX9_step 48 = .ok (.aload_n 0, 1) := by decide +kernel
theorem dX9_step_49 : decode cX9_step 49 = .ok (.getfield 7, 3) := by decide +kernel
theorem dX9_step_52 : decode cX9_step 52 = .ok (.iconst 3, 1) := by decide +kernel
theorem dX9_step_53 : decode cX9_step 53 = .ok (.iload_n 1, 1) := by decide +kernel
theorem dX9_step_54 : decode cX9_step 54 = .ok (.iadd, 1) := by decide +kernel
theorem dX9_step_55 : decode cX9_step 55 = .ok (.iaload, 1) := by decide +kernel
theorem dX9_step_56 : decode cX9_step 56 = .ok (.ireturn, 1) := by decide +kernel
theorem dX9_asItIs_0 : decode cX9_asItIs 0 = .ok (.aload_n 0, 1) := by decide +kernel
theorem dX9_asItIs_1 : decode cX9_asItIs 1 = .ok (.aload_n 0, 1) := by decide +kernel
theorem dX9_asItIs_2 : decode cX9_asItIs 2 = .ok (.getfield 17, 3) := by decide +kernel
theorem dX9_asItIs_5 : decode cX9_asItIs 5 = .ok (.putfield 125, 3) := by decide +kernel
theorem dX9_asItIs_8 : decode cX9_asItIs 8 = .ok (.aload_n 0, 1) := by decide +kernel
theorem dX9_asItIs_9 : decode cX9_asItIs 9 = .ok (.aload_n 0, 1) := by decide +kernel
theorem dX9_asItIs_10 : decode cX9_asItIs 10 = .ok (.getfield 20, 3) := by decide +kernel
theorem dX9_asItIs_13 : decode cX9_asItIs 13 = .ok (.putfield 128, 3) := by decide +kernel
theorem dX9_asItIs_16 : decode cX9_asItIs 16 = .ok (.aload_n 0, 1) := by decide +kernel
theorem dX9_asItIs_17 : decode cX9_asItIs 17 = .ok (.iconst 0, 1) := by decide +kernel
theorem dX9_asItIs_18 : decode cX9_asItIs 18 = .ok (.putfield 131, 3) := by decide +kernel
theorem dX9_asItIs_21 : decode cX9_asItIs 21 = .ok (.return_, 1) := by decide +kernel
theorem dX9_bound_0 : decode cX9_bound 0 = .ok (.iload_n 0, 1) := by decide +kernel
theorem dX9_bound_1 : decode cX9_bound 1 = .ok (.ifCond .ge 7, 3) := by decide +kernel
theorem dX9_bound_4 : decode cX9_bound 4 = .ok (.iconst 0, 1) := by decide +kernel
theorem dX9_bound_5 : decode cX9_bound 5 = .ok (.goto 15, 3) := by decide +kernel
theorem dX9_bound_8 : decode cX9_bound 8 = .ok (.iload_n 0, 1) := by decide +kernel
theorem dX9_bound_9 : decode cX9_bound 9 = .ok (.bipush 99, 2) := by decide +kernel
theorem dX9_bound_11 : decode cX9_bound 11 = .ok (.if_icmp .le 8, 3) := by decide +kernel
theorem dX9_bound_14 : decode cX9_bound 14 = .ok (.bipush 99, 2) := by decide +kernel
theorem dX9_bound_16 : decode cX9_bound 16 = .ok (.goto 4, 3) := by decide +kernel
theorem dX9_bound_19 : decode cX9_bound 19 = .ok (.iload_n 0, 1) := by decide +kernel
theorem dX9_bound_20 : decode cX9_bound 20 = .ok (.ireturn, 1) := by decide +kernel
theorem dX9_lands_0 : decode cX9_lands 0 = .ok (.iconst 1, 1) := by decide +kernel
theorem dX9_lands_1 : decode cX9_lands 1 = .ok (.istore_n 2, 1) := by decide +kernel
theorem dX9_lands_2 : decode cX9_lands 2 = .ok (.iload_n 2, 1) := by decide +kernel
theorem dX9_lands_3 : decode cX9_lands 3 = .ok (.ifCond .eq 160, 3) := by decide +kernel
theorem dX9_lands_6 : decode cX9_lands 6 = .ok (.aload_n 0, 1) := by decide +kernel
theorem dX9_lands_7 : decode cX9_lands 7 = .ok (.getfield 7, 3) := by decide +kernel
theorem dX9_lands_10 : decode cX9_lands 10 = .ok (.iload_n 1, 1) := by decide +kernel
theorem dX9_lands_11 : decode cX9_lands 11 = .ok (.iconst 0, 1) := by decide +kernel
theorem dX9_lands_12 : decode cX9_lands 12 = .ok (.iadd, 1) := by decide +kernel
theorem dX9_lands_13 : decode cX9_lands 13 = .ok (.iaload, 1) := by decide +kernel
theorem dX9_lands_14 : decode cX9_lands 14 = .ok (.istore_n 3, 1) := by decide +kernel
theorem dX9_lands_15 : decode cX9_lands 15 = .ok (.iconst 0, 1) := by decide +kernel
theorem dX9_lands_16 : decode cX9_lands 16 = .ok (.istore_n 2, 1) := by decide +kernel
theorem dX9_lands_17 : decode cX9_lands 17 = .ok (.iload_n 3, 1) := by decide +kernel
theorem dX9_lands_18 : decode cX9_lands 18 = .ok (.aload_n 0, 1) := by decide +kernel
theorem dX9_lands_19 : decode cX9_lands 19 = .ok (.getfield 66, 3) := by decide +kernel
theorem dX9_lands_22 : decode cX9_lands 22 = .ok (.if_icmp .ne 15, 3) := by decide +kernel
theorem dX9_lands_25 : decode cX9_lands 25 = .ok (.aload_n 0, 1) := by decide +kernel
theorem dX9_lands_26 : decode cX9_lands 26 = .ok (.getfield 7, 3) := by decide +kernel
theorem dX9_lands_29 : decode cX9_lands 29 = .ok (.iload_n 1, 1) := by decide +kernel
theorem dX9_lands_30 : decode cX9_lands 30 = .ok (.iconst 1, 1) := by decide +kernel
theorem dX9_lands_31 : decode cX9_lands 31 = .ok (.iadd, 1) := by decide +kernel
theorem dX9_lands_32 : decode cX9_lands 32 = .ok (.iconst 0, 1) := by decide +kernel
theorem dX9_lands_33 : decode cX9_lands 33 = .ok (.iastore, 1) := by decide +kernel
theorem dX9_lands_34 : decode cX9_lands 34 = .ok (.goto 126, 3) := by decide +kernel
theorem dX9_lands_37 : decode cX9_lands 37 = .ok (.aload_n 0, 1) := by decide +kernel
theorem dX9_lands_38 : decode cX9_lands 38 = .ok (.getfield 7, 3) := by decide +kernel
theorem dX9_lands_41 : decode cX9_lands 41 = .ok (.iload_n 1, 1) := by decide +kernel
theorem dX9_lands_42 : decode cX9_lands 42 = .ok (.iconst 1, 1) := by decide +kernel
theorem dX9_lands_43 : decode cX9_lands 43 = .ok (.iadd, 1) := by decide +kernel
theorem dX9_lands_44 : decode cX9_lands 44 = .ok (.iaload, 1) := by decide +kernel
theorem dX9_lands_45 : decode cX9_lands 45 = .ok (.aload_n 0, 1) := by decide +kernel
theorem dX9_lands_46 : decode cX9_lands 46 = .ok (.getfield 7, 3) := by decide +kernel
theorem dX9_lands_49 : decode cX9_lands 49 = .ok (.iload_n 1, 1) := by decide +kernel
theorem dX9_lands_50 : decode cX9_lands 50 = .ok (.iconst 3, 1) := by decide +kernel
theorem dX9_lands_51 : decode cX9_lands 51 = .ok (.iadd, 1) := by decide +kernel
theorem dX9_lands_52 : decode cX9_lands 52 = .ok (.iload_n 3, 1) := by decide +kernel
theorem dX9_lands_53 : decode cX9_lands 53 = .ok (.iadd, 1) := by decide +kernel
theorem dX9_lands_54 : decode cX9_lands 54 = .ok (.iaload, 1) := by decide +kernel
theorem dX9_lands_55 : decode cX9_lands 55 = .ok (.isub, 1) := by decide +kernel
theorem dX9_lands_56 : decode cX9_lands 56 = .ok (.invokestatic 134, 3) := by decide +kernel
theorem dX9_lands_59 : decode cX9_lands 59 = .ok (.istore 4, 2) := by decide +kernel
theorem dX9_lands_61 : decode cX9_lands 61 = .ok (.iload 4, 2) := by decide +kernel
theorem dX9_lands_63 : decode cX9_lands 63 = .ok (.aload_n 0, 1) := by decide +kernel
theorem dX9_lands_64 : decode cX9_lands 64 = .ok (.getfield 13, 3) := by decide +kernel
theorem dX9_lands_67 : decode cX9_lands 67 = .ok (.aload_n 0, 1) := by decide +kernel
theorem dX9_lands_68 : decode cX9_lands 68 = .ok (.getfield 26, 3) := by decide +kernel
theorem dX9_lands_71 : decode cX9_lands 71 = .ok (.iload_n 3, 1) := by decide +kernel
theorem dX9_lands_72 : decode cX9_lands 72 = .ok (.iaload, 1) := by decide +kernel
theorem dX9_lands_73 : decode cX9_lands 73 = .ok (.iadd, 1) := by decide +kernel
theorem dX9_lands_74 : decode cX9_lands 74 = .ok (.if_icmp .le 7, 3) := by decide +kernel
theorem dX9_lands_77 : decode cX9_lands 77 = .ok (.iconst 1, 1) := by decide +kernel
theorem dX9_lands_78 : decode cX9_lands 78 = .ok (.goto 4, 3) := by decide +kernel
theorem dX9_lands_81 : decode cX9_lands 81 = .ok (.iconst 0, 1) := by decide +kernel
theorem dX9_lands_82 : decode cX9_lands 82 = .ok (.istore_n 2, 1) := by decide +kernel
theorem dX9_lands_83 : decode cX9_lands 83 = .ok (.aload_n 0, 1) := by decide +kernel
theorem dX9_lands_84 : decode cX9_lands 84 = .ok (.getfield 7, 3) := by decide +kernel
theorem dX9_lands_87 : decode cX9_lands 87 = .ok (.iload_n 1, 1) := by decide +kernel
theorem dX9_lands_88 : decode cX9_lands 88 = .ok (.iconst 1, 1) := by decide +kernel
theorem dX9_lands_89 : decode cX9_lands 89 = .ok (.iadd, 1) := by decide +kernel
theorem dX9_lands_90 : decode cX9_lands 90 = .ok (.iload_n 2, 1) := by decide +kernel
theorem dX9_lands_91 : decode cX9_lands 91 = .ok (.ifCond .eq 27, 3) := by decide +kernel
theorem dX9_lands_94 : decode cX9_lands 94 = .ok (.iload 4, 2) := by decide +kernel
theorem dX9_lands_96 : decode cX9_lands 96 = .ok (.aload_n 0, 1) := by decide +kernel
theorem dX9_lands_97 : decode cX9_lands 97 = .ok (.getfield 23, 3) := by decide +kernel
theorem dX9_lands_100 : decode cX9_lands 100 = .ok (.iload_n 3, 1) := by decide +kernel
theorem dX9_lands_101 : decode cX9_lands 101 = .ok (.iaload, 1) := by decide +kernel
theorem dX9_lands_102 : decode cX9_lands 102 = .ok (.iadd, 1) := by decide +kernel
theorem dX9_lands_103 : decode cX9_lands 103 = .ok (.iconst 2, 1) := by decide +kernel
theorem dX9_lands_104 : decode cX9_lands 104 = .ok (.aload_n 0, 1) := by decide +kernel
theorem dX9_lands_105 : decode cX9_lands 105 = .ok (.getfield 128, 3) := by decide +kernel
theorem dX9_lands_108 : decode cX9_lands 108 = .ok (.imul, 1) := by decide +kernel
theorem dX9_lands_109 : decode cX9_lands 109 = .ok (.isub, 1) := by decide +kernel
theorem dX9_lands_110 : decode cX9_lands 110 = .ok (.iconst 1, 1) := by decide +kernel
theorem dX9_lands_111 : decode cX9_lands 111 = .ok (.isub, 1) := by decide +kernel
theorem dX9_lands_112 : decode cX9_lands 112 = .ok (.invokestatic 134, 3) := by decide +kernel
theorem dX9_lands_115 : decode cX9_lands 115 = .ok (.goto 5, 3) := by decide +kernel
theorem dX9_lands_118 : decode cX9_lands 118 = .ok (.iload 4, 2) := by decide +kernel
theorem dX9_lands_120 : decode cX9_lands 120 = .ok (.iastore, 1) := by decide +kernel
theorem dX9_lands_121 : decode cX9_lands 121 = .ok (.aload_n 0, 1) := by decide +kernel
theorem dX9_lands_122 : decode cX9_lands 122 = .ok (.getfield 7, 3) := by decide +kernel
theorem dX9_lands_125 : decode cX9_lands 125 = .ok (.iload_n 1, 1) := by decide +kernel
theorem dX9_lands_126 : decode cX9_lands 126 = .ok (.iconst 0, 1) := by decide +kernel
theorem dX9_lands_127 : decode cX9_lands 127 = .ok (.iadd, 1) := by decide +kernel
theorem dX9_lands_128 : decode cX9_lands 128 = .ok (.iload_n 2, 1) := by decide +kernel
theorem dX9_lands_129 : decode cX9_lands 129 = .ok (.ifCond .eq 9, 3) := by decide +kernel
theorem dX9_lands_132 : decode cX9_lands 132 = .ok (.iload_n 3, 1) := by decide +kernel
theorem dX9_lands_133 : decode cX9_lands 133 = .ok (.iconst 1, 1) := by decide +kernel
theorem dX9_lands_134 : decode cX9_lands 134 = .ok (.iadd, 1) := by decide +kernel
theorem dX9_lands_135 : decode cX9_lands 135 = .ok (.goto 4, 3) := by decide +kernel
theorem dX9_lands_138 : decode cX9_lands 138 = .ok (.iload_n 3, 1) := by decide +kernel
theorem dX9_lands_139 : decode cX9_lands 139 = .ok (.iastore, 1) := by decide +kernel
theorem dX9_lands_140 : decode cX9_lands 140 = .ok (.aload_n 0, 1) := by decide +kernel
theorem dX9_lands_141 : decode cX9_lands 141 = .ok (.dup, 1) := by decide +kernel
theorem dX9_lands_142 : decode cX9_lands 142 = .ok (.getfield 131, 3) := by decide +kernel
theorem dX9_lands_145 : decode cX9_lands 145 = .ok (.iload_n 2, 1) := by decide +kernel
theorem dX9_lands_146 : decode cX9_lands 146 = .ok (.ifCond .eq 9, 3) := by decide +kernel
theorem dX9_lands_149 : decode cX9_lands 149 = .ok (.iconst 1, 1) := by decide +kernel
theorem dX9_lands_150 : decode cX9_lands 150 = .ok (.iload_n 3, 1) := by decide +kernel
theorem dX9_lands_151 : decode cX9_lands 151 = .ok (.ishl, 1) := by decide +kernel
theorem dX9_lands_152 : decode cX9_lands 152 = .ok (.goto 4, 3) := by decide +kernel
theorem dX9_lands_155 : decode cX9_lands 155 = .ok (.iconst 0, 1) := by decide +kernel
theorem dX9_lands_156 : decode cX9_lands 156 = .ok (.ior, 1) := by decide +kernel
theorem dX9_lands_157 : decode cX9_lands 157 = .ok (.putfield 131, 3) := by decide +kernel
theorem dX9_lands_160 : decode cX9_lands 160 = .ok (.goto (-158), 3) := by decide +kernel
theorem dX9_lands_163 : decode cX9_lands 163 = .ok (.return_, 1) := by decide +kernel
theorem dX9_flip_0 : decode cX9_flip 0 = .ok (.aload_n 0, 1) := by decide +kernel
theorem dX9_flip_1 : decode cX9_flip 1 = .ok (.getfield 7, 3) := by decide +kernel
theorem dX9_flip_4 : decode cX9_flip 4 = .ok (.iload_n 1, 1) := by decide +kernel
theorem dX9_flip_5 : decode cX9_flip 5 = .ok (.iconst 1, 1) := by decide +kernel
theorem dX9_flip_6 : decode cX9_flip 6 = .ok (.iadd, 1) := by decide +kernel
theorem dX9_flip_7 : decode cX9_flip 7 = .ok (.iaload, 1) := by decide +kernel
theorem dX9_flip_8 : decode cX9_flip 8 = .ok (.istore_n 2, 1) := by decide +kernel
theorem dX9_flip_9 : decode cX9_flip 9 = .ok (.iload_n 2, 1) := by decide +kernel
theorem dX9_flip_10 : decode cX9_flip 10 = .ok (.aload_n 0, 1) := by decide +kernel
theorem dX9_flip_11 : decode cX9_flip 11 = .ok (.getfield 125, 3) := by decide +kernel
theorem dX9_flip_14 : decode cX9_flip 14 = .ok (.if_icmp .ge 15, 3) := by decide +kernel
theorem dX9_flip_17 : decode cX9_flip 17 = .ok (.aload_n 0, 1) := by decide +kernel
theorem dX9_flip_18 : decode cX9_flip 18 = .ok (.getfield 7, 3) := by decide +kernel
theorem dX9_flip_21 : decode cX9_flip 21 = .ok (.iload_n 1, 1) := by decide +kernel
theorem dX9_flip_22 : decode cX9_flip 22 = .ok (.iconst 1, 1) := by decide +kernel
theorem dX9_flip_23 : decode cX9_flip 23 = .ok (.iadd, 1) := by decide +kernel
theorem dX9_flip_24 : decode cX9_flip 24 = .ok (.iconst 0, 1) := by decide +kernel
theorem dX9_flip_25 : decode cX9_flip 25 = .ok (.iastore, 1) := by decide +kernel
theorem dX9_flip_26 : decode cX9_flip 26 = .ok (.goto 56, 3) := by decide +kernel
theorem dX9_flip_29 : decode cX9_flip 29 = .ok (.aload_n 0, 1) := by decide +kernel
theorem dX9_flip_30 : decode cX9_flip 30 = .ok (.getfield 7, 3) := by decide +kernel
theorem dX9_flip_33 : decode cX9_flip 33 = .ok (.iload_n 1, 1) := by decide +kernel
theorem dX9_flip_34 : decode cX9_flip 34 = .ok (.iconst 1, 1) := by decide +kernel
theorem dX9_flip_35 : decode cX9_flip 35 = .ok (.iadd, 1) := by decide +kernel
theorem dX9_flip_36 : decode cX9_flip 36 = .ok (.iload_n 2, 1) := by decide +kernel
theorem dX9_flip_37 : decode cX9_flip 37 = .ok (.aload_n 0, 1) := by decide +kernel
theorem dX9_flip_38 : decode cX9_flip 38 = .ok (.getfield 125, 3) := by decide +kernel
theorem dX9_flip_41 : decode cX9_flip 41 = .ok (.isub, 1) := by decide +kernel
theorem dX9_flip_42 : decode cX9_flip 42 = .ok (.aload_n 0, 1) := by decide +kernel
theorem dX9_flip_43 : decode cX9_flip 43 = .ok (.getfield 23, 3) := by decide +kernel
theorem dX9_flip_46 : decode cX9_flip 46 = .ok (.aload_n 0, 1) := by decide +kernel
theorem dX9_flip_47 : decode cX9_flip 47 = .ok (.getfield 7, 3) := by decide +kernel
theorem dX9_flip_50 : decode cX9_flip 50 = .ok (.iload_n 1, 1) := by decide +kernel
theorem dX9_flip_51 : decode cX9_flip 51 = .ok (.iconst 0, 1) := by decide +kernel
theorem dX9_flip_52 : decode cX9_flip 52 = .ok (.iadd, 1) := by decide +kernel
theorem dX9_flip_53 : decode cX9_flip 53 = .ok (.iaload, 1) := by decide +kernel
theorem dX9_flip_54 : decode cX9_flip 54 = .ok (.iaload, 1) := by decide +kernel
theorem dX9_flip_55 : decode cX9_flip 55 = .ok (.iadd, 1) := by decide +kernel
theorem dX9_flip_56 : decode cX9_flip 56 = .ok (.aload_n 0, 1) := by decide +kernel
theorem dX9_flip_57 : decode cX9_flip 57 = .ok (.getfield 128, 3) := by decide +kernel
theorem dX9_flip_60 : decode cX9_flip 60 = .ok (.isub, 1) := by decide +kernel
theorem dX9_flip_61 : decode cX9_flip 61 = .ok (.invokestatic 134, 3) := by decide +kernel
theorem dX9_flip_64 : decode cX9_flip 64 = .ok (.iastore, 1) := by decide +kernel
theorem dX9_flip_65 : decode cX9_flip 65 = .ok (.aload_n 0, 1) := by decide +kernel
theorem dX9_flip_66 : decode cX9_flip 66 = .ok (.getfield 7, 3) := by decide +kernel
theorem dX9_flip_69 : decode cX9_flip 69 = .ok (.iload_n 1, 1) := by decide +kernel
theorem dX9_flip_70 : decode cX9_flip 70 = .ok (.iconst 0, 1) := by decide +kernel
theorem dX9_flip_71 : decode cX9_flip 71 = .ok (.iadd, 1) := by decide +kernel
theorem dX9_flip_72 : decode cX9_flip 72 = .ok (.dup2, 1) := by decide +kernel
theorem dX9_flip_73 : decode cX9_flip 73 = .ok (.iaload, 1) := by decide +kernel
theorem dX9_flip_74 : decode cX9_flip 74 = .ok (.iconst 1, 1) := by decide +kernel
theorem dX9_flip_75 : decode cX9_flip 75 = .ok (.iadd, 1) := by decide +kernel
theorem dX9_flip_76 : decode cX9_flip 76 = .ok (.iastore, 1) := by decide +kernel
theorem dX9_flip_77 : decode cX9_flip 77 = .ok (.aload_n 0, 1) := by decide +kernel
theorem dX9_flip_78 : decode cX9_flip 78 = .ok (.iload_n 1, 1) := by decide +kernel
theorem dX9_flip_79 : decode cX9_flip 79 = .ok (.invokevirtual 138, 3) := by decide +kernel
theorem dX9_flip_82 : decode cX9_flip 82 = .ok (.aload_n 0, 1) := by decide +kernel
theorem dX9_flip_83 : decode cX9_flip 83 = .ok (.getfield 7, 3) := by decide +kernel
theorem dX9_flip_86 : decode cX9_flip 86 = .ok (.iload_n 1, 1) := by decide +kernel
theorem dX9_flip_87 : decode cX9_flip 87 = .ok (.iconst 2, 1) := by decide +kernel
theorem dX9_flip_88 : decode cX9_flip 88 = .ok (.iadd, 1) := by decide +kernel
theorem dX9_flip_89 : decode cX9_flip 89 = .ok (.dup2, 1) := by decide +kernel
theorem dX9_flip_90 : decode cX9_flip 90 = .ok (.iaload, 1) := by decide +kernel
theorem dX9_flip_91 : decode cX9_flip 91 = .ok (.aload_n 0, 1) := by decide +kernel
theorem dX9_flip_92 : decode cX9_flip 92 = .ok (.getfield 7, 3) := by decide +kernel
theorem dX9_flip_95 : decode cX9_flip 95 = .ok (.iload_n 1, 1) := by decide +kernel
theorem dX9_flip_96 : decode cX9_flip 96 = .ok (.iconst 2, 1) := by decide +kernel
theorem dX9_flip_97 : decode cX9_flip 97 = .ok (.iadd, 1) := by decide +kernel
theorem dX9_flip_98 : decode cX9_flip 98 = .ok (.iaload, 1) := by decide +kernel
theorem dX9_flip_99 : decode cX9_flip 99 = .ok (.sipush 999, 3) := by decide +kernel
theorem dX9_flip_102 : decode cX9_flip 102 = .ok (.if_icmp .ge 7, 3) := by decide +kernel
theorem dX9_flip_105 : decode cX9_flip 105 = .ok (.iconst 1, 1) := by decide +kernel
theorem dX9_flip_106 : decode cX9_flip 106 = .ok (.goto 4, 3) := by decide +kernel
theorem dX9_flip_109 : decode cX9_flip 109 = .ok (.iconst 0, 1) := by decide +kernel
theorem dX9_flip_110 : decode cX9_flip 110 = .ok (.iadd, 1) := by decide +kernel
theorem dX9_flip_111 : decode cX9_flip 111 = .ok (.iastore, 1) := by decide +kernel
theorem dX9_flip_112 : decode cX9_flip 112 = .ok (.return_, 1) := by decide +kernel
theorem dX9_runs_0 : decode cX9_runs 0 = .ok (.iconst 0, 1) := by decide +kernel
theorem dX9_runs_1 : decode cX9_runs 1 = .ok (.istore_n 1, 1) := by decide +kernel
theorem dX9_runs_2 : decode cX9_runs 2 = .ok (.aload_n 0, 1) := by decide +kernel
theorem dX9_runs_3 : decode cX9_runs 3 = .ok (.getfield 7, 3) := by decide +kernel
theorem dX9_runs_6 : decode cX9_runs 6 = .ok (.sipush 157, 3) := by decide +kernel
theorem dX9_runs_9 : decode cX9_runs 9 = .ok (.iaload, 1) := by decide +kernel
theorem dX9_runs_10 : decode cX9_runs 10 = .ok (.ifCond .le 16, 3) := by decide +kernel
theorem dX9_runs_13 : decode cX9_runs 13 = .ok (.aload_n 0, 1) := by decide +kernel
theorem dX9_runs_14 : decode cX9_runs 14 = .ok (.sipush 156, 3) := by decide +kernel
theorem dX9_runs_17 : decode cX9_runs 17 = .ok (.invokevirtual 142, 3) := by decide +kernel
theorem dX9_runs_20 : decode cX9_runs 20 = .ok (.iinc 1 1, 3) := by decide +kernel
theorem dX9_runs_23 : decode cX9_runs 23 = .ok (.goto (-21), 3) := by decide +kernel
theorem dX9_runs_26 : decode cX9_runs 26 = .ok (.iload_n 1, 1) := by decide +kernel
theorem dX9_runs_27 : decode cX9_runs 27 = .ok (.ireturn, 1) := by decide +kernel
theorem dX9_layTried_0 : decode cX9_layTried 0 = .ok (.aload_n 0, 1) := by decide +kernel
theorem dX9_layTried_1 : decode cX9_layTried 1 = .ok (.iconst 0, 1) := by decide +kernel
theorem dX9_layTried_2 : decode cX9_layTried 2 = .ok (.sipush 156, 3) := by decide +kernel
theorem dX9_layTried_5 : decode cX9_layTried 5 = .ok (.invokevirtual 145, 3) := by decide +kernel
theorem dX9_layTried_8 : decode cX9_layTried 8 = .ok (.aload_n 0, 1) := by decide +kernel
theorem dX9_layTried_9 : decode cX9_layTried 9 = .ok (.invokevirtual 149, 3) := by decide +kernel
theorem dX9_layTried_12 : decode cX9_layTried 12 = .ok (.return_, 1) := by decide +kernel
theorem dX9_leastFrom_0 : decode cX9_leastFrom 0 = .ok (.ldc 152, 2) := by decide +kernel
theorem dX9_leastFrom_2 : decode cX9_leastFrom 2 = .ok (.istore_n 3, 1) := by decide +kernel
theorem dX9_leastFrom_3 : decode cX9_leastFrom 3 = .ok (.bipush 9, 2) := by decide +kernel
theorem dX9_leastFrom_5 : decode cX9_leastFrom 5 = .ok (.istore 4, 2) := by decide +kernel
theorem dX9_leastFrom_7 : decode cX9_leastFrom 7 = .ok (.iload 4, 2) := by decide +kernel
theorem dX9_leastFrom_9 : decode cX9_leastFrom 9 = .ok (.ifCond .lt 123, 3) := by decide +kernel
theorem dX9_leastFrom_12 : decode cX9_leastFrom 12 = .ok (.iload_n 2, 1) := by decide +kernel
theorem dX9_leastFrom_13 : decode cX9_leastFrom 13 = .ok (.iload 4, 2) := by decide +kernel
theorem dX9_leastFrom_15 : decode cX9_leastFrom 15 = .ok (.iadd, 1) := by decide +kernel
theorem dX9_leastFrom_16 : decode cX9_leastFrom 16 = .ok (.invokestatic 134, 3) := by decide +kernel
theorem dX9_leastFrom_19 : decode cX9_leastFrom 19 = .ok (.istore 5, 2) := by decide +kernel
theorem dX9_leastFrom_21 : decode cX9_leastFrom 21 = .ok (.iload 5, 2) := by decide +kernel
theorem dX9_leastFrom_23 : decode cX9_leastFrom 23 = .ok (.aload_n 0, 1) := by decide +kernel
theorem dX9_leastFrom_24 : decode cX9_leastFrom 24 = .ok (.getfield 17, 3) := by decide +kernel
theorem dX9_leastFrom_27 : decode cX9_leastFrom 27 = .ok (.if_icmp .lt 99, 3) := by decide +kernel
theorem dX9_leastFrom_30 : decode cX9_leastFrom 30 = .ok (.aload_n 0, 1) := by decide +kernel
theorem dX9_leastFrom_31 : decode cX9_leastFrom 31 = .ok (.iconst 0, 1) := by decide +kernel
theorem dX9_leastFrom_32 : decode cX9_leastFrom 32 = .ok (.sipush 156, 3) := by decide +kernel
theorem dX9_leastFrom_35 : decode cX9_leastFrom 35 = .ok (.invokevirtual 145, 3) := by decide +kernel
theorem dX9_leastFrom_38 : decode cX9_leastFrom 38 = .ok (.aload_n 0, 1) := by decide +kernel
theorem dX9_leastFrom_39 : decode cX9_leastFrom 39 = .ok (.getfield 7, 3) := by decide +kernel
theorem dX9_leastFrom_42 : decode cX9_leastFrom 42 = .ok (.sipush 156, 3) := by decide +kernel
theorem dX9_leastFrom_45 : decode cX9_leastFrom 45 = .ok (.iload_n 1, 1) := by decide +kernel
theorem dX9_leastFrom_46 : decode cX9_leastFrom 46 = .ok (.iastore, 1) := by decide +kernel
theorem dX9_leastFrom_47 : decode cX9_leastFrom 47 = .ok (.aload_n 0, 1) := by decide +kernel
theorem dX9_leastFrom_48 : decode cX9_leastFrom 48 = .ok (.getfield 7, 3) := by decide +kernel
theorem dX9_leastFrom_51 : decode cX9_leastFrom 51 = .ok (.sipush 157, 3) := by decide +kernel
theorem dX9_leastFrom_54 : decode cX9_leastFrom 54 = .ok (.iload 5, 2) := by decide +kernel
theorem dX9_leastFrom_56 : decode cX9_leastFrom 56 = .ok (.iastore, 1) := by decide +kernel
theorem dX9_leastFrom_57 : decode cX9_leastFrom 57 = .ok (.aload_n 0, 1) := by decide +kernel
theorem dX9_leastFrom_58 : decode cX9_leastFrom 58 = .ok (.sipush 156, 3) := by decide +kernel
theorem dX9_leastFrom_61 : decode cX9_leastFrom 61 = .ok (.invokevirtual 142, 3) := by decide +kernel
theorem dX9_leastFrom_64 : decode cX9_leastFrom 64 = .ok (.iload 4, 2) := by decide +kernel
theorem dX9_leastFrom_66 : decode cX9_leastFrom 66 = .ok (.aload_n 0, 1) := by decide +kernel
theorem dX9_leastFrom_67 : decode cX9_leastFrom 67 = .ok (.getfield 57, 3) := by decide +kernel
theorem dX9_leastFrom_70 : decode cX9_leastFrom 70 = .ok (.bipush 100, 2) := by decide +kernel
theorem dX9_leastFrom_72 : decode cX9_leastFrom 72 = .ok (.aload_n 0, 1) := by decide +kernel
theorem dX9_leastFrom_73 : decode cX9_leastFrom 73 = .ok (.getfield 7, 3) := by decide +kernel
end
section
theorem dX9_leastFrom_76 : decode cX9_leastFrom 76 = .ok (.sipush 156, 3) := by decide +kernel
theorem dX9_leastFrom_79 : decode cX9_leastFrom 79 = .ok (.iaload, 1) := by decide +kernel
theorem dX9_leastFrom_80 : decode cX9_leastFrom 80 = .ok (.imul, 1) := by decide +kernel
theorem dX9_leastFrom_81 : decode cX9_leastFrom 81 = .ok (.aload_n 0, 1) := by decide +kernel
theorem dX9_leastFrom_82 : decode cX9_leastFrom 82 = .ok (.getfield 7, 3) := by decide +kernel
theorem dX9_leastFrom_85 : decode cX9_leastFrom 85 = .ok (.sipush 157, 3) := by decide +kernel
theorem dX9_leastFrom_88 : decode cX9_leastFrom 88 = .ok (.iaload, 1) := by decide +kernel
theorem dX9_leastFrom_89 : decode cX9_leastFrom 89 = .ok (.iadd, 1) := by decide +kernel
theorem dX9_leastFrom_90 : decode cX9_leastFrom 90 = .ok (.iaload, 1) := by decide +kernel
theorem dX9_leastFrom_91 : decode cX9_leastFrom 91 = .ok (.iadd, 1) := by decide +kernel
theorem dX9_leastFrom_92 : decode cX9_leastFrom 92 = .ok (.istore 6, 2) := by decide +kernel
theorem dX9_leastFrom_94 : decode cX9_leastFrom 94 = .ok (.aload_n 0, 1) := by decide +kernel
theorem dX9_leastFrom_95 : decode cX9_leastFrom 95 = .ok (.iload 6, 2) := by decide +kernel
theorem dX9_leastFrom_97 : decode cX9_leastFrom 97 = .ok (.iload_n 3, 1) := by decide +kernel
theorem dX9_leastFrom_98 : decode cX9_leastFrom 98 = .ok (.if_icmp .gt 8, 3) := by decide +kernel
theorem dX9_leastFrom_101 : decode cX9_leastFrom 101 = .ok (.iload 4, 2) := by decide +kernel
theorem dX9_leastFrom_103 : decode cX9_leastFrom 103 = .ok (.goto 7, 3) := by decide +kernel
theorem dX9_leastFrom_106 : decode cX9_leastFrom 106 = .ok (.aload_n 0, 1) := by decide +kernel
theorem dX9_leastFrom_107 : decode cX9_leastFrom 107 = .ok (.getfield 153, 3) := by decide +kernel
theorem dX9_leastFrom_110 : decode cX9_leastFrom 110 = .ok (.putfield 153, 3) := by decide +kernel
theorem dX9_leastFrom_113 : decode cX9_leastFrom 113 = .ok (.iload 6, 2) := by decide +kernel
theorem dX9_leastFrom_115 : decode cX9_leastFrom 115 = .ok (.iload_n 3, 1) := by decide +kernel
theorem dX9_leastFrom_116 : decode cX9_leastFrom 116 = .ok (.if_icmp .gt 8, 3) := by decide +kernel
theorem dX9_leastFrom_119 : decode cX9_leastFrom 119 = .ok (.iload 6, 2) := by decide +kernel
theorem dX9_leastFrom_121 : decode cX9_leastFrom 121 = .ok (.goto 4, 3) := by decide +kernel
theorem dX9_leastFrom_124 : decode cX9_leastFrom 124 = .ok (.iload_n 3, 1) := by decide +kernel
theorem dX9_leastFrom_125 : decode cX9_leastFrom 125 = .ok (.istore_n 3, 1) := by decide +kernel
theorem dX9_leastFrom_126 : decode cX9_leastFrom 126 = .ok (.iinc 4 (-1), 3) := by decide +kernel
theorem dX9_leastFrom_129 : decode cX9_leastFrom 129 = .ok (.goto (-122), 3) := by decide +kernel
theorem dX9_leastFrom_132 : decode cX9_leastFrom 132 = .ok (.iload_n 3, 1) := by decide +kernel
theorem dX9_leastFrom_133 : decode cX9_leastFrom 133 = .ok (.ireturn, 1) := by decide +kernel
theorem dX9_fewest_0 : decode cX9_fewest 0 = .ok (.aload_n 0, 1) := by decide +kernel
theorem dX9_fewest_1 : decode cX9_fewest 1 = .ok (.invokevirtual 149, 3) := by decide +kernel
theorem dX9_fewest_4 : decode cX9_fewest 4 = .ok (.aload_n 0, 1) := by decide +kernel
theorem dX9_fewest_5 : decode cX9_fewest 5 = .ok (.iconst 0, 1) := by decide +kernel
theorem dX9_fewest_6 : decode cX9_fewest 6 = .ok (.putfield 153, 3) := by decide +kernel
theorem dX9_fewest_9 : decode cX9_fewest 9 = .ok (.iconst 0, 1) := by decide +kernel
theorem dX9_fewest_10 : decode cX9_fewest 10 = .ok (.istore_n 1, 1) := by decide +kernel
theorem dX9_fewest_11 : decode cX9_fewest 11 = .ok (.iload_n 1, 1) := by decide +kernel
theorem dX9_fewest_12 : decode cX9_fewest 12 = .ok (.bipush 100, 2) := by decide +kernel
theorem dX9_fewest_14 : decode cX9_fewest 14 = .ok (.if_icmp .ge 24, 3) := by decide +kernel
theorem dX9_fewest_17 : decode cX9_fewest 17 = .ok (.aload_n 0, 1) := by decide +kernel
theorem dX9_fewest_18 : decode cX9_fewest 18 = .ok (.getfield 57, 3) := by decide +kernel
theorem dX9_fewest_21 : decode cX9_fewest 21 = .ok (.bipush 100, 2) := by decide +kernel
theorem dX9_fewest_23 : decode cX9_fewest 23 = .ok (.aload_n 0, 1) := by decide +kernel
theorem dX9_fewest_24 : decode cX9_fewest 24 = .ok (.getfield 66, 3) := by decide +kernel
theorem dX9_fewest_27 : decode cX9_fewest 27 = .ok (.imul, 1) := by decide +kernel
theorem dX9_fewest_28 : decode cX9_fewest 28 = .ok (.iload_n 1, 1) := by decide +kernel
theorem dX9_fewest_29 : decode cX9_fewest 29 = .ok (.iadd, 1) := by decide +kernel
theorem dX9_fewest_30 : decode cX9_fewest 30 = .ok (.iconst 0, 1) := by decide +kernel
theorem dX9_fewest_31 : decode cX9_fewest 31 = .ok (.iastore, 1) := by decide +kernel
theorem dX9_fewest_32 : decode cX9_fewest 32 = .ok (.iinc 1 1, 3) := by decide +kernel
theorem dX9_fewest_35 : decode cX9_fewest 35 = .ok (.goto (-24), 3) := by decide +kernel
theorem dX9_fewest_38 : decode cX9_fewest 38 = .ok (.aload_n 0, 1) := by decide +kernel
theorem dX9_fewest_39 : decode cX9_fewest 39 = .ok (.getfield 66, 3) := by decide +kernel
theorem dX9_fewest_42 : decode cX9_fewest 42 = .ok (.iconst 1, 1) := by decide +kernel
theorem dX9_fewest_43 : decode cX9_fewest 43 = .ok (.isub, 1) := by decide +kernel
theorem dX9_fewest_44 : decode cX9_fewest 44 = .ok (.istore_n 1, 1) := by decide +kernel
theorem dX9_fewest_45 : decode cX9_fewest 45 = .ok (.iload_n 1, 1) := by decide +kernel
theorem dX9_fewest_46 : decode cX9_fewest 46 = .ok (.aload_n 0, 1) := by decide +kernel
theorem dX9_fewest_47 : decode cX9_fewest 47 = .ok (.getfield 7, 3) := by decide +kernel
theorem dX9_fewest_50 : decode cX9_fewest 50 = .ok (.iconst 0, 1) := by decide +kernel
theorem dX9_fewest_51 : decode cX9_fewest 51 = .ok (.iaload, 1) := by decide +kernel
theorem dX9_fewest_52 : decode cX9_fewest 52 = .ok (.if_icmp .le 40, 3) := by decide +kernel
theorem dX9_fewest_55 : decode cX9_fewest 55 = .ok (.iconst 0, 1) := by decide +kernel
theorem dX9_fewest_56 : decode cX9_fewest 56 = .ok (.istore_n 2, 1) := by decide +kernel
theorem dX9_fewest_57 : decode cX9_fewest 57 = .ok (.iload_n 2, 1) := by decide +kernel
theorem dX9_fewest_58 : decode cX9_fewest 58 = .ok (.bipush 100, 2) := by decide +kernel
theorem dX9_fewest_60 : decode cX9_fewest 60 = .ok (.if_icmp .ge 26, 3) := by decide +kernel
theorem dX9_fewest_63 : decode cX9_fewest 63 = .ok (.aload_n 0, 1) := by decide +kernel
theorem dX9_fewest_64 : decode cX9_fewest 64 = .ok (.getfield 57, 3) := by decide +kernel
theorem dX9_fewest_67 : decode cX9_fewest 67 = .ok (.bipush 100, 2) := by decide +kernel
theorem dX9_fewest_69 : decode cX9_fewest 69 = .ok (.iload_n 1, 1) := by decide +kernel
theorem dX9_fewest_70 : decode cX9_fewest 70 = .ok (.imul, 1) := by decide +kernel
theorem dX9_fewest_71 : decode cX9_fewest 71 = .ok (.iload_n 2, 1) := by decide +kernel
theorem dX9_fewest_72 : decode cX9_fewest 72 = .ok (.iadd, 1) := by decide +kernel
theorem dX9_fewest_73 : decode cX9_fewest 73 = .ok (.aload_n 0, 1) := by decide +kernel
theorem dX9_fewest_74 : decode cX9_fewest 74 = .ok (.iload_n 1, 1) := by decide +kernel
theorem dX9_fewest_75 : decode cX9_fewest 75 = .ok (.iload_n 2, 1) := by decide +kernel
theorem dX9_fewest_76 : decode cX9_fewest 76 = .ok (.invokevirtual 156, 3) := by decide +kernel
theorem dX9_fewest_79 : decode cX9_fewest 79 = .ok (.iastore, 1) := by decide +kernel
theorem dX9_fewest_80 : decode cX9_fewest 80 = .ok (.iinc 2 1, 3) := by decide +kernel
theorem dX9_fewest_83 : decode cX9_fewest 83 = .ok (.goto (-26), 3) := by decide +kernel
theorem dX9_fewest_86 : decode cX9_fewest 86 = .ok (.iinc 1 (-1), 3) := by decide +kernel
theorem dX9_fewest_89 : decode cX9_fewest 89 = .ok (.goto (-44), 3) := by decide +kernel
theorem dX9_fewest_92 : decode cX9_fewest 92 = .ok (.aload_n 0, 1) := by decide +kernel
theorem dX9_fewest_93 : decode cX9_fewest 93 = .ok (.getfield 7, 3) := by decide +kernel
theorem dX9_fewest_96 : decode cX9_fewest 96 = .ok (.iconst 0, 1) := by decide +kernel
theorem dX9_fewest_97 : decode cX9_fewest 97 = .ok (.iaload, 1) := by decide +kernel
theorem dX9_fewest_98 : decode cX9_fewest 98 = .ok (.aload_n 0, 1) := by decide +kernel
theorem dX9_fewest_99 : decode cX9_fewest 99 = .ok (.getfield 66, 3) := by decide +kernel
theorem dX9_fewest_102 : decode cX9_fewest 102 = .ok (.if_icmp .ne 7, 3) := by decide +kernel
theorem dX9_fewest_105 : decode cX9_fewest 105 = .ok (.iconst 0, 1) := by decide +kernel
theorem dX9_fewest_106 : decode cX9_fewest 106 = .ok (.goto 19, 3) := by decide +kernel
theorem dX9_fewest_109 : decode cX9_fewest 109 = .ok (.aload_n 0, 1) := by decide +kernel
theorem dX9_fewest_110 : decode cX9_fewest 110 = .ok (.aload_n 0, 1) := by decide +kernel
theorem dX9_fewest_111 : decode cX9_fewest 111 = .ok (.getfield 7, 3) := by decide +kernel
theorem dX9_fewest_114 : decode cX9_fewest 114 = .ok (.iconst 0, 1) := by decide +kernel
theorem dX9_fewest_115 : decode cX9_fewest 115 = .ok (.iaload, 1) := by decide +kernel
theorem dX9_fewest_116 : decode cX9_fewest 116 = .ok (.aload_n 0, 1) := by decide +kernel
theorem dX9_fewest_117 : decode cX9_fewest 117 = .ok (.getfield 7, 3) := by decide +kernel
theorem dX9_fewest_120 : decode cX9_fewest 120 = .ok (.iconst 1, 1) := by decide +kernel
theorem dX9_fewest_121 : decode cX9_fewest 121 = .ok (.iaload, 1) := by decide +kernel
theorem dX9_fewest_122 : decode cX9_fewest 122 = .ok (.invokevirtual 156, 3) := by decide +kernel
theorem dX9_fewest_125 : decode cX9_fewest 125 = .ok (.ireturn, 1) := by decide +kernel
theorem dX9_leastOf_0 : decode cX9_leastOf 0 = .ok (.aload_n 0, 1) := by decide +kernel
theorem dX9_leastOf_1 : decode cX9_leastOf 1 = .ok (.invokevirtual 160, 3) := by decide +kernel
theorem dX9_leastOf_4 : decode cX9_leastOf 4 = .ok (.istore_n 2, 1) := by decide +kernel
theorem dX9_leastOf_5 : decode cX9_leastOf 5 = .ok (.iload_n 1, 1) := by decide +kernel
theorem dX9_leastOf_6 : decode cX9_leastOf 6 = .ok (.bipush 6, 2) := by decide +kernel
theorem dX9_leastOf_8 : decode cX9_leastOf 8 = .ok (.if_icmp .ne 7, 3) := by decide +kernel
theorem dX9_leastOf_11 : decode cX9_leastOf 11 = .ok (.iload_n 2, 1) := by decide +kernel
theorem dX9_leastOf_12 : decode cX9_leastOf 12 = .ok (.goto 24, 3) := by decide +kernel
theorem dX9_leastOf_15 : decode cX9_leastOf 15 = .ok (.aload_n 0, 1) := by decide +kernel
theorem dX9_leastOf_16 : decode cX9_leastOf 16 = .ok (.getfield 7, 3) := by decide +kernel
theorem dX9_leastOf_19 : decode cX9_leastOf 19 = .ok (.iconst 0, 1) := by decide +kernel
theorem dX9_leastOf_20 : decode cX9_leastOf 20 = .ok (.iaload, 1) := by decide +kernel
theorem dX9_leastOf_21 : decode cX9_leastOf 21 = .ok (.aload_n 0, 1) := by decide +kernel
theorem dX9_leastOf_22 : decode cX9_leastOf 22 = .ok (.getfield 66, 3) := by decide +kernel
theorem dX9_leastOf_25 : decode cX9_leastOf 25 = .ok (.if_icmp .ne 7, 3) := by decide +kernel
theorem dX9_leastOf_28 : decode cX9_leastOf 28 = .ok (.iconst 0, 1) := by decide +kernel
theorem dX9_leastOf_29 : decode cX9_leastOf 29 = .ok (.goto 7, 3) := by decide +kernel
theorem dX9_leastOf_32 : decode cX9_leastOf 32 = .ok (.aload_n 0, 1) := by decide +kernel
theorem dX9_leastOf_33 : decode cX9_leastOf 33 = .ok (.getfield 153, 3) := by decide +kernel
theorem dX9_leastOf_36 : decode cX9_leastOf 36 = .ok (.ireturn, 1) := by decide +kernel
theorem dX9_tellRun_0 : decode cX9_tellRun 0 = .ok (.aload_n 0, 1) := by decide +kernel
theorem dX9_tellRun_1 : decode cX9_tellRun 1 = .ok (.invokevirtual 163, 3) := by decide +kernel
theorem dX9_tellRun_4 : decode cX9_tellRun 4 = .ok (.aload_n 0, 1) := by decide +kernel
theorem dX9_tellRun_5 : decode cX9_tellRun 5 = .ok (.invokevirtual 166, 3) := by decide +kernel
theorem dX9_tellRun_8 : decode cX9_tellRun 8 = .ok (.istore_n 2, 1) := by decide +kernel
theorem dX9_tellRun_9 : decode cX9_tellRun 9 = .ok (.iload_n 1, 1) := by decide +kernel
theorem dX9_tellRun_10 : decode cX9_tellRun 10 = .ok (.iconst 3, 1) := by decide +kernel
theorem dX9_tellRun_11 : decode cX9_tellRun 11 = .ok (.if_icmp .ne 14, 3) := by decide +kernel
theorem dX9_tellRun_14 : decode cX9_tellRun 14 = .ok (.aload_n 0, 1) := by decide +kernel
theorem dX9_tellRun_15 : decode cX9_tellRun 15 = .ok (.getfield 7, 3) := by decide +kernel
theorem dX9_tellRun_18 : decode cX9_tellRun 18 = .ok (.sipush 156, 3) := by decide +kernel
theorem dX9_tellRun_21 : decode cX9_tellRun 21 = .ok (.iaload, 1) := by decide +kernel
theorem dX9_tellRun_22 : decode cX9_tellRun 22 = .ok (.goto 16, 3) := by decide +kernel
theorem dX9_tellRun_25 : decode cX9_tellRun 25 = .ok (.iload_n 1, 1) := by decide +kernel
theorem dX9_tellRun_26 : decode cX9_tellRun 26 = .ok (.iconst 4, 1) := by decide +kernel
theorem dX9_tellRun_27 : decode cX9_tellRun 27 = .ok (.if_icmp .ne 7, 3) := by decide +kernel
theorem dX9_tellRun_30 : decode cX9_tellRun 30 = .ok (.iload_n 2, 1) := by decide +kernel
theorem dX9_tellRun_31 : decode cX9_tellRun 31 = .ok (.goto 7, 3) := by decide +kernel
theorem dX9_tellRun_34 : decode cX9_tellRun 34 = .ok (.aload_n 0, 1) := by decide +kernel
theorem dX9_tellRun_35 : decode cX9_tellRun 35 = .ok (.getfield 131, 3) := by decide +kernel
theorem dX9_tellRun_38 : decode cX9_tellRun 38 = .ok (.ireturn, 1) := by decide +kernel
theorem dX9_now_0 : decode cX9_now 0 = .ok (.iload_n 1, 1) := by decide +kernel
theorem dX9_now_1 : decode cX9_now 1 = .ok (.tableswitch 75 0 8 #[51, 51, 51, 58, 58, 58, 64, 64, 70], 51) := by decide +kernel
theorem dX9_now_52 : decode cX9_now 52 = .ok (.aload_n 0, 1) := by decide +kernel
theorem dX9_now_53 : decode cX9_now 53 = .ok (.getfield 7, 3) := by decide +kernel
theorem dX9_now_56 : decode cX9_now 56 = .ok (.iload_n 1, 1) := by decide +kernel
theorem dX9_now_57 : decode cX9_now 57 = .ok (.iaload, 1) := by decide +kernel
theorem dX9_now_58 : decode cX9_now 58 = .ok (.ireturn, 1) := by decide +kernel
theorem dX9_now_59 : decode cX9_now 59 = .ok (.aload_n 0, 1) := by decide +kernel
theorem dX9_now_60 : decode cX9_now 60 = .ok (.iload_n 1, 1) := by decide +kernel
theorem dX9_now_61 : decode cX9_now 61 = .ok (.invokevirtual 169, 3) := by decide +kernel
theorem dX9_now_64 : decode cX9_now 64 = .ok (.ireturn, 1) := by decide +kernel
theorem dX9_now_65 : decode cX9_now 65 = .ok (.aload_n 0, 1) := by decide +kernel
theorem dX9_now_66 : decode cX9_now 66 = .ok (.iload_n 1, 1) := by decide +kernel
theorem dX9_now_67 : decode cX9_now 67 = .ok (.invokevirtual 172, 3) := by decide +kernel
theorem dX9_now_70 : decode cX9_now 70 = .ok (.ireturn, 1) := by decide +kernel
theorem dX9_now_71 : decode cX9_now 71 = .ok (.aload_n 0, 1) := by decide +kernel
theorem dX9_now_72 : decode cX9_now 72 = .ok (.getfield 116, 3) := by decide +kernel
theorem dX9_now_75 : decode cX9_now 75 = .ok (.ireturn, 1) := by decide +kernel
theorem dX9_now_76 : decode cX9_now 76 = .ok (.iconst (-1), 1) := by decide +kernel
theorem dX9_now_77 : decode cX9_now 77 = .ok (.ireturn, 1) := by decide +kernel
theorem dX9_keepPast_0 : decode cX9_keepPast 0 = .ok (.aload_n 0, 1) := by decide +kernel
theorem dX9_keepPast_1 : decode cX9_keepPast 1 = .ok (.getfield 116, 3) := by decide +kernel
theorem dX9_keepPast_4 : decode cX9_keepPast 4 = .ok (.bipush 10, 2) := by decide +kernel
theorem dX9_keepPast_6 : decode cX9_keepPast 6 = .ok (.if_icmp .ne 45, 3) := by decide +kernel
theorem dX9_keepPast_9 : decode cX9_keepPast 9 = .ok (.iconst 0, 1) := by decide +kernel
theorem dX9_keepPast_10 : decode cX9_keepPast 10 = .ok (.istore_n 1, 1) := by decide +kernel
theorem dX9_keepPast_11 : decode cX9_keepPast 11 = .ok (.iload_n 1, 1) := by decide +kernel
theorem dX9_keepPast_12 : decode cX9_keepPast 12 = .ok (.bipush 108, 2) := by decide +kernel
theorem dX9_keepPast_14 : decode cX9_keepPast 14 = .ok (.if_icmp .ge 27, 3) := by decide +kernel
theorem dX9_keepPast_17 : decode cX9_keepPast 17 = .ok (.aload_n 0, 1) := by decide +kernel
theorem dX9_keepPast_18 : decode cX9_keepPast 18 = .ok (.getfield 7, 3) := by decide +kernel
theorem dX9_keepPast_21 : decode cX9_keepPast 21 = .ok (.bipush 12, 2) := by decide +kernel
theorem dX9_keepPast_23 : decode cX9_keepPast 23 = .ok (.iload_n 1, 1) := by decide +kernel
theorem dX9_keepPast_24 : decode cX9_keepPast 24 = .ok (.iadd, 1) := by decide +kernel
theorem dX9_keepPast_25 : decode cX9_keepPast 25 = .ok (.aload_n 0, 1) := by decide +kernel
theorem dX9_keepPast_26 : decode cX9_keepPast 26 = .ok (.getfield 7, 3) := by decide +kernel
theorem dX9_keepPast_29 : decode cX9_keepPast 29 = .ok (.bipush 24, 2) := by decide +kernel
theorem dX9_keepPast_31 : decode cX9_keepPast 31 = .ok (.iload_n 1, 1) := by decide +kernel
theorem dX9_keepPast_32 : decode cX9_keepPast 32 = .ok (.iadd, 1) := by decide +kernel
theorem dX9_keepPast_33 : decode cX9_keepPast 33 = .ok (.iaload, 1) := by decide +kernel
theorem dX9_keepPast_34 : decode cX9_keepPast 34 = .ok (.iastore, 1) := by decide +kernel
theorem dX9_keepPast_35 : decode cX9_keepPast 35 = .ok (.iinc 1 1, 3) := by decide +kernel
theorem dX9_keepPast_38 : decode cX9_keepPast 38 = .ok (.goto (-27), 3) := by decide +kernel
theorem dX9_keepPast_41 : decode cX9_keepPast 41 = .ok (.aload_n 0, 1) := by decide +kernel
theorem dX9_keepPast_42 : decode cX9_keepPast 42 = .ok (.dup, 1) := by decide +kernel
theorem dX9_keepPast_43 : decode cX9_keepPast 43 = .ok (.getfield 116, 3) := by decide +kernel
theorem dX9_keepPast_46 : decode cX9_keepPast 46 = .ok (.iconst 1, 1) := by decide +kernel
theorem dX9_keepPast_47 : decode cX9_keepPast 47 = .ok (.isub, 1) := by decide +kernel
theorem dX9_keepPast_48 : decode cX9_keepPast 48 = .ok (.putfield 116, 3) := by decide +kernel
theorem dX9_keepPast_51 : decode cX9_keepPast 51 = .ok (.aload_n 0, 1) := by decide +kernel
theorem dX9_keepPast_52 : decode cX9_keepPast 52 = .ok (.iconst 0, 1) := by decide +kernel
theorem dX9_keepPast_53 : decode cX9_keepPast 53 = .ok (.bipush 12, 2) := by decide +kernel
theorem dX9_keepPast_55 : decode cX9_keepPast 55 = .ok (.bipush 12, 2) := by decide +kernel
theorem dX9_keepPast_57 : decode cX9_keepPast 57 = .ok (.aload_n 0, 1) := by decide +kernel
theorem dX9_keepPast_58 : decode cX9_keepPast 58 = .ok (.getfield 116, 3) := by decide +kernel
theorem dX9_keepPast_61 : decode cX9_keepPast 61 = .ok (.imul, 1) := by decide +kernel
theorem dX9_keepPast_62 : decode cX9_keepPast 62 = .ok (.iadd, 1) := by decide +kernel
theorem dX9_keepPast_63 : decode cX9_keepPast 63 = .ok (.invokevirtual 145, 3) := by decide +kernel
theorem dX9_keepPast_66 : decode cX9_keepPast 66 = .ok (.aload_n 0, 1) := by decide +kernel
theorem dX9_keepPast_67 : decode cX9_keepPast 67 = .ok (.dup, 1) := by decide +kernel
theorem dX9_keepPast_68 : decode cX9_keepPast 68 = .ok (.getfield 116, 3) := by decide +kernel
theorem dX9_keepPast_71 : decode cX9_keepPast 71 = .ok (.iconst 1, 1) := by decide +kernel
theorem dX9_keepPast_72 : decode cX9_keepPast 72 = .ok (.iadd, 1) := by decide +kernel
theorem dX9_keepPast_73 : decode cX9_keepPast 73 = .ok (.putfield 116, 3) := by decide +kernel
theorem dX9_keepPast_76 : decode cX9_keepPast 76 = .ok (.return_, 1) := by decide +kernel
theorem dX9_flips_0 : decode cX9_flips 0 = .ok (.aload_n 0, 1) := by decide +kernel
theorem dX9_flips_1 : decode cX9_flips 1 = .ok (.getfield 7, 3) := by decide +kernel
theorem dX9_flips_4 : decode cX9_flips 4 = .ok (.iconst 0, 1) := by decide +kernel
theorem dX9_flips_5 : decode cX9_flips 5 = .ok (.iaload, 1) := by decide +kernel
theorem dX9_flips_6 : decode cX9_flips 6 = .ok (.aload_n 0, 1) := by decide +kernel
theorem dX9_flips_7 : decode cX9_flips 7 = .ok (.getfield 66, 3) := by decide +kernel
theorem dX9_flips_10 : decode cX9_flips 10 = .ok (.if_icmp .eq 24, 3) := by decide +kernel
theorem dX9_flips_13 : decode cX9_flips 13 = .ok (.aload_n 0, 1) := by decide +kernel
theorem dX9_flips_14 : decode cX9_flips 14 = .ok (.getfield 7, 3) := by decide +kernel
theorem dX9_flips_17 : decode cX9_flips 17 = .ok (.iconst 1, 1) := by decide +kernel
theorem dX9_flips_18 : decode cX9_flips 18 = .ok (.iaload, 1) := by decide +kernel
theorem dX9_flips_19 : decode cX9_flips 19 = .ok (.ifCond .eq 15, 3) := by decide +kernel
theorem dX9_flips_22 : decode cX9_flips 22 = .ok (.aload_n 0, 1) := by decide +kernel
theorem dX9_flips_23 : decode cX9_flips 23 = .ok (.getfield 7, 3) := by decide +kernel
theorem dX9_flips_26 : decode cX9_flips 26 = .ok (.iconst 2, 1) := by decide +kernel
theorem dX9_flips_27 : decode cX9_flips 27 = .ok (.iaload, 1) := by decide +kernel
theorem dX9_flips_28 : decode cX9_flips 28 = .ok (.sipush 999, 3) := by decide +kernel
theorem dX9_flips_31 : decode cX9_flips 31 = .ok (.if_icmp .ne 6, 3) := by decide +kernel
theorem dX9_flips_34 : decode cX9_flips 34 = .ok (.bipush (-2), 2) := by decide +kernel
theorem dX9_flips_36 : decode cX9_flips 36 = .ok (.ireturn, 1) := by decide +kernel
theorem dX9_flips_37 : decode cX9_flips 37 = .ok (.aload_n 0, 1) := by decide +kernel
theorem dX9_flips_38 : decode cX9_flips 38 = .ok (.invokevirtual 175, 3) := by decide +kernel
theorem dX9_flips_41 : decode cX9_flips 41 = .ok (.aload_n 0, 1) := by decide +kernel
theorem dX9_flips_42 : decode cX9_flips 42 = .ok (.invokevirtual 149, 3) := by decide +kernel
theorem dX9_flips_45 : decode cX9_flips 45 = .ok (.aload_n 0, 1) := by decide +kernel
theorem dX9_flips_46 : decode cX9_flips 46 = .ok (.iconst 0, 1) := by decide +kernel
theorem dX9_flips_47 : decode cX9_flips 47 = .ok (.invokevirtual 142, 3) := by decide +kernel
theorem dX9_flips_50 : decode cX9_flips 50 = .ok (.aload_n 0, 1) := by decide +kernel
theorem dX9_flips_51 : decode cX9_flips 51 = .ok (.getfield 7, 3) := by decide +kernel
theorem dX9_flips_54 : decode cX9_flips 54 = .ok (.iconst 0, 1) := by decide +kernel
theorem dX9_flips_55 : decode cX9_flips 55 = .ok (.iaload, 1) := by decide +kernel
theorem dX9_flips_56 : decode cX9_flips 56 = .ok (.ireturn, 1) := by decide +kernel
theorem dX9_pushes_0 : decode cX9_pushes 0 = .ok (.iload_n 1, 1) := by decide +kernel
theorem dX9_pushes_1 : decode cX9_pushes 1 = .ok (.iconst 1, 1) := by decide +kernel
theorem dX9_pushes_2 : decode cX9_pushes 2 = .ok (.bipush 20, 2) := by decide +kernel
theorem dX9_pushes_4 : decode cX9_pushes 4 = .ok (.invokestatic 69, 3) := by decide +kernel
theorem dX9_pushes_7 : decode cX9_pushes 7 = .ok (.ifCond .ne 5, 3) := by decide +kernel
theorem dX9_pushes_10 : decode cX9_pushes 10 = .ok (.iconst (-1), 1) := by decide +kernel
theorem dX9_pushes_11 : decode cX9_pushes 11 = .ok (.ireturn, 1) := by decide +kernel
theorem dX9_pushes_12 : decode cX9_pushes 12 = .ok (.aload_n 0, 1) := by decide +kernel
theorem dX9_pushes_13 : decode cX9_pushes 13 = .ok (.getfield 7, 3) := by decide +kernel
theorem dX9_pushes_16 : decode cX9_pushes 16 = .ok (.iconst 0, 1) := by decide +kernel
theorem dX9_pushes_17 : decode cX9_pushes 17 = .ok (.iaload, 1) := by decide +kernel
theorem dX9_pushes_18 : decode cX9_pushes 18 = .ok (.aload_n 0, 1) := by decide +kernel
theorem dX9_pushes_19 : decode cX9_pushes 19 = .ok (.getfield 66, 3) := by decide +kernel
theorem dX9_pushes_22 : decode cX9_pushes 22 = .ok (.if_icmp .ne 6, 3) := by decide +kernel
theorem dX9_pushes_25 : decode cX9_pushes 25 = .ok (.bipush (-2), 2) := by decide +kernel
theorem dX9_pushes_27 : decode cX9_pushes 27 = .ok (.ireturn, 1) := by decide +kernel
theorem dX9_pushes_28 : decode cX9_pushes 28 = .ok (.aload_n 0, 1) := by decide +kernel
theorem dX9_pushes_29 : decode cX9_pushes 29 = .ok (.invokevirtual 175, 3) := by decide +kernel
theorem dX9_pushes_32 : decode cX9_pushes 32 = .ok (.aload_n 0, 1) := by decide +kernel
theorem dX9_pushes_33 : decode cX9_pushes 33 = .ok (.getfield 7, 3) := by decide +kernel
theorem dX9_pushes_36 : decode cX9_pushes 36 = .ok (.iconst 1, 1) := by decide +kernel
theorem dX9_pushes_37 : decode cX9_pushes 37 = .ok (.aload_n 0, 1) := by decide +kernel
theorem dX9_pushes_38 : decode cX9_pushes 38 = .ok (.getfield 7, 3) := by decide +kernel
theorem dX9_pushes_41 : decode cX9_pushes 41 = .ok (.iconst 1, 1) := by decide +kernel
theorem dX9_pushes_42 : decode cX9_pushes 42 = .ok (.iaload, 1) := by decide +kernel
theorem dX9_pushes_43 : decode cX9_pushes 43 = .ok (.iload_n 1, 1) := by decide +kernel
theorem dX9_pushes_44 : decode cX9_pushes 44 = .ok (.iadd, 1) := by decide +kernel
theorem dX9_pushes_45 : decode cX9_pushes 45 = .ok (.invokestatic 134, 3) := by decide +kernel
theorem dX9_pushes_48 : decode cX9_pushes 48 = .ok (.iastore, 1) := by decide +kernel
theorem dX9_pushes_49 : decode cX9_pushes 49 = .ok (.aload_n 0, 1) := by decide +kernel
theorem dX9_pushes_50 : decode cX9_pushes 50 = .ok (.getfield 7, 3) := by decide +kernel
theorem dX9_pushes_53 : decode cX9_pushes 53 = .ok (.iconst 1, 1) := by decide +kernel
theorem dX9_pushes_54 : decode cX9_pushes 54 = .ok (.iaload, 1) := by decide +kernel
theorem dX9_pushes_55 : decode cX9_pushes 55 = .ok (.ireturn, 1) := by decide +kernel
theorem dX9_lifts_0 : decode cX9_lifts 0 = .ok (.aload_n 0, 1) := by decide +kernel
theorem dX9_lifts_1 : decode cX9_lifts 1 = .ok (.iload_n 1, 1) := by decide +kernel
theorem dX9_lifts_2 : decode cX9_lifts 2 = .ok (.invokevirtual 122, 3) := by decide +kernel
theorem dX9_lifts_5 : decode cX9_lifts 5 = .ok (.ifCond .ne 5, 3) := by decide +kernel
theorem dX9_lifts_8 : decode cX9_lifts 8 = .ok (.iconst (-1), 1) := by decide +kernel
theorem dX9_lifts_9 : decode cX9_lifts 9 = .ok (.ireturn, 1) := by decide +kernel
theorem dX9_lifts_10 : decode cX9_lifts 10 = .ok (.aload_n 0, 1) := by decide +kernel
theorem dX9_lifts_11 : decode cX9_lifts 11 = .ok (.getfield 7, 3) := by decide +kernel
theorem dX9_lifts_14 : decode cX9_lifts 14 = .ok (.iconst 0, 1) := by decide +kernel
theorem dX9_lifts_15 : decode cX9_lifts 15 = .ok (.iaload, 1) := by decide +kernel
theorem dX9_lifts_16 : decode cX9_lifts 16 = .ok (.istore_n 2, 1) := by decide +kernel
theorem dX9_lifts_17 : decode cX9_lifts 17 = .ok (.iload_n 2, 1) := by decide +kernel
theorem dX9_lifts_18 : decode cX9_lifts 18 = .ok (.iload_n 1, 1) := by decide +kernel
theorem dX9_lifts_19 : decode cX9_lifts 19 = .ok (.if_icmp .ne 6, 3) := by decide +kernel
theorem dX9_lifts_22 : decode cX9_lifts 22 = .ok (.bipush (-2), 2) := by decide +kernel
theorem dX9_lifts_24 : decode cX9_lifts 24 = .ok (.ireturn, 1) := by decide +kernel
theorem dX9_lifts_25 : decode cX9_lifts 25 = .ok (.aload_n 0, 1) := by decide +kernel
theorem dX9_lifts_26 : decode cX9_lifts 26 = .ok (.invokevirtual 175, 3) := by decide +kernel
theorem dX9_lifts_29 : decode cX9_lifts 29 = .ok (.aload_n 0, 1) := by decide +kernel
theorem dX9_lifts_30 : decode cX9_lifts 30 = .ok (.getfield 7, 3) := by decide +kernel
theorem dX9_lifts_33 : decode cX9_lifts 33 = .ok (.iconst 0, 1) := by decide +kernel
theorem dX9_lifts_34 : decode cX9_lifts 34 = .ok (.iload_n 1, 1) := by decide +kernel
theorem dX9_lifts_35 : decode cX9_lifts 35 = .ok (.iastore, 1) := by decide +kernel
theorem dX9_lifts_36 : decode cX9_lifts 36 = .ok (.aload_n 0, 1) := by decide +kernel
theorem dX9_lifts_37 : decode cX9_lifts 37 = .ok (.getfield 7, 3) := by decide +kernel
theorem dX9_lifts_40 : decode cX9_lifts 40 = .ok (.iconst 1, 1) := by decide +kernel
theorem dX9_lifts_41 : decode cX9_lifts 41 = .ok (.iconst 0, 1) := by decide +kernel
theorem dX9_lifts_42 : decode cX9_lifts 42 = .ok (.iastore, 1) := by decide +kernel
theorem dX9_lifts_43 : decode cX9_lifts 43 = .ok (.iload_n 2, 1) := by decide +kernel
theorem dX9_lifts_44 : decode cX9_lifts 44 = .ok (.ireturn, 1) := by decide +kernel
theorem dX9_lays_0 : decode cX9_lays 0 = .ok (.aload_n 0, 1) := by decide +kernel
theorem dX9_lays_1 : decode cX9_lays 1 = .ok (.iload_n 1, 1) := by decide +kernel
theorem dX9_lays_2 : decode cX9_lays 2 = .ok (.invokevirtual 122, 3) := by decide +kernel
theorem dX9_lays_5 : decode cX9_lays 5 = .ok (.ifCond .eq 12, 3) := by decide +kernel
theorem dX9_lays_8 : decode cX9_lays 8 = .ok (.iload_n 2, 1) := by decide +kernel
theorem dX9_lays_9 : decode cX9_lays 9 = .ok (.iconst 0, 1) := by decide +kernel
theorem dX9_lays_10 : decode cX9_lays 10 = .ok (.iconst 5, 1) := by decide +kernel
theorem dX9_lays_11 : decode cX9_lays 11 = .ok (.invokestatic 69, 3) := by decide +kernel
theorem dX9_lays_14 : decode cX9_lays 14 = .ok (.ifCond .ne 5, 3) := by decide +kernel
theorem dX9_lays_17 : decode cX9_lays 17 = .ok (.iconst (-1), 1) := by decide +kernel
theorem dX9_lays_18 : decode cX9_lays 18 = .ok (.ireturn, 1) := by decide +kernel
theorem dX9_lays_19 : decode cX9_lays 19 = .ok (.aload_n 0, 1) := by decide +kernel
theorem dX9_lays_20 : decode cX9_lays 20 = .ok (.getfield 7, 3) := by decide +kernel
theorem dX9_lays_23 : decode cX9_lays 23 = .ok (.iconst 3, 1) := by decide +kernel
theorem dX9_lays_24 : decode cX9_lays 24 = .ok (.iload_n 1, 1) := by decide +kernel
theorem dX9_lays_25 : decode cX9_lays 25 = .ok (.iadd, 1) := by decide +kernel
theorem dX9_lays_26 : decode cX9_lays 26 = .ok (.iaload, 1) := by decide +kernel
theorem dX9_lays_27 : decode cX9_lays 27 = .ok (.istore_n 3, 1) := by decide +kernel
theorem dX9_lays_28 : decode cX9_lays 28 = .ok (.iload_n 3, 1) := by decide +kernel
theorem dX9_lays_29 : decode cX9_lays 29 = .ok (.iload_n 2, 1) := by decide +kernel
theorem dX9_lays_30 : decode cX9_lays 30 = .ok (.if_icmp .ne 6, 3) := by decide +kernel
theorem dX9_lays_33 : decode cX9_lays 33 = .ok (.bipush (-2), 2) := by decide +kernel
theorem dX9_lays_35 : decode cX9_lays 35 = .ok (.ireturn, 1) := by decide +kernel
theorem dX9_lays_36 : decode cX9_lays 36 = .ok (.aload_n 0, 1) := by decide +kernel
theorem dX9_lays_37 : decode cX9_lays 37 = .ok (.invokevirtual 175, 3) := by decide +kernel
theorem dX9_lays_40 : decode cX9_lays 40 = .ok (.aload_n 0, 1) := by decide +kernel
theorem dX9_lays_41 : decode cX9_lays 41 = .ok (.getfield 7, 3) := by decide +kernel
theorem dX9_lays_44 : decode cX9_lays 44 = .ok (.iconst 3, 1) := by decide +kernel
theorem dX9_lays_45 : decode cX9_lays 45 = .ok (.iload_n 1, 1) := by decide +kernel
theorem dX9_lays_46 : decode cX9_lays 46 = .ok (.iadd, 1) := by decide +kernel
theorem dX9_lays_47 : decode cX9_lays 47 = .ok (.iload_n 2, 1) := by decide +kernel
theorem dX9_lays_48 : decode cX9_lays 48 = .ok (.iastore, 1) := by decide +kernel
theorem dX9_lays_49 : decode cX9_lays 49 = .ok (.iload_n 3, 1) := by decide +kernel
theorem dX9_lays_50 : decode cX9_lays 50 = .ok (.ireturn, 1) := by decide +kernel
theorem dX9_undo_0 : decode cX9_undo 0 = .ok (.aload_n 0, 1) := by decide +kernel
theorem dX9_undo_1 : decode cX9_undo 1 = .ok (.getfield 116, 3) := by decide +kernel
theorem dX9_undo_4 : decode cX9_undo 4 = .ok (.ifCond .ne 6, 3) := by decide +kernel
theorem dX9_undo_7 : decode cX9_undo 7 = .ok (.bipush (-2), 2) := by decide +kernel
theorem dX9_undo_9 : decode cX9_undo 9 = .ok (.ireturn, 1) := by decide +kernel
theorem dX9_undo_10 : decode cX9_undo 10 = .ok (.aload_n 0, 1) := by decide +kernel
theorem dX9_undo_11 : decode cX9_undo 11 = .ok (.dup, 1) := by decide +kernel
theorem dX9_undo_12 : decode cX9_undo 12 = .ok (.getfield 116, 3) := by decide +kernel
theorem dX9_undo_15 : decode cX9_undo 15 = .ok (.iconst 1, 1) := by decide +kernel
theorem dX9_undo_16 : decode cX9_undo 16 = .ok (.isub, 1) := by decide +kernel
theorem dX9_undo_17 : decode cX9_undo 17 = .ok (.putfield 116, 3) := by decide +kernel
theorem dX9_undo_20 : decode cX9_undo 20 = .ok (.aload_n 0, 1) := by decide +kernel
theorem dX9_undo_21 : decode cX9_undo 21 = .ok (.bipush 12, 2) := by decide +kernel
theorem dX9_undo_23 : decode cX9_undo 23 = .ok (.bipush 12, 2) := by decide +kernel
theorem dX9_undo_25 : decode cX9_undo 25 = .ok (.aload_n 0, 1) := by decide +kernel
theorem dX9_undo_26 : decode cX9_undo 26 = .ok (.getfield 116, 3) := by decide +kernel
theorem dX9_undo_29 : decode cX9_undo 29 = .ok (.imul, 1) := by decide +kernel
theorem dX9_undo_30 : decode cX9_undo 30 = .ok (.iadd, 1) := by decide +kernel
theorem dX9_undo_31 : decode cX9_undo 31 = .ok (.iconst 0, 1) := by decide +kernel
theorem dX9_undo_32 : decode cX9_undo 32 = .ok (.invokevirtual 145, 3) := by decide +kernel
theorem dX9_undo_35 : decode cX9_undo 35 = .ok (.aload_n 0, 1) := by decide +kernel
theorem dX9_undo_36 : decode cX9_undo 36 = .ok (.getfield 116, 3) := by decide +kernel
theorem dX9_undo_39 : decode cX9_undo 39 = .ok (.ireturn, 1) := by decide +kernel
theorem dX9_push_0 : decode cX9_push 0 = .ok (.iload_n 1, 1) := by decide +kernel
theorem dX9_push_1 : decode cX9_push 1 = .ok (.iconst 0, 1) := by decide +kernel
theorem dX9_push_2 : decode cX9_push 2 = .ok (.aload_n 0, 1) := by decide +kernel
theorem dX9_push_3 : decode cX9_push 3 = .ok (.getfield 66, 3) := by decide +kernel
theorem dX9_push_6 : decode cX9_push 6 = .ok (.invokestatic 69, 3) := by decide +kernel
theorem dX9_push_9 : decode cX9_push 9 = .ok (.ifCond .ne 5, 3) := by decide +kernel
theorem dX9_push_12 : decode cX9_push 12 = .ok (.iconst (-1), 1) := by decide +kernel
theorem dX9_push_13 : decode cX9_push 13 = .ok (.ireturn, 1) := by decide +kernel
theorem dX9_push_14 : decode cX9_push 14 = .ok (.iconst 0, 1) := by decide +kernel
theorem dX9_push_15 : decode cX9_push 15 = .ok (.istore_n 2, 1) := by decide +kernel
theorem dX9_push_16 : decode cX9_push 16 = .ok (.iload_n 2, 1) := by decide +kernel
theorem dX9_push_17 : decode cX9_push 17 = .ok (.bipush 61, 2) := by decide +kernel
theorem dX9_push_19 : decode cX9_push 19 = .ok (.if_icmp .ge 68, 3) := by decide +kernel
theorem dX9_push_22 : decode cX9_push 22 = .ok (.aload_n 0, 1) := by decide +kernel
theorem dX9_push_23 : decode cX9_push 23 = .ok (.invokevirtual 163, 3) := by decide +kernel
theorem dX9_push_26 : decode cX9_push 26 = .ok (.aload_n 0, 1) := by decide +kernel
theorem dX9_push_27 : decode cX9_push 27 = .ok (.getfield 7, 3) := by decide +kernel
theorem dX9_push_30 : decode cX9_push 30 = .ok (.sipush 157, 3) := by decide +kernel
theorem dX9_push_33 : decode cX9_push 33 = .ok (.aload_n 0, 1) := by decide +kernel
theorem dX9_push_34 : decode cX9_push 34 = .ok (.getfield 7, 3) := by decide +kernel
theorem dX9_push_37 : decode cX9_push 37 = .ok (.iconst 0, 1) := by decide +kernel
theorem dX9_push_38 : decode cX9_push 38 = .ok (.iaload, 1) := by decide +kernel
theorem dX9_push_39 : decode cX9_push 39 = .ok (.aload_n 0, 1) := by decide +kernel
theorem dX9_push_40 : decode cX9_push 40 = .ok (.getfield 66, 3) := by decide +kernel
theorem dX9_push_43 : decode cX9_push 43 = .ok (.if_icmp .ne 7, 3) := by decide +kernel
theorem dX9_push_46 : decode cX9_push 46 = .ok (.iconst 0, 1) := by decide +kernel
theorem dX9_push_47 : decode cX9_push 47 = .ok (.goto 14, 3) := by decide +kernel
theorem dX9_push_50 : decode cX9_push 50 = .ok (.aload_n 0, 1) := by decide +kernel
theorem dX9_push_51 : decode cX9_push 51 = .ok (.getfield 7, 3) := by decide +kernel
theorem dX9_push_54 : decode cX9_push 54 = .ok (.iconst 1, 1) := by decide +kernel
theorem dX9_push_55 : decode cX9_push 55 = .ok (.iaload, 1) := by decide +kernel
theorem dX9_push_56 : decode cX9_push 56 = .ok (.iload_n 2, 1) := by decide +kernel
theorem dX9_push_57 : decode cX9_push 57 = .ok (.iadd, 1) := by decide +kernel
theorem dX9_push_58 : decode cX9_push 58 = .ok (.invokestatic 134, 3) := by decide +kernel
theorem dX9_push_61 : decode cX9_push 61 = .ok (.iastore, 1) := by decide +kernel
theorem dX9_push_62 : decode cX9_push 62 = .ok (.aload_n 0, 1) := by decide +kernel
theorem dX9_push_63 : decode cX9_push 63 = .ok (.invokevirtual 166, 3) := by decide +kernel
theorem dX9_push_66 : decode cX9_push 66 = .ok (.pop, 1) := by decide +kernel
theorem dX9_push_67 : decode cX9_push 67 = .ok (.aload_n 0, 1) := by decide +kernel
theorem dX9_push_68 : decode cX9_push 68 = .ok (.getfield 7, 3) := by decide +kernel
theorem dX9_push_71 : decode cX9_push 71 = .ok (.sipush 156, 3) := by decide +kernel
theorem dX9_push_74 : decode cX9_push 74 = .ok (.iaload, 1) := by decide +kernel
theorem dX9_push_75 : decode cX9_push 75 = .ok (.iload_n 1, 1) := by decide +kernel
theorem dX9_push_76 : decode cX9_push 76 = .ok (.if_icmp .ne 5, 3) := by decide +kernel
theorem dX9_push_79 : decode cX9_push 79 = .ok (.iload_n 2, 1) := by decide +kernel
theorem dX9_push_80 : decode cX9_push 80 = .ok (.ireturn, 1) := by decide +kernel
theorem dX9_push_81 : decode cX9_push 81 = .ok (.iinc 2 1, 3) := by decide +kernel
theorem dX9_push_84 : decode cX9_push 84 = .ok (.goto (-68), 3) := by decide +kernel
theorem dX9_push_87 : decode cX9_push 87 = .ok (.bipush (-9), 2) := by decide +kernel
theorem dX9_push_89 : decode cX9_push 89 = .ok (.ireturn, 1) := by decide +kernel
theorem dX9_mat_0 : decode cX9_mat 0 = .ok (.iload_n 1, 1) := by decide +kernel
theorem dX9_mat_1 : decode cX9_mat 1 = .ok (.iconst 0, 1) := by decide +kernel
theorem dX9_mat_2 : decode cX9_mat 2 = .ok (.aload_n 0, 1) := by decide +kernel
theorem dX9_mat_3 : decode cX9_mat 3 = .ok (.getfield 66, 3) := by decide +kernel
theorem dX9_mat_6 : decode cX9_mat 6 = .ok (.invokestatic 69, 3) := by decide +kernel
theorem dX9_mat_9 : decode cX9_mat 9 = .ok (.ifCond .eq 12, 3) := by decide +kernel
theorem dX9_mat_12 : decode cX9_mat 12 = .ok (.iload_n 2, 1) := by decide +kernel
theorem dX9_mat_13 : decode cX9_mat 13 = .ok (.iconst 0, 1) := by decide +kernel
theorem dX9_mat_14 : decode cX9_mat 14 = .ok (.iconst 5, 1) := by decide +kernel
theorem dX9_mat_15 : decode cX9_mat 15 = .ok (.invokestatic 69, 3) := by decide +kernel
theorem dX9_mat_18 : decode cX9_mat 18 = .ok (.ifCond .ne 5, 3) := by decide +kernel
theorem dX9_mat_21 : decode cX9_mat 21 = .ok (.iconst (-1), 1) := by decide +kernel
theorem dX9_mat_22 : decode cX9_mat 22 = .ok (.ireturn, 1) := by decide +kernel
theorem dX9_mat_23 : decode cX9_mat 23 = .ok (.iconst 0, 1) := by decide +kernel
theorem dX9_mat_24 : decode cX9_mat 24 = .ok (.istore_n 3, 1) := by decide +kernel
theorem dX9_mat_25 : decode cX9_mat 25 = .ok (.iload_n 3, 1) := by decide +kernel
theorem dX9_mat_26 : decode cX9_mat 26 = .ok (.aload_n 0, 1) := by decide +kernel
theorem dX9_mat_27 : decode cX9_mat 27 = .ok (.getfield 66, 3) := by decide +kernel
theorem dX9_mat_30 : decode cX9_mat 30 = .ok (.if_icmp .ge 43, 3) := by decide +kernel
theorem dX9_mat_33 : decode cX9_mat 33 = .ok (.aload_n 0, 1) := by decide +kernel
theorem dX9_mat_34 : decode cX9_mat 34 = .ok (.invokevirtual 163, 3) := by decide +kernel
theorem dX9_mat_37 : decode cX9_mat 37 = .ok (.aload_n 0, 1) := by decide +kernel
theorem dX9_mat_38 : decode cX9_mat 38 = .ok (.getfield 7, 3) := by decide +kernel
theorem dX9_mat_41 : decode cX9_mat 41 = .ok (.sipush 159, 3) := by decide +kernel
theorem dX9_mat_44 : decode cX9_mat 44 = .ok (.iload_n 3, 1) := by decide +kernel
theorem dX9_mat_45 : decode cX9_mat 45 = .ok (.iadd, 1) := by decide +kernel
theorem dX9_mat_46 : decode cX9_mat 46 = .ok (.iload_n 2, 1) := by decide +kernel
theorem dX9_mat_47 : decode cX9_mat 47 = .ok (.iastore, 1) := by decide +kernel
theorem dX9_mat_48 : decode cX9_mat 48 = .ok (.aload_n 0, 1) := by decide +kernel
theorem dX9_mat_49 : decode cX9_mat 49 = .ok (.invokevirtual 166, 3) := by decide +kernel
theorem dX9_mat_52 : decode cX9_mat 52 = .ok (.pop, 1) := by decide +kernel
theorem dX9_mat_53 : decode cX9_mat 53 = .ok (.aload_n 0, 1) := by decide +kernel
theorem dX9_mat_54 : decode cX9_mat 54 = .ok (.getfield 7, 3) := by decide +kernel
theorem dX9_mat_57 : decode cX9_mat 57 = .ok (.sipush 156, 3) := by decide +kernel
theorem dX9_mat_60 : decode cX9_mat 60 = .ok (.iaload, 1) := by decide +kernel
theorem dX9_mat_61 : decode cX9_mat 61 = .ok (.iload_n 1, 1) := by decide +kernel
theorem dX9_mat_62 : decode cX9_mat 62 = .ok (.if_icmp .ne 5, 3) := by decide +kernel
theorem dX9_mat_65 : decode cX9_mat 65 = .ok (.iload_n 3, 1) := by decide +kernel
theorem dX9_mat_66 : decode cX9_mat 66 = .ok (.ireturn, 1) := by decide +kernel
theorem dX9_mat_67 : decode cX9_mat 67 = .ok (.iinc 3 1, 3) := by decide +kernel
theorem dX9_mat_70 : decode cX9_mat 70 = .ok (.goto (-45), 3) := by decide +kernel
theorem dX9_mat_73 : decode cX9_mat 73 = .ok (.bipush (-9), 2) := by decide +kernel
theorem dX9_mat_75 : decode cX9_mat 75 = .ok (.ireturn, 1) := by decide +kernel
theorem dX9_odds_0 : decode cX9_odds 0 = .ok (.iload_n 1, 1) := by decide +kernel
theorem dX9_odds_1 : decode cX9_odds 1 = .ok (.iconst 0, 1) := by decide +kernel
theorem dX9_odds_2 : decode cX9_odds 2 = .ok (.bipush 10, 2) := by decide +kernel
theorem dX9_odds_4 : decode cX9_odds 4 = .ok (.invokestatic 69, 3) := by decide +kernel
theorem dX9_odds_7 : decode cX9_odds 7 = .ok (.ifCond .eq 12, 3) := by decide +kernel
theorem dX9_odds_10 : decode cX9_odds 10 = .ok (.iload_n 2, 1) := by decide +kernel
theorem dX9_odds_11 : decode cX9_odds 11 = .ok (.iconst 0, 1) := by decide +kernel
theorem dX9_odds_12 : decode cX9_odds 12 = .ok (.iconst 1, 1) := by decide +kernel
theorem dX9_odds_13 : decode cX9_odds 13 = .ok (.invokestatic 69, 3) := by decide +kernel
theorem dX9_odds_16 : decode cX9_odds 16 = .ok (.ifCond .ne 5, 3) := by decide +kernel
theorem dX9_odds_19 : decode cX9_odds 19 = .ok (.iconst (-1), 1) := by decide +kernel
theorem dX9_odds_20 : decode cX9_odds 20 = .ok (.ireturn, 1) := by decide +kernel
theorem dX9_odds_21 : decode cX9_odds 21 = .ok (.lconst 0, 1) := by decide +kernel
theorem dX9_odds_22 : decode cX9_odds 22 = .ok (.lstore_n 3, 1) := by decide +kernel
theorem dX9_odds_23 : decode cX9_odds 23 = .ok (.lconst 0, 1) := by decide +kernel
theorem dX9_odds_24 : decode cX9_odds 24 = .ok (.lstore 5, 2) := by decide +kernel
theorem dX9_odds_26 : decode cX9_odds 26 = .ok (.iconst 0, 1) := by decide +kernel
theorem dX9_odds_27 : decode cX9_odds 27 = .ok (.istore 7, 2) := by decide +kernel
theorem dX9_odds_29 : decode cX9_odds 29 = .ok (.iload 7, 2) := by decide +kernel
theorem dX9_odds_31 : decode cX9_odds 31 = .ok (.iconst 1, 1) := by decide +kernel
theorem dX9_odds_32 : decode cX9_odds 32 = .ok (.aload_n 0, 1) := by decide +kernel
theorem dX9_odds_33 : decode cX9_odds 33 = .ok (.getfield 66, 3) := by decide +kernel
theorem dX9_odds_36 : decode cX9_odds 36 = .ok (.ishl, 1) := by decide +kernel
theorem dX9_odds_37 : decode cX9_odds 37 = .ok (.if_icmp .ge 169, 3) := by decide +kernel
theorem dX9_odds_40 : decode cX9_odds 40 = .ok (.lconst 1, 1) := by decide +kernel
theorem dX9_odds_41 : decode cX9_odds 41 = .ok (.lstore 8, 2) := by decide +kernel
theorem dX9_odds_43 : decode cX9_odds 43 = .ok (.aload_n 0, 1) := by decide +kernel
theorem dX9_odds_44 : decode cX9_odds 44 = .ok (.invokevirtual 163, 3) := by decide +kernel
theorem dX9_odds_47 : decode cX9_odds 47 = .ok (.iconst 0, 1) := by decide +kernel
theorem dX9_odds_48 : decode cX9_odds 48 = .ok (.istore 10, 2) := by decide +kernel
theorem dX9_odds_50 : decode cX9_odds 50 = .ok (.iload 10, 2) := by decide +kernel
theorem dX9_odds_52 : decode cX9_odds 52 = .ok (.aload_n 0, 1) := by decide +kernel
theorem dX9_odds_53 : decode cX9_odds 53 = .ok (.getfield 66, 3) := by decide +kernel
theorem dX9_odds_56 : decode cX9_odds 56 = .ok (.if_icmp .ge 101, 3) := by decide +kernel
theorem dX9_odds_59 : decode cX9_odds 59 = .ok (.iload 7, 2) := by decide +kernel
theorem dX9_odds_61 : decode cX9_odds 61 = .ok (.iload 10, 2) := by decide +kernel
theorem dX9_odds_63 : decode cX9_odds 63 = .ok (.ishr, 1) := by decide +kernel
theorem dX9_odds_64 : decode cX9_odds 64 = .ok (.iconst 1, 1) := by decide +kernel
theorem dX9_odds_65 : decode cX9_odds 65 = .ok (.iand, 1) := by decide +kernel
theorem dX9_odds_66 : decode cX9_odds 66 = .ok (.iconst 1, 1) := by decide +kernel
theorem dX9_odds_67 : decode cX9_odds 67 = .ok (.if_icmp .ne 7, 3) := by decide +kernel
theorem dX9_odds_70 : decode cX9_odds 70 = .ok (.iconst 1, 1) := by decide +kernel
theorem dX9_odds_71 : decode cX9_odds 71 = .ok (.goto 4, 3) := by decide +kernel
theorem dX9_odds_74 : decode cX9_odds 74 = .ok (.iconst 0, 1) := by decide +kernel
theorem dX9_odds_75 : decode cX9_odds 75 = .ok (.istore 11, 2) := by decide +kernel
theorem dX9_odds_77 : decode cX9_odds 77 = .ok (.lload 8, 2) := by decide +kernel
theorem dX9_odds_79 : decode cX9_odds 79 = .ok (.aload_n 0, 1) := by decide +kernel
theorem dX9_odds_80 : decode cX9_odds 80 = .ok (.getfield 7, 3) := by decide +kernel
theorem dX9_odds_83 : decode cX9_odds 83 = .ok (.iconst 3, 1) := by decide +kernel
theorem dX9_odds_84 : decode cX9_odds 84 = .ok (.iload 10, 2) := by decide +kernel
theorem dX9_odds_86 : decode cX9_odds 86 = .ok (.iadd, 1) := by decide +kernel
theorem dX9_odds_87 : decode cX9_odds 87 = .ok (.iaload, 1) := by decide +kernel
theorem dX9_odds_88 : decode cX9_odds 88 = .ok (.ifCond .ne 16, 3) := by decide +kernel
theorem dX9_odds_91 : decode cX9_odds 91 = .ok (.iload 11, 2) := by decide +kernel
theorem dX9_odds_93 : decode cX9_odds 93 = .ok (.ifCond .eq 7, 3) := by decide +kernel
theorem dX9_odds_96 : decode cX9_odds 96 = .ok (.lconst 0, 1) := by decide +kernel
theorem dX9_odds_97 : decode cX9_odds 97 = .ok (.goto 22, 3) := by decide +kernel
theorem dX9_odds_100 : decode cX9_odds 100 = .ok (.lconst 1, 1) := by decide +kernel
theorem dX9_odds_101 : decode cX9_odds 101 = .ok (.goto 18, 3) := by decide +kernel
theorem dX9_odds_104 : decode cX9_odds 104 = .ok (.iload 11, 2) := by decide +kernel
theorem dX9_odds_106 : decode cX9_odds 106 = .ok (.ifCond .eq 8, 3) := by decide +kernel
theorem dX9_odds_109 : decode cX9_odds 109 = .ok (.iload_n 1, 1) := by decide +kernel
theorem dX9_odds_110 : decode cX9_odds 110 = .ok (.i2l, 1) := by decide +kernel
theorem dX9_odds_111 : decode cX9_odds 111 = .ok (.goto 8, 3) := by decide +kernel
theorem dX9_odds_114 : decode cX9_odds 114 = .ok (.bipush 10, 2) := by decide +kernel
theorem dX9_odds_116 : decode cX9_odds 116 = .ok (.iload_n 1, 1) := by decide +kernel
theorem dX9_odds_117 : decode cX9_odds 117 = .ok (.isub, 1) := by decide +kernel
theorem dX9_odds_118 : decode cX9_odds 118 = .ok (.i2l, 1) := by decide +kernel
theorem dX9_odds_119 : decode cX9_odds 119 = .ok (.lmul, 1) := by decide +kernel
theorem dX9_odds_120 : decode cX9_odds 120 = .ok (.lstore 8, 2) := by decide +kernel
theorem dX9_odds_122 : decode cX9_odds 122 = .ok (.aload_n 0, 1) := by decide +kernel
theorem dX9_odds_123 : decode cX9_odds 123 = .ok (.getfield 7, 3) := by decide +kernel
theorem dX9_odds_126 : decode cX9_odds 126 = .ok (.sipush 159, 3) := by decide +kernel
theorem dX9_odds_129 : decode cX9_odds 129 = .ok (.iload 10, 2) := by decide +kernel
theorem dX9_odds_131 : decode cX9_odds 131 = .ok (.iadd, 1) := by decide +kernel
theorem dX9_odds_132 : decode cX9_odds 132 = .ok (.iload 11, 2) := by decide +kernel
theorem dX9_odds_134 : decode cX9_odds 134 = .ok (.ifCond .eq 7, 3) := by decide +kernel
theorem dX9_odds_137 : decode cX9_odds 137 = .ok (.iconst 0, 1) := by decide +kernel
theorem dX9_odds_138 : decode cX9_odds 138 = .ok (.goto 12, 3) := by decide +kernel
theorem dX9_odds_141 : decode cX9_odds 141 = .ok (.aload_n 0, 1) := by decide +kernel
theorem dX9_odds_142 : decode cX9_odds 142 = .ok (.getfield 7, 3) := by decide +kernel
theorem dX9_odds_145 : decode cX9_odds 145 = .ok (.iconst 3, 1) := by decide +kernel
theorem dX9_odds_146 : decode cX9_odds 146 = .ok (.iload 10, 2) := by decide +kernel
theorem dX9_odds_148 : decode cX9_odds 148 = .ok (.iadd, 1) := by decide +kernel
theorem dX9_odds_149 : decode cX9_odds 149 = .ok (.iaload, 1) := by decide +kernel
theorem dX9_odds_150 : decode cX9_odds 150 = .ok (.iastore, 1) := by decide +kernel
theorem dX9_odds_151 : decode cX9_odds 151 = .ok (.iinc 10 1, 3) := by decide +kernel
theorem dX9_odds_154 : decode cX9_odds 154 = .ok (.goto (-104), 3) := by decide +kernel
theorem dX9_odds_157 : decode cX9_odds 157 = .ok (.lload 8, 2) := by decide +kernel
theorem dX9_odds_159 : decode cX9_odds 159 = .ok (.lconst 0, 1) := by decide +kernel
theorem dX9_odds_160 : decode cX9_odds 160 = .ok (.lcmp, 1) := by decide +kernel
theorem dX9_odds_161 : decode cX9_odds 161 = .ok (.ifCond .le 39, 3) := by decide +kernel
theorem dX9_odds_164 : decode cX9_odds 164 = .ok (.aload_n 0, 1) := by decide +kernel
theorem dX9_odds_165 : decode cX9_odds 165 = .ok (.invokevirtual 166, 3) := by decide +kernel
theorem dX9_odds_168 : decode cX9_odds 168 = .ok (.pop, 1) := by decide +kernel
theorem dX9_odds_169 : decode cX9_odds 169 = .ok (.lload_n 3, 1) := by decide +kernel
theorem dX9_odds_170 : decode cX9_odds 170 = .ok (.aload_n 0, 1) := by decide +kernel
theorem dX9_odds_171 : decode cX9_odds 171 = .ok (.getfield 7, 3) := by decide +kernel
theorem dX9_odds_174 : decode cX9_odds 174 = .ok (.sipush 156, 3) := by decide +kernel
theorem dX9_odds_177 : decode cX9_odds 177 = .ok (.iaload, 1) := by decide +kernel
theorem dX9_odds_178 : decode cX9_odds 178 = .ok (.aload_n 0, 1) := by decide +kernel
theorem dX9_odds_179 : decode cX9_odds 179 = .ok (.getfield 66, 3) := by decide +kernel
theorem dX9_odds_182 : decode cX9_odds 182 = .ok (.if_icmp .ne 8, 3) := by decide +kernel
theorem dX9_odds_185 : decode cX9_odds 185 = .ok (.lload 8, 2) := by decide +kernel
theorem dX9_odds_187 : decode cX9_odds 187 = .ok (.goto 4, 3) := by decide +kernel
theorem dX9_odds_190 : decode cX9_odds 190 = .ok (.lconst 0, 1) := by decide +kernel
theorem dX9_odds_191 : decode cX9_odds 191 = .ok (.ladd, 1) := by decide +kernel
theorem dX9_odds_192 : decode cX9_odds 192 = .ok (.lstore_n 3, 1) := by decide +kernel
theorem dX9_odds_193 : decode cX9_odds 193 = .ok (.lload 5, 2) := by decide +kernel
theorem dX9_odds_195 : decode cX9_odds 195 = .ok (.lload 8, 2) := by decide +kernel
theorem dX9_odds_197 : decode cX9_odds 197 = .ok (.ladd, 1) := by decide +kernel
theorem dX9_odds_198 : decode cX9_odds 198 = .ok (.lstore 5, 2) := by decide +kernel
theorem dX9_odds_200 : decode cX9_odds 200 = .ok (.iinc 7 1, 3) := by decide +kernel
theorem dX9_odds_203 : decode cX9_odds 203 = .ok (.goto (-174), 3) := by decide +kernel
theorem dX9_odds_206 : decode cX9_odds 206 = .ok (.lload_n 3, 1) := by decide +kernel
theorem dX9_odds_207 : decode cX9_odds 207 = .ok (.lstore 7, 2) := by decide +kernel
theorem dX9_odds_209 : decode cX9_odds 209 = .ok (.lload 5, 2) := by decide +kernel
theorem dX9_odds_211 : decode cX9_odds 211 = .ok (.lstore 9, 2) := by decide +kernel
theorem dX9_odds_213 : decode cX9_odds 213 = .ok (.lload 9, 2) := by decide +kernel
theorem dX9_odds_215 : decode cX9_odds 215 = .ok (.lconst 0, 1) := by decide +kernel
theorem dX9_odds_216 : decode cX9_odds 216 = .ok (.lcmp, 1) := by decide +kernel
theorem dX9_odds_217 : decode cX9_odds 217 = .ok (.ifCond .eq 21, 3) := by decide +kernel
theorem dX9_odds_220 : decode cX9_odds 220 = .ok (.lload 7, 2) := by decide +kernel
theorem dX9_odds_222 : decode cX9_odds 222 = .ok (.lload 9, 2) := by decide +kernel
theorem dX9_odds_224 : decode cX9_odds 224 = .ok (.lrem, 1) := by decide +kernel
theorem dX9_odds_225 : decode cX9_odds 225 = .ok (.lstore 11, 2) := by decide +kernel
theorem dX9_odds_227 : decode cX9_odds 227 = .ok (.lload 9, 2) := by decide +kernel
theorem dX9_odds_229 : decode cX9_odds 229 = .ok (.lstore 7, 2) := by decide +kernel
theorem dX9_odds_231 : decode cX9_odds 231 = .ok (.lload 11, 2) := by decide +kernel
theorem dX9_odds_233 : decode cX9_odds 233 = .ok (.lstore 9, 2) := by decide +kernel
theorem dX9_odds_235 : decode cX9_odds 235 = .ok (.goto (-22), 3) := by decide +kernel
theorem dX9_odds_238 : decode cX9_odds 238 = .ok (.iload_n 2, 1) := by decide +kernel
theorem dX9_odds_239 : decode cX9_odds 239 = .ok (.ifCond .ne 10, 3) := by decide +kernel
theorem dX9_odds_242 : decode cX9_odds 242 = .ok (.lload_n 3, 1) := by decide +kernel
theorem dX9_odds_243 : decode cX9_odds 243 = .ok (.lload 7, 2) := by decide +kernel
theorem dX9_odds_245 : decode cX9_odds 245 = .ok (.ldiv, 1) := by decide +kernel
theorem dX9_odds_246 : decode cX9_odds 246 = .ok (.goto 8, 3) := by decide +kernel
theorem dX9_odds_249 : decode cX9_odds 249 = .ok (.lload 5, 2) := by decide +kernel
theorem dX9_odds_251 : decode cX9_odds 251 = .ok (.lload 7, 2) := by decide +kernel
theorem dX9_odds_253 : decode cX9_odds 253 = .ok (.ldiv, 1) := by decide +kernel
theorem dX9_odds_254 : decode cX9_odds 254 = .ok (.l2i, 1) := by decide +kernel
theorem dX9_odds_255 : decode cX9_odds 255 = .ok (.ireturn, 1) := by decide +kernel
theorem dX9_sees_0 : decode cX9_sees 0 = .ok (.aload_n 0, 1) := by decide +kernel
theorem dX9_sees_1 : decode cX9_sees 1 = .ok (.iload_n 1, 1) := by decide +kernel
theorem dX9_sees_2 : decode cX9_sees 2 = .ok (.invokevirtual 122, 3) := by decide +kernel
theorem dX9_sees_5 : decode cX9_sees 5 = .ok (.ifCond .eq 25, 3) := by decide +kernel
theorem dX9_sees_8 : decode cX9_sees 8 = .ok (.iload_n 2, 1) := by decide +kernel
theorem dX9_sees_9 : decode cX9_sees 9 = .ok (.iconst 1, 1) := by decide +kernel
theorem dX9_sees_10 : decode cX9_sees 10 = .ok (.bipush 60, 2) := by decide +kernel
theorem dX9_sees_12 : decode cX9_sees 12 = .ok (.invokestatic 69, 3) := by decide +kernel
theorem dX9_sees_15 : decode cX9_sees 15 = .ok (.ifCond .eq 15, 3) := by decide +kernel
theorem dX9_sees_18 : decode cX9_sees 18 = .ok (.iload_n 3, 1) := by decide +kernel
theorem dX9_sees_19 : decode cX9_sees 19 = .ok (.iconst 0, 1) := by decide +kernel
theorem dX9_sees_20 : decode cX9_sees 20 = .ok (.aload_n 0, 1) := by decide +kernel
theorem dX9_sees_21 : decode cX9_sees 21 = .ok (.getfield 66, 3) := by decide +kernel
theorem dX9_sees_24 : decode cX9_sees 24 = .ok (.invokestatic 69, 3) := by decide +kernel
theorem dX9_sees_27 : decode cX9_sees 27 = .ok (.ifCond .ne 5, 3) := by decide +kernel
theorem dX9_sees_30 : decode cX9_sees 30 = .ok (.iconst (-1), 1) := by decide +kernel
theorem dX9_sees_31 : decode cX9_sees 31 = .ok (.ireturn, 1) := by decide +kernel
theorem dX9_sees_32 : decode cX9_sees 32 = .ok (.aload_n 0, 1) := by decide +kernel
theorem dX9_sees_33 : decode cX9_sees 33 = .ok (.getfield 119, 3) := by decide +kernel
theorem dX9_sees_36 : decode cX9_sees 36 = .ok (.bipush 6, 2) := by decide +kernel
theorem dX9_sees_38 : decode cX9_sees 38 = .ok (.if_icmp .ne 6, 3) := by decide +kernel
theorem dX9_sees_41 : decode cX9_sees 41 = .ok (.bipush (-3), 2) := by decide +kernel
theorem dX9_sees_43 : decode cX9_sees 43 = .ok (.ireturn, 1) := by decide +kernel
theorem dX9_sees_44 : decode cX9_sees 44 = .ok (.aload_n 0, 1) := by decide +kernel
theorem dX9_sees_45 : decode cX9_sees 45 = .ok (.getfield 36, 3) := by decide +kernel
theorem dX9_sees_48 : decode cX9_sees 48 = .ok (.aload_n 0, 1) := by decide +kernel
theorem dX9_sees_49 : decode cX9_sees 49 = .ok (.getfield 119, 3) := by decide +kernel
theorem dX9_sees_52 : decode cX9_sees 52 = .ok (.iload_n 1, 1) := by decide +kernel
theorem dX9_sees_53 : decode cX9_sees 53 = .ok (.iastore, 1) := by decide +kernel
theorem dX9_sees_54 : decode cX9_sees 54 = .ok (.aload_n 0, 1) := by decide +kernel
theorem dX9_sees_55 : decode cX9_sees 55 = .ok (.getfield 39, 3) := by decide +kernel
theorem dX9_sees_58 : decode cX9_sees 58 = .ok (.aload_n 0, 1) := by decide +kernel
theorem dX9_sees_59 : decode cX9_sees 59 = .ok (.getfield 119, 3) := by decide +kernel
theorem dX9_sees_62 : decode cX9_sees 62 = .ok (.iload_n 2, 1) := by decide +kernel
theorem dX9_sees_63 : decode cX9_sees 63 = .ok (.iastore, 1) := by decide +kernel
theorem dX9_sees_64 : decode cX9_sees 64 = .ok (.aload_n 0, 1) := by decide +kernel
theorem dX9_sees_65 : decode cX9_sees 65 = .ok (.getfield 42, 3) := by decide +kernel
theorem dX9_sees_68 : decode cX9_sees 68 = .ok (.aload_n 0, 1) := by decide +kernel
theorem dX9_sees_69 : decode cX9_sees 69 = .ok (.getfield 119, 3) := by decide +kernel
theorem dX9_sees_72 : decode cX9_sees 72 = .ok (.iload_n 3, 1) := by decide +kernel
theorem dX9_sees_73 : decode cX9_sees 73 = .ok (.iastore, 1) := by decide +kernel
theorem dX9_sees_74 : decode cX9_sees 74 = .ok (.aload_n 0, 1) := by decide +kernel
theorem dX9_sees_75 : decode cX9_sees 75 = .ok (.dup, 1) := by decide +kernel
theorem dX9_sees_76 : decode cX9_sees 76 = .ok (.getfield 119, 3) := by decide +kernel
theorem dX9_sees_79 : decode cX9_sees 79 = .ok (.iconst 1, 1) := by decide +kernel
theorem dX9_sees_80 : decode cX9_sees 80 = .ok (.iadd, 1) := by decide +kernel
theorem dX9_sees_81 : decode cX9_sees 81 = .ok (.putfield 119, 3) := by decide +kernel
theorem dX9_sees_84 : decode cX9_sees 84 = .ok (.aload_n 0, 1) := by decide +kernel
theorem dX9_sees_85 : decode cX9_sees 85 = .ok (.getfield 119, 3) := by decide +kernel
theorem dX9_sees_88 : decode cX9_sees 88 = .ok (.ireturn, 1) := by decide +kernel
theorem dX9_forget_0 : decode cX9_forget 0 = .ok (.aload_n 0, 1) := by decide +kernel
theorem dX9_forget_1 : decode cX9_forget 1 = .ok (.getfield 119, 3) := by decide +kernel
theorem dX9_forget_4 : decode cX9_forget 4 = .ok (.istore_n 1, 1) := by decide +kernel
theorem dX9_forget_5 : decode cX9_forget 5 = .ok (.aload_n 0, 1) := by decide +kernel
theorem dX9_forget_6 : decode cX9_forget 6 = .ok (.iconst 0, 1) := by decide +kernel
theorem dX9_forget_7 : decode cX9_forget 7 = .ok (.putfield 119, 3) := by decide +kernel
theorem dX9_forget_10 : decode cX9_forget 10 = .ok (.iload_n 1, 1) := by decide +kernel
theorem dX9_forget_11 : decode cX9_forget 11 = .ok (.ireturn, 1) := by decide +kernel
theorem dX9_restsAt_0 : decode cX9_restsAt 0 = .ok (.aload_n 0, 1) := by decide +kernel
theorem dX9_restsAt_1 : decode cX9_restsAt 1 = .ok (.iconst 0, 1) := by decide +kernel
theorem dX9_restsAt_2 : decode cX9_restsAt 2 = .ok (.sipush 156, 3) := by decide +kernel
theorem dX9_restsAt_5 : decode cX9_restsAt 5 = .ok (.invokevirtual 145, 3) := by decide +kernel
theorem dX9_restsAt_8 : decode cX9_restsAt 8 = .ok (.aload_n 0, 1) := by decide +kernel
theorem dX9_restsAt_9 : decode cX9_restsAt 9 = .ok (.iload_n 1, 1) := by decide +kernel
theorem dX9_restsAt_10 : decode cX9_restsAt 10 = .ok (.putfield 125, 3) := by decide +kernel
theorem dX9_restsAt_13 : decode cX9_restsAt 13 = .ok (.aload_n 0, 1) := by decide +kernel
theorem dX9_restsAt_14 : decode cX9_restsAt 14 = .ok (.iload_n 2, 1) := by decide +kernel
theorem dX9_restsAt_15 : decode cX9_restsAt 15 = .ok (.putfield 128, 3) := by decide +kernel
theorem dX9_restsAt_18 : decode cX9_restsAt 18 = .ok (.aload_n 0, 1) := by decide +kernel
theorem dX9_restsAt_19 : decode cX9_restsAt 19 = .ok (.getfield 7, 3) := by decide +kernel
theorem dX9_restsAt_22 : decode cX9_restsAt 22 = .ok (.sipush 156, 3) := by decide +kernel
theorem dX9_restsAt_25 : decode cX9_restsAt 25 = .ok (.iload_n 3, 1) := by decide +kernel
theorem dX9_restsAt_26 : decode cX9_restsAt 26 = .ok (.iastore, 1) := by decide +kernel
theorem dX9_restsAt_27 : decode cX9_restsAt 27 = .ok (.aload_n 0, 1) := by decide +kernel
theorem dX9_restsAt_28 : decode cX9_restsAt 28 = .ok (.getfield 7, 3) := by decide +kernel
theorem dX9_restsAt_31 : decode cX9_restsAt 31 = .ok (.sipush 157, 3) := by decide +kernel
theorem dX9_restsAt_34 : decode cX9_restsAt 34 = .ok (.iload 4, 2) := by decide +kernel
theorem dX9_restsAt_36 : decode cX9_restsAt 36 = .ok (.iastore, 1) := by decide +kernel
theorem dX9_restsAt_37 : decode cX9_restsAt 37 = .ok (.aload_n 0, 1) := by decide +kernel
theorem dX9_restsAt_38 : decode cX9_restsAt 38 = .ok (.invokevirtual 166, 3) := by decide +kernel
theorem dX9_restsAt_41 : decode cX9_restsAt 41 = .ok (.pop, 1) := by decide +kernel
theorem dX9_restsAt_42 : decode cX9_restsAt 42 = .ok (.aload_n 0, 1) := by decide +kernel
theorem dX9_restsAt_43 : decode cX9_restsAt 43 = .ok (.getfield 7, 3) := by decide +kernel
theorem dX9_restsAt_46 : decode cX9_restsAt 46 = .ok (.sipush 156, 3) := by decide +kernel
theorem dX9_restsAt_49 : decode cX9_restsAt 49 = .ok (.iaload, 1) := by decide +kernel
theorem dX9_restsAt_50 : decode cX9_restsAt 50 = .ok (.ireturn, 1) := by decide +kernel
theorem dX9_isWay_0 : decode cX9_isWay 0 = .ok (.iconst 1, 1) := by decide +kernel
theorem dX9_isWay_1 : decode cX9_isWay 1 = .ok (.istore_n 3, 1) := by decide +kernel
theorem dX9_isWay_2 : decode cX9_isWay 2 = .ok (.iconst 0, 1) := by decide +kernel
theorem dX9_isWay_3 : decode cX9_isWay 3 = .ok (.istore 4, 2) := by decide +kernel
theorem dX9_isWay_5 : decode cX9_isWay 5 = .ok (.iload 4, 2) := by decide +kernel
theorem dX9_isWay_7 : decode cX9_isWay 7 = .ok (.aload_n 0, 1) := by decide +kernel
theorem dX9_isWay_8 : decode cX9_isWay 8 = .ok (.getfield 119, 3) := by decide +kernel
theorem dX9_isWay_11 : decode cX9_isWay 11 = .ok (.if_icmp .ge 49, 3) := by decide +kernel
theorem dX9_isWay_14 : decode cX9_isWay 14 = .ok (.iload_n 3, 1) := by decide +kernel
theorem dX9_isWay_15 : decode cX9_isWay 15 = .ok (.ifCond .eq 37, 3) := by decide +kernel
theorem dX9_isWay_18 : decode cX9_isWay 18 = .ok (.aload_n 0, 1) := by decide +kernel
theorem dX9_isWay_19 : decode cX9_isWay 19 = .ok (.iload_n 1, 1) := by decide +kernel
theorem dX9_isWay_20 : decode cX9_isWay 20 = .ok (.iload_n 2, 1) := by decide +kernel
theorem dX9_isWay_21 : decode cX9_isWay 21 = .ok (.aload_n 0, 1) := by decide +kernel
theorem dX9_isWay_22 : decode cX9_isWay 22 = .ok (.getfield 36, 3) := by decide +kernel
theorem dX9_isWay_25 : decode cX9_isWay 25 = .ok (.iload 4, 2) := by decide +kernel
theorem dX9_isWay_27 : decode cX9_isWay 27 = .ok (.iaload, 1) := by decide +kernel
theorem dX9_isWay_28 : decode cX9_isWay 28 = .ok (.aload_n 0, 1) := by decide +kernel
theorem dX9_isWay_29 : decode cX9_isWay 29 = .ok (.getfield 39, 3) := by decide +kernel
theorem dX9_isWay_32 : decode cX9_isWay 32 = .ok (.iload 4, 2) := by decide +kernel
theorem dX9_isWay_34 : decode cX9_isWay 34 = .ok (.iaload, 1) := by decide +kernel
theorem dX9_isWay_35 : decode cX9_isWay 35 = .ok (.invokevirtual 178, 3) := by decide +kernel
theorem dX9_isWay_38 : decode cX9_isWay 38 = .ok (.aload_n 0, 1) := by decide +kernel
theorem dX9_isWay_39 : decode cX9_isWay 39 = .ok (.getfield 42, 3) := by decide +kernel
theorem dX9_isWay_42 : decode cX9_isWay 42 = .ok (.iload 4, 2) := by decide +kernel
theorem dX9_isWay_44 : decode cX9_isWay 44 = .ok (.iaload, 1) := by decide +kernel
theorem dX9_isWay_45 : decode cX9_isWay 45 = .ok (.if_icmp .ne 7, 3) := by decide +kernel
theorem dX9_isWay_48 : decode cX9_isWay 48 = .ok (.iconst 1, 1) := by decide +kernel
theorem dX9_isWay_49 : decode cX9_isWay 49 = .ok (.goto 4, 3) := by decide +kernel
theorem dX9_isWay_52 : decode cX9_isWay 52 = .ok (.iconst 0, 1) := by decide +kernel
theorem dX9_isWay_53 : decode cX9_isWay 53 = .ok (.istore_n 3, 1) := by decide +kernel
theorem dX9_isWay_54 : decode cX9_isWay 54 = .ok (.iinc 4 1, 3) := by decide +kernel
theorem dX9_isWay_57 : decode cX9_isWay 57 = .ok (.goto (-52), 3) := by decide +kernel
theorem dX9_isWay_60 : decode cX9_isWay 60 = .ok (.iload_n 3, 1) := by decide +kernel
theorem dX9_isWay_61 : decode cX9_isWay 61 = .ok (.ireturn, 1) := by decide +kernel
theorem dX9_layWays_0 : decode cX9_layWays 0 = .ok (.aload_n 0, 1) := by decide +kernel
theorem dX9_layWays_1 : decode cX9_layWays 1 = .ok (.iconst 0, 1) := by decide +kernel
theorem dX9_layWays_2 : decode cX9_layWays 2 = .ok (.putfield 182, 3) := by decide +kernel
theorem dX9_layWays_5 : decode cX9_layWays 5 = .ok (.iconst 0, 1) := by decide +kernel
theorem dX9_layWays_6 : decode cX9_layWays 6 = .ok (.istore_n 1, 1) := by decide +kernel
theorem dX9_layWays_7 : decode cX9_layWays 7 = .ok (.iload_n 1, 1) := by decide +kernel
theorem dX9_layWays_8 : decode cX9_layWays 8 = .ok (.bipush 36, 2) := by decide +kernel
theorem dX9_layWays_10 : decode cX9_layWays 10 = .ok (.if_icmp .ge 55, 3) := by decide +kernel
theorem dX9_layWays_13 : decode cX9_layWays 13 = .ok (.aload_n 0, 1) := by decide +kernel
theorem dX9_layWays_14 : decode cX9_layWays 14 = .ok (.iconst 1, 1) := by decide +kernel
theorem dX9_layWays_15 : decode cX9_layWays 15 = .ok (.iload_n 1, 1) := by decide +kernel
theorem dX9_layWays_16 : decode cX9_layWays 16 = .ok (.iconst 4, 1) := by decide +kernel
theorem dX9_layWays_17 : decode cX9_layWays 17 = .ok (.idiv, 1) := by decide +kernel
theorem dX9_layWays_18 : decode cX9_layWays 18 = .ok (.iadd, 1) := by decide +kernel
theorem dX9_layWays_19 : decode cX9_layWays 19 = .ok (.iload_n 1, 1) := by decide +kernel
theorem dX9_layWays_20 : decode cX9_layWays 20 = .ok (.iconst 4, 1) := by decide +kernel
theorem dX9_layWays_21 : decode cX9_layWays 21 = .ok (.irem, 1) := by decide +kernel
theorem dX9_layWays_22 : decode cX9_layWays 22 = .ok (.invokevirtual 185, 3) := by decide +kernel
theorem dX9_layWays_25 : decode cX9_layWays 25 = .ok (.ifCond .eq 34, 3) := by decide +kernel
theorem dX9_layWays_28 : decode cX9_layWays 28 = .ok (.aload_n 0, 1) := by decide +kernel
theorem dX9_layWays_29 : decode cX9_layWays 29 = .ok (.getfield 60, 3) := by decide +kernel
theorem dX9_layWays_32 : decode cX9_layWays 32 = .ok (.aload_n 0, 1) := by decide +kernel
theorem dX9_layWays_33 : decode cX9_layWays 33 = .ok (.getfield 182, 3) := by decide +kernel
theorem dX9_layWays_36 : decode cX9_layWays 36 = .ok (.bipush 10, 2) := by decide +kernel
theorem dX9_layWays_38 : decode cX9_layWays 38 = .ok (.iconst 1, 1) := by decide +kernel
theorem dX9_layWays_39 : decode cX9_layWays 39 = .ok (.iload_n 1, 1) := by decide +kernel
theorem dX9_layWays_40 : decode cX9_layWays 40 = .ok (.iconst 4, 1) := by decide +kernel
theorem dX9_layWays_41 : decode cX9_layWays 41 = .ok (.idiv, 1) := by decide +kernel
theorem dX9_layWays_42 : decode cX9_layWays 42 = .ok (.iadd, 1) := by decide +kernel
theorem dX9_layWays_43 : decode cX9_layWays 43 = .ok (.imul, 1) := by decide +kernel
theorem dX9_layWays_44 : decode cX9_layWays 44 = .ok (.iload_n 1, 1) := by decide +kernel
theorem dX9_layWays_45 : decode cX9_layWays 45 = .ok (.iconst 4, 1) := by decide +kernel
theorem dX9_layWays_46 : decode cX9_layWays 46 = .ok (.irem, 1) := by decide +kernel
theorem dX9_layWays_47 : decode cX9_layWays 47 = .ok (.iadd, 1) := by decide +kernel
theorem dX9_layWays_48 : decode cX9_layWays 48 = .ok (.iastore, 1) := by decide +kernel
theorem dX9_layWays_49 : decode cX9_layWays 49 = .ok (.aload_n 0, 1) := by decide +kernel
theorem dX9_layWays_50 : decode cX9_layWays 50 = .ok (.dup, 1) := by decide +kernel
theorem dX9_layWays_51 : decode cX9_layWays 51 = .ok (.getfield 182, 3) := by decide +kernel
theorem dX9_layWays_54 : decode cX9_layWays 54 = .ok (.iconst 1, 1) := by decide +kernel
theorem dX9_layWays_55 : decode cX9_layWays 55 = .ok (.iadd, 1) := by decide +kernel
theorem dX9_layWays_56 : decode cX9_layWays 56 = .ok (.putfield 182, 3) := by decide +kernel
theorem dX9_layWays_59 : decode cX9_layWays 59 = .ok (.iinc 1 1, 3) := by decide +kernel
theorem dX9_layWays_62 : decode cX9_layWays 62 = .ok (.goto (-55), 3) := by decide +kernel
theorem dX9_layWays_65 : decode cX9_layWays 65 = .ok (.return_, 1) := by decide +kernel
theorem dX9_ways_0 : decode cX9_ways 0 = .ok (.iload_n 1, 1) := by decide +kernel
theorem dX9_ways_1 : decode cX9_ways 1 = .ok (.iconst 0, 1) := by decide +kernel
theorem dX9_ways_2 : decode cX9_ways 2 = .ok (.iconst 1, 1) := by decide +kernel
theorem dX9_ways_3 : decode cX9_ways 3 = .ok (.invokestatic 69, 3) := by decide +kernel
theorem dX9_ways_6 : decode cX9_ways 6 = .ok (.ifCond .ne 5, 3) := by decide +kernel
theorem dX9_ways_9 : decode cX9_ways 9 = .ok (.iconst (-1), 1) := by decide +kernel
theorem dX9_ways_10 : decode cX9_ways 10 = .ok (.ireturn, 1) := by decide +kernel
theorem dX9_ways_11 : decode cX9_ways 11 = .ok (.aload_n 0, 1) := by decide +kernel
theorem dX9_ways_12 : decode cX9_ways 12 = .ok (.invokevirtual 188, 3) := by decide +kernel
theorem dX9_ways_15 : decode cX9_ways 15 = .ok (.iload_n 1, 1) := by decide +kernel
theorem dX9_ways_16 : decode cX9_ways 16 = .ok (.ifCond .ne 10, 3) := by decide +kernel
theorem dX9_ways_19 : decode cX9_ways 19 = .ok (.aload_n 0, 1) := by decide +kernel
theorem dX9_ways_20 : decode cX9_ways 20 = .ok (.getfield 182, 3) := by decide +kernel
theorem dX9_ways_23 : decode cX9_ways 23 = .ok (.goto 21, 3) := by decide +kernel
theorem dX9_ways_26 : decode cX9_ways 26 = .ok (.aload_n 0, 1) := by decide +kernel
theorem dX9_ways_27 : decode cX9_ways 27 = .ok (.getfield 182, 3) := by decide +kernel
theorem dX9_ways_30 : decode cX9_ways 30 = .ok (.ifCond .ne 8, 3) := by decide +kernel
theorem dX9_ways_33 : decode cX9_ways 33 = .ok (.bipush (-9), 2) := by decide +kernel
theorem dX9_ways_35 : decode cX9_ways 35 = .ok (.goto 9, 3) := by decide +kernel
theorem dX9_ways_38 : decode cX9_ways 38 = .ok (.aload_n 0, 1) := by decide +kernel
theorem dX9_ways_39 : decode cX9_ways 39 = .ok (.getfield 60, 3) := by decide +kernel
theorem dX9_ways_42 : decode cX9_ways 42 = .ok (.iconst 0, 1) := by decide +kernel
theorem dX9_ways_43 : decode cX9_ways 43 = .ok (.iaload, 1) := by decide +kernel
theorem dX9_ways_44 : decode cX9_ways 44 = .ok (.ireturn, 1) := by decide +kernel
theorem dX9_next_0 : decode cX9_next 0 = .ok (.aload_n 0, 1) := by decide +kernel
theorem dX9_next_1 : decode cX9_next 1 = .ok (.iload_n 1, 1) := by decide +kernel
theorem dX9_next_2 : decode cX9_next 2 = .ok (.invokevirtual 122, 3) := by decide +kernel
theorem dX9_next_5 : decode cX9_next 5 = .ok (.ifCond .ne 5, 3) := by decide +kernel
theorem dX9_next_8 : decode cX9_next 8 = .ok (.iconst (-1), 1) := by decide +kernel
theorem dX9_next_9 : decode cX9_next 9 = .ok (.ireturn, 1) := by decide +kernel
theorem dX9_next_10 : decode cX9_next 10 = .ok (.aload_n 0, 1) := by decide +kernel
theorem dX9_next_11 : decode cX9_next 11 = .ok (.invokevirtual 188, 3) := by decide +kernel
theorem dX9_next_14 : decode cX9_next 14 = .ok (.bipush (-9), 2) := by decide +kernel
theorem dX9_next_16 : decode cX9_next 16 = .ok (.istore_n 2, 1) := by decide +kernel
theorem dX9_next_17 : decode cX9_next 17 = .ok (.ldc 152, 2) := by decide +kernel
theorem dX9_next_19 : decode cX9_next 19 = .ok (.istore_n 3, 1) := by decide +kernel
theorem dX9_next_20 : decode cX9_next 20 = .ok (.iconst 1, 1) := by decide +kernel
theorem dX9_next_21 : decode cX9_next 21 = .ok (.istore 4, 2) := by decide +kernel
theorem dX9_next_23 : decode cX9_next 23 = .ok (.iload 4, 2) := by decide +kernel
theorem dX9_next_25 : decode cX9_next 25 = .ok (.bipush 61, 2) := by decide +kernel
theorem dX9_next_27 : decode cX9_next 27 = .ok (.if_icmp .ge 156, 3) := by decide +kernel
theorem dX9_next_30 : decode cX9_next 30 = .ok (.aload_n 0, 1) := by decide +kernel
theorem dX9_next_31 : decode cX9_next 31 = .ok (.getfield 182, 3) := by decide +kernel
theorem dX9_next_34 : decode cX9_next 34 = .ok (.iconst 1, 1) := by decide +kernel
theorem dX9_next_35 : decode cX9_next 35 = .ok (.if_icmp .le 148, 3) := by decide +kernel
theorem dX9_next_38 : decode cX9_next 38 = .ok (.iconst 0, 1) := by decide +kernel
theorem dX9_next_39 : decode cX9_next 39 = .ok (.istore 5, 2) := by decide +kernel
theorem dX9_next_41 : decode cX9_next 41 = .ok (.iconst 0, 1) := by decide +kernel
theorem dX9_next_42 : decode cX9_next 42 = .ok (.istore 6, 2) := by decide +kernel
theorem dX9_next_44 : decode cX9_next 44 = .ok (.iload 6, 2) := by decide +kernel
theorem dX9_next_46 : decode cX9_next 46 = .ok (.aload_n 0, 1) := by decide +kernel
theorem dX9_next_47 : decode cX9_next 47 = .ok (.getfield 66, 3) := by decide +kernel
theorem dX9_next_50 : decode cX9_next 50 = .ok (.if_icmp .gt 17, 3) := by decide +kernel
theorem dX9_next_53 : decode cX9_next 53 = .ok (.aload_n 0, 1) := by decide +kernel
theorem dX9_next_54 : decode cX9_next 54 = .ok (.getfield 63, 3) := by decide +kernel
theorem dX9_next_57 : decode cX9_next 57 = .ok (.iload 6, 2) := by decide +kernel
theorem dX9_next_59 : decode cX9_next 59 = .ok (.iconst 0, 1) := by decide +kernel
theorem dX9_next_60 : decode cX9_next 60 = .ok (.iastore, 1) := by decide +kernel
theorem dX9_next_61 : decode cX9_next 61 = .ok (.iinc 6 1, 3) := by decide +kernel
theorem dX9_next_64 : decode cX9_next 64 = .ok (.goto (-20), 3) := by decide +kernel
theorem dX9_next_67 : decode cX9_next 67 = .ok (.iconst 0, 1) := by decide +kernel
theorem dX9_next_68 : decode cX9_next 68 = .ok (.istore 6, 2) := by decide +kernel
theorem dX9_next_70 : decode cX9_next 70 = .ok (.iload 6, 2) := by decide +kernel
theorem dX9_next_72 : decode cX9_next 72 = .ok (.aload_n 0, 1) := by decide +kernel
theorem dX9_next_73 : decode cX9_next 73 = .ok (.getfield 182, 3) := by decide +kernel
theorem dX9_next_76 : decode cX9_next 76 = .ok (.if_icmp .ge 75, 3) := by decide +kernel
theorem dX9_next_79 : decode cX9_next 79 = .ok (.aload_n 0, 1) := by decide +kernel
theorem dX9_next_80 : decode cX9_next 80 = .ok (.aload_n 0, 1) := by decide +kernel
theorem dX9_next_81 : decode cX9_next 81 = .ok (.getfield 60, 3) := by decide +kernel
theorem dX9_next_84 : decode cX9_next 84 = .ok (.iload 6, 2) := by decide +kernel
theorem dX9_next_86 : decode cX9_next 86 = .ok (.iaload, 1) := by decide +kernel
theorem dX9_next_87 : decode cX9_next 87 = .ok (.bipush 10, 2) := by decide +kernel
theorem dX9_next_89 : decode cX9_next 89 = .ok (.idiv, 1) := by decide +kernel
theorem dX9_next_90 : decode cX9_next 90 = .ok (.aload_n 0, 1) := by decide +kernel
theorem dX9_next_91 : decode cX9_next 91 = .ok (.getfield 60, 3) := by decide +kernel
theorem dX9_next_94 : decode cX9_next 94 = .ok (.iload 6, 2) := by decide +kernel
theorem dX9_next_96 : decode cX9_next 96 = .ok (.iaload, 1) := by decide +kernel
theorem dX9_next_97 : decode cX9_next 97 = .ok (.bipush 10, 2) := by decide +kernel
theorem dX9_next_99 : decode cX9_next 99 = .ok (.irem, 1) := by decide +kernel
theorem dX9_next_100 : decode cX9_next 100 = .ok (.iload_n 1, 1) := by decide +kernel
theorem dX9_next_101 : decode cX9_next 101 = .ok (.iload 4, 2) := by decide +kernel
theorem dX9_next_103 : decode cX9_next 103 = .ok (.invokevirtual 178, 3) := by decide +kernel
theorem dX9_next_106 : decode cX9_next 106 = .ok (.istore 7, 2) := by decide +kernel
theorem dX9_next_108 : decode cX9_next 108 = .ok (.aload_n 0, 1) := by decide +kernel
theorem dX9_next_109 : decode cX9_next 109 = .ok (.getfield 63, 3) := by decide +kernel
theorem dX9_next_112 : decode cX9_next 112 = .ok (.iload 7, 2) := by decide +kernel
theorem dX9_next_114 : decode cX9_next 114 = .ok (.dup2, 1) := by decide +kernel
theorem dX9_next_115 : decode cX9_next 115 = .ok (.iaload, 1) := by decide +kernel
theorem dX9_next_116 : decode cX9_next 116 = .ok (.iconst 1, 1) := by decide +kernel
theorem dX9_next_117 : decode cX9_next 117 = .ok (.iadd, 1) := by decide +kernel
theorem dX9_next_118 : decode cX9_next 118 = .ok (.iastore, 1) := by decide +kernel
theorem dX9_next_119 : decode cX9_next 119 = .ok (.aload_n 0, 1) := by decide +kernel
theorem dX9_next_120 : decode cX9_next 120 = .ok (.getfield 63, 3) := by decide +kernel
theorem dX9_next_123 : decode cX9_next 123 = .ok (.iload 7, 2) := by decide +kernel
theorem dX9_next_125 : decode cX9_next 125 = .ok (.iaload, 1) := by decide +kernel
theorem dX9_next_126 : decode cX9_next 126 = .ok (.iload 5, 2) := by decide +kernel
theorem dX9_next_128 : decode cX9_next 128 = .ok (.if_icmp .le 13, 3) := by decide +kernel
theorem dX9_next_131 : decode cX9_next 131 = .ok (.aload_n 0, 1) := by decide +kernel
theorem dX9_next_132 : decode cX9_next 132 = .ok (.getfield 63, 3) := by decide +kernel
theorem dX9_next_135 : decode cX9_next 135 = .ok (.iload 7, 2) := by decide +kernel
theorem dX9_next_137 : decode cX9_next 137 = .ok (.iaload, 1) := by decide +kernel
theorem dX9_next_138 : decode cX9_next 138 = .ok (.goto 5, 3) := by decide +kernel
theorem dX9_next_141 : decode cX9_next 141 = .ok (.iload 5, 2) := by decide +kernel
theorem dX9_next_143 : decode cX9_next 143 = .ok (.istore 5, 2) := by decide +kernel
theorem dX9_next_145 : decode cX9_next 145 = .ok (.iinc 6 1, 3) := by decide +kernel
theorem dX9_next_148 : decode cX9_next 148 = .ok (.goto (-78), 3) := by decide +kernel
theorem dX9_next_151 : decode cX9_next 151 = .ok (.iload 5, 2) := by decide +kernel
theorem dX9_next_153 : decode cX9_next 153 = .ok (.iload_n 3, 1) := by decide +kernel
theorem dX9_next_154 : decode cX9_next 154 = .ok (.if_icmp .ge 8, 3) := by decide +kernel
theorem dX9_next_157 : decode cX9_next 157 = .ok (.iload 4, 2) := by decide +kernel
theorem dX9_next_159 : decode cX9_next 159 = .ok (.goto 4, 3) := by decide +kernel
theorem dX9_next_162 : decode cX9_next 162 = .ok (.iload_n 2, 1) := by decide +kernel
theorem dX9_next_163 : decode cX9_next 163 = .ok (.istore_n 2, 1) := by decide +kernel
theorem dX9_next_164 : decode cX9_next 164 = .ok (.iload 5, 2) := by decide +kernel
theorem dX9_next_166 : decode cX9_next 166 = .ok (.iload_n 3, 1) := by decide +kernel
theorem dX9_next_167 : decode cX9_next 167 = .ok (.if_icmp .ge 8, 3) := by decide +kernel
theorem dX9_next_170 : decode cX9_next 170 = .ok (.iload 5, 2) := by decide +kernel
theorem dX9_next_172 : decode cX9_next 172 = .ok (.goto 4, 3) := by decide +kernel
theorem dX9_next_175 : decode cX9_next 175 = .ok (.iload_n 3, 1) := by decide +kernel
theorem dX9_next_176 : decode cX9_next 176 = .ok (.istore_n 3, 1) := by decide +kernel
theorem dX9_next_177 : decode cX9_next 177 = .ok (.iinc 4 1, 3) := by decide +kernel
theorem dX9_next_180 : decode cX9_next 180 = .ok (.goto (-157), 3) := by decide +kernel
theorem dX9_next_183 : decode cX9_next 183 = .ok (.iload_n 2, 1) := by decide +kernel
theorem dX9_next_184 : decode cX9_next 184 = .ok (.ireturn, 1) := by decide +kernel
theorem dX9_coilRate_0 : decode cX9_coilRate 0 = .ok (.aload_n 0, 1) := by decide +kernel
theorem dX9_coilRate_1 : decode cX9_coilRate 1 = .ok (.dup, 1) := by decide +kernel
theorem dX9_coilRate_2 : decode cX9_coilRate 2 = .ok (.getfield 191, 3) := by decide +kernel
theorem dX9_coilRate_5 : decode cX9_coilRate 5 = .ok (.lconst 1, 1) := by decide +kernel
theorem dX9_coilRate_6 : decode cX9_coilRate 6 = .ok (.ladd, 1) := by decide +kernel
theorem dX9_coilRate_7 : decode cX9_coilRate 7 = .ok (.putfield 191, 3) := by decide +kernel
theorem dX9_coilRate_10 : decode cX9_coilRate 10 = .ok (.aload_n 0, 1) := by decide +kernel
theorem dX9_coilRate_11 : decode cX9_coilRate 11 = .ok (.getfield 23, 3) := by decide +kernel
theorem dX9_coilRate_14 : decode cX9_coilRate 14 = .ok (.iload_n 1, 1) := by decide +kernel
theorem dX9_coilRate_15 : decode cX9_coilRate 15 = .ok (.iaload, 1) := by decide +kernel
theorem dX9_coilRate_16 : decode cX9_coilRate 16 = .ok (.ireturn, 1) := by decide +kernel
theorem dX9_brassRate_0 : decode cX9_brassRate 0 = .ok (.aload_n 0, 1) := by decide +kernel
theorem dX9_brassRate_1 : decode cX9_brassRate 1 = .ok (.dup, 1) := by decide +kernel
theorem dX9_brassRate_2 : decode cX9_brassRate 2 = .ok (.getfield 191, 3) := by decide +kernel
theorem dX9_brassRate_5 : decode cX9_brassRate 5 = .ok (.ldc2_w 195, 3) := by decide +kernel
theorem dX9_brassRate_8 : decode cX9_brassRate 8 = .ok (.ladd, 1) := by decide +kernel
theorem dX9_brassRate_9 : decode cX9_brassRate 9 = .ok (.putfield 191, 3) := by decide +kernel
theorem dX9_brassRate_12 : decode cX9_brassRate 12 = .ok (.aload_n 0, 1) := by decide +kernel
theorem dX9_brassRate_13 : decode cX9_brassRate 13 = .ok (.iload_n 1, 1) := by decide +kernel
theorem dX9_brassRate_14 : decode cX9_brassRate 14 = .ok (.invokevirtual 197, 3) := by decide +kernel
theorem dX9_brassRate_17 : decode cX9_brassRate 17 = .ok (.aload_n 0, 1) := by decide +kernel
theorem dX9_brassRate_18 : decode cX9_brassRate 18 = .ok (.getfield 26, 3) := by decide +kernel
theorem dX9_brassRate_21 : decode cX9_brassRate 21 = .ok (.iload_n 1, 1) := by decide +kernel
theorem dX9_brassRate_22 : decode cX9_brassRate 22 = .ok (.iaload, 1) := by decide +kernel
theorem dX9_brassRate_23 : decode cX9_brassRate 23 = .ok (.iadd, 1) := by decide +kernel
theorem dX9_brassRate_24 : decode cX9_brassRate 24 = .ok (.ireturn, 1) := by decide +kernel
theorem dX9_paperRate_0 : decode cX9_paperRate 0 = .ok (.aload_n 0, 1) := by decide +kernel
theorem dX9_paperRate_1 : decode cX9_paperRate 1 = .ok (.dup, 1) := by decide +kernel
theorem dX9_paperRate_2 : decode cX9_paperRate 2 = .ok (.getfield 191, 3) := by decide +kernel
theorem dX9_paperRate_5 : decode cX9_paperRate 5 = .ok (.ldc2_w 200, 3) := by decide +kernel
theorem dX9_paperRate_8 : decode cX9_paperRate 8 = .ok (.ladd, 1) := by decide +kernel
theorem dX9_paperRate_9 : decode cX9_paperRate 9 = .ok (.putfield 191, 3) := by decide +kernel
theorem dX9_paperRate_12 : decode cX9_paperRate 12 = .ok (.aload_n 0, 1) := by decide +kernel
theorem dX9_paperRate_13 : decode cX9_paperRate 13 = .ok (.iload_n 1, 1) := by decide +kernel
theorem dX9_paperRate_14 : decode cX9_paperRate 14 = .ok (.invokevirtual 197, 3) := by decide +kernel
theorem dX9_paperRate_17 : decode cX9_paperRate 17 = .ok (.iconst 2, 1) := by decide +kernel
theorem dX9_paperRate_18 : decode cX9_paperRate 18 = .ok (.aload_n 0, 1) := by decide +kernel
theorem dX9_paperRate_19 : decode cX9_paperRate 19 = .ok (.getfield 7, 3) := by decide +kernel
theorem dX9_paperRate_22 : decode cX9_paperRate 22 = .ok (.iconst 3, 1) := by decide +kernel
theorem dX9_paperRate_23 : decode cX9_paperRate 23 = .ok (.iload_n 1, 1) := by decide +kernel
theorem dX9_paperRate_24 : decode cX9_paperRate 24 = .ok (.iadd, 1) := by decide +kernel
theorem dX9_paperRate_25 : decode cX9_paperRate 25 = .ok (.iaload, 1) := by decide +kernel
theorem dX9_paperRate_26 : decode cX9_paperRate 26 = .ok (.imul, 1) := by decide +kernel
theorem dX9_paperRate_27 : decode cX9_paperRate 27 = .ok (.isub, 1) := by decide +kernel
theorem dX9_paperRate_28 : decode cX9_paperRate 28 = .ok (.ireturn, 1) := by decide +kernel
theorem dX9_rate_0 : decode cX9_rate 0 = .ok (.iload_n 1, 1) := by decide +kernel
theorem dX9_rate_1 : decode cX9_rate 1 = .ok (.iconst 0, 1) := by decide +kernel
theorem dX9_rate_2 : decode cX9_rate 2 = .ok (.iconst 5, 1) := by decide +kernel
theorem dX9_rate_3 : decode cX9_rate 3 = .ok (.invokestatic 69, 3) := by decide +kernel
theorem dX9_rate_6 : decode cX9_rate 6 = .ok (.ifCond .eq 11, 3) := by decide +kernel
theorem dX9_rate_9 : decode cX9_rate 9 = .ok (.aload_n 0, 1) := by decide +kernel
theorem dX9_rate_10 : decode cX9_rate 10 = .ok (.iload_n 2, 1) := by decide +kernel
theorem dX9_rate_11 : decode cX9_rate 11 = .ok (.invokevirtual 122, 3) := by decide +kernel
theorem dX9_rate_14 : decode cX9_rate 14 = .ok (.ifCond .ne 6, 3) := by decide +kernel
theorem dX9_rate_17 : decode cX9_rate 17 = .ok (.ldc 202, 2) := by decide +kernel
theorem dX9_rate_19 : decode cX9_rate 19 = .ok (.ireturn, 1) := by decide +kernel
theorem dX9_rate_20 : decode cX9_rate 20 = .ok (.iload_n 1, 1) := by decide +kernel
theorem dX9_rate_21 : decode cX9_rate 21 = .ok (.tableswitch 112 1 5 #[35, 41, 47, 67, 87], 35) := by decide +kernel
theorem dX9_rate_56 : decode cX9_rate 56 = .ok (.aload_n 0, 1) := by decide +kernel
theorem dX9_rate_57 : decode cX9_rate 57 = .ok (.iload_n 2, 1) := by decide +kernel
theorem dX9_rate_58 : decode cX9_rate 58 = .ok (.invokevirtual 203, 3) := by decide +kernel
theorem dX9_rate_61 : decode cX9_rate 61 = .ok (.ireturn, 1) := by decide +kernel
theorem dX9_rate_62 : decode cX9_rate 62 = .ok (.aload_n 0, 1) := by decide +kernel
theorem dX9_rate_63 : decode cX9_rate 63 = .ok (.iload_n 2, 1) := by decide +kernel
theorem dX9_rate_64 : decode cX9_rate 64 = .ok (.invokevirtual 206, 3) := by decide +kernel
theorem dX9_rate_67 : decode cX9_rate 67 = .ok (.ireturn, 1) := by decide +kernel
theorem dX9_rate_68 : decode cX9_rate 68 = .ok (.aload_n 0, 1) := by decide +kernel
theorem dX9_rate_69 : decode cX9_rate 69 = .ok (.dup, 1) := by decide +kernel
theorem dX9_rate_70 : decode cX9_rate 70 = .ok (.getfield 191, 3) := by decide +kernel
theorem dX9_rate_73 : decode cX9_rate 73 = .ok (.ldc2_w 209, 3) := by decide +kernel
theorem dX9_rate_76 : decode cX9_rate 76 = .ok (.ladd, 1) := by decide +kernel
theorem dX9_rate_77 : decode cX9_rate 77 = .ok (.putfield 191, 3) := by decide +kernel
theorem dX9_rate_80 : decode cX9_rate 80 = .ok (.iconst 2, 1) := by decide +kernel
theorem dX9_rate_81 : decode cX9_rate 81 = .ok (.aload_n 0, 1) := by decide +kernel
theorem dX9_rate_82 : decode cX9_rate 82 = .ok (.iload_n 2, 1) := by decide +kernel
theorem dX9_rate_83 : decode cX9_rate 83 = .ok (.invokevirtual 203, 3) := by decide +kernel
theorem dX9_rate_86 : decode cX9_rate 86 = .ok (.imul, 1) := by decide +kernel
theorem dX9_rate_87 : decode cX9_rate 87 = .ok (.ireturn, 1) := by decide +kernel
theorem dX9_rate_88 : decode cX9_rate 88 = .ok (.aload_n 0, 1) := by decide +kernel
theorem dX9_rate_89 : decode cX9_rate 89 = .ok (.dup, 1) := by decide +kernel
theorem dX9_rate_90 : decode cX9_rate 90 = .ok (.getfield 191, 3) := by decide +kernel
theorem dX9_rate_93 : decode cX9_rate 93 = .ok (.ldc2_w 211, 3) := by decide +kernel
theorem dX9_rate_96 : decode cX9_rate 96 = .ok (.ladd, 1) := by decide +kernel
theorem dX9_rate_97 : decode cX9_rate 97 = .ok (.putfield 191, 3) := by decide +kernel
theorem dX9_rate_100 : decode cX9_rate 100 = .ok (.aload_n 0, 1) := by decide +kernel
theorem dX9_rate_101 : decode cX9_rate 101 = .ok (.iload_n 2, 1) := by decide +kernel
theorem dX9_rate_102 : decode cX9_rate 102 = .ok (.invokevirtual 206, 3) := by decide +kernel
theorem dX9_rate_105 : decode cX9_rate 105 = .ok (.iload_n 2, 1) := by decide +kernel
theorem dX9_rate_106 : decode cX9_rate 106 = .ok (.iadd, 1) := by decide +kernel
theorem dX9_rate_107 : decode cX9_rate 107 = .ok (.ireturn, 1) := by decide +kernel
theorem dX9_rate_108 : decode cX9_rate 108 = .ok (.aload_n 0, 1) := by decide +kernel
theorem dX9_rate_109 : decode cX9_rate 109 = .ok (.dup, 1) := by decide +kernel
theorem dX9_rate_110 : decode cX9_rate 110 = .ok (.getfield 191, 3) := by decide +kernel
theorem dX9_rate_113 : decode cX9_rate 113 = .ok (.ldc2_w 213, 3) := by decide +kernel
theorem dX9_rate_116 : decode cX9_rate 116 = .ok (.ladd, 1) := by decide +kernel
theorem dX9_rate_117 : decode cX9_rate 117 = .ok (.putfield 191, 3) := by decide +kernel
theorem dX9_rate_120 : decode cX9_rate 120 = .ok (.aload_n 0, 1) := by decide +kernel
theorem dX9_rate_121 : decode cX9_rate 121 = .ok (.iload_n 2, 1) := by decide +kernel
theorem dX9_rate_122 : decode cX9_rate 122 = .ok (.invokevirtual 197, 3) := by decide +kernel
theorem dX9_rate_125 : decode cX9_rate 125 = .ok (.aload_n 0, 1) := by decide +kernel
theorem dX9_rate_126 : decode cX9_rate 126 = .ok (.getfield 7, 3) := by decide +kernel
theorem dX9_rate_129 : decode cX9_rate 129 = .ok (.iconst 1, 1) := by decide +kernel
theorem dX9_rate_130 : decode cX9_rate 130 = .ok (.iaload, 1) := by decide +kernel
theorem dX9_rate_131 : decode cX9_rate 131 = .ok (.iadd, 1) := by decide +kernel
theorem dX9_rate_132 : decode cX9_rate 132 = .ok (.ireturn, 1) := by decide +kernel
theorem dX9_rate_133 : decode cX9_rate 133 = .ok (.aload_n 0, 1) := by decide +kernel
theorem dX9_rate_134 : decode cX9_rate 134 = .ok (.iload_n 2, 1) := by decide +kernel
theorem dX9_rate_135 : decode cX9_rate 135 = .ok (.invokevirtual 197, 3) := by decide +kernel
theorem dX9_rate_138 : decode cX9_rate 138 = .ok (.ireturn, 1) := by decide +kernel
theorem dX9_keep_0 : decode cX9_keep 0 = .ok (.iload_n 1, 1) := by decide +kernel
theorem dX9_keep_1 : decode cX9_keep 1 = .ok (.iconst 0, 1) := by decide +kernel
theorem dX9_keep_2 : decode cX9_keep 2 = .ok (.iconst 1, 1) := by decide +kernel
theorem dX9_keep_3 : decode cX9_keep 3 = .ok (.invokestatic 69, 3) := by decide +kernel
theorem dX9_keep_6 : decode cX9_keep 6 = .ok (.ifCond .ne 5, 3) := by decide +kernel
theorem dX9_keep_9 : decode cX9_keep 9 = .ok (.iconst (-1), 1) := by decide +kernel
theorem dX9_keep_10 : decode cX9_keep 10 = .ok (.ireturn, 1) := by decide +kernel
theorem dX9_keep_11 : decode cX9_keep 11 = .ok (.aload_n 0, 1) := by decide +kernel
theorem dX9_keep_12 : decode cX9_keep 12 = .ok (.iconst 0, 1) := by decide +kernel
theorem dX9_keep_13 : decode cX9_keep 13 = .ok (.sipush 132, 3) := by decide +kernel
theorem dX9_keep_16 : decode cX9_keep 16 = .ok (.bipush 12, 2) := by decide +kernel
theorem dX9_keep_18 : decode cX9_keep 18 = .ok (.iload_n 1, 1) := by decide +kernel
theorem dX9_keep_19 : decode cX9_keep 19 = .ok (.imul, 1) := by decide +kernel
theorem dX9_keep_20 : decode cX9_keep 20 = .ok (.iadd, 1) := by decide +kernel
theorem dX9_keep_21 : decode cX9_keep 21 = .ok (.invokevirtual 145, 3) := by decide +kernel
theorem dX9_keep_24 : decode cX9_keep 24 = .ok (.aload_n 0, 1) := by decide +kernel
theorem dX9_keep_25 : decode cX9_keep 25 = .ok (.getfield 29, 3) := by decide +kernel
theorem dX9_keep_28 : decode cX9_keep 28 = .ok (.iload_n 1, 1) := by decide +kernel
theorem dX9_keep_29 : decode cX9_keep 29 = .ok (.iconst 1, 1) := by decide +kernel
theorem dX9_keep_30 : decode cX9_keep 30 = .ok (.bastore, 1) := by decide +kernel
theorem dX9_keep_31 : decode cX9_keep 31 = .ok (.aload_n 0, 1) := by decide +kernel
theorem dX9_keep_32 : decode cX9_keep 32 = .ok (.getfield 7, 3) := by decide +kernel
theorem dX9_keep_35 : decode cX9_keep 35 = .ok (.iconst 0, 1) := by decide +kernel
theorem dX9_keep_36 : decode cX9_keep 36 = .ok (.iaload, 1) := by decide +kernel
theorem dX9_keep_37 : decode cX9_keep 37 = .ok (.ireturn, 1) := by decide +kernel
theorem dX9_back_0 : decode cX9_back 0 = .ok (.iload_n 1, 1) := by decide +kernel
theorem dX9_back_1 : decode cX9_back 1 = .ok (.iconst 0, 1) := by decide +kernel
theorem dX9_back_2 : decode cX9_back 2 = .ok (.iconst 1, 1) := by decide +kernel
theorem dX9_back_3 : decode cX9_back 3 = .ok (.invokestatic 69, 3) := by decide +kernel
theorem dX9_back_6 : decode cX9_back 6 = .ok (.ifCond .ne 5, 3) := by decide +kernel
theorem dX9_back_9 : decode cX9_back 9 = .ok (.iconst (-1), 1) := by decide +kernel
theorem dX9_back_10 : decode cX9_back 10 = .ok (.ireturn, 1) := by decide +kernel
theorem dX9_back_11 : decode cX9_back 11 = .ok (.aload_n 0, 1) := by decide +kernel
theorem dX9_back_12 : decode cX9_back 12 = .ok (.getfield 29, 3) := by decide +kernel
theorem dX9_back_15 : decode cX9_back 15 = .ok (.iload_n 1, 1) := by decide +kernel
theorem dX9_back_16 : decode cX9_back 16 = .ok (.baload, 1) := by decide +kernel
theorem dX9_back_17 : decode cX9_back 17 = .ok (.ifCond .ne 6, 3) := by decide +kernel
theorem dX9_back_20 : decode cX9_back 20 = .ok (.bipush (-2), 2) := by decide +kernel
theorem dX9_back_22 : decode cX9_back 22 = .ok (.ireturn, 1) := by decide +kernel
theorem dX9_back_23 : decode cX9_back 23 = .ok (.aload_n 0, 1) := by decide +kernel
theorem dX9_back_24 : decode cX9_back 24 = .ok (.sipush 132, 3) := by decide +kernel
theorem dX9_back_27 : decode cX9_back 27 = .ok (.bipush 12, 2) := by decide +kernel
theorem dX9_back_29 : decode cX9_back 29 = .ok (.iload_n 1, 1) := by decide +kernel
theorem dX9_back_30 : decode cX9_back 30 = .ok (.imul, 1) := by decide +kernel
theorem dX9_back_31 : decode cX9_back 31 = .ok (.iadd, 1) := by decide +kernel
theorem dX9_back_32 : decode cX9_back 32 = .ok (.iconst 0, 1) := by decide +kernel
theorem dX9_back_33 : decode cX9_back 33 = .ok (.invokevirtual 145, 3) := by decide +kernel
theorem dX9_back_36 : decode cX9_back 36 = .ok (.aload_n 0, 1) := by decide +kernel
theorem dX9_back_37 : decode cX9_back 37 = .ok (.iconst 0, 1) := by decide +kernel
theorem dX9_back_38 : decode cX9_back 38 = .ok (.putfield 116, 3) := by decide +kernel
theorem dX9_back_41 : decode cX9_back 41 = .ok (.aload_n 0, 1) := by decide +kernel
theorem dX9_back_42 : decode cX9_back 42 = .ok (.getfield 7, 3) := by decide +kernel
theorem dX9_back_45 : decode cX9_back 45 = .ok (.iconst 0, 1) := by decide +kernel
theorem dX9_back_46 : decode cX9_back 46 = .ok (.iaload, 1) := by decide +kernel
theorem dX9_back_47 : decode cX9_back 47 = .ok (.ireturn, 1) := by decide +kernel
theorem dX9_count_0 : decode cX9_count 0 = .ok (.iload_n 1, 1) := by decide +kernel
theorem dX9_count_1 : decode cX9_count 1 = .ok (.tableswitch 69 0 5 #[39, 44, 49, 54, 59, 64], 39) := by decide +kernel
theorem dX9_count_40 : decode cX9_count 40 = .ok (.aload_n 0, 1) := by decide +kernel
theorem dX9_count_41 : decode cX9_count 41 = .ok (.getfield 66, 3) := by decide +kernel
theorem dX9_count_44 : decode cX9_count 44 = .ok (.ireturn, 1) := by decide +kernel
theorem dX9_count_45 : decode cX9_count 45 = .ok (.aload_n 0, 1) := by decide +kernel
theorem dX9_count_46 : decode cX9_count 46 = .ok (.getfield 13, 3) := by decide +kernel
theorem dX9_count_49 : decode cX9_count 49 = .ok (.ireturn, 1) := by decide +kernel
theorem dX9_count_50 : decode cX9_count 50 = .ok (.aload_n 0, 1) := by decide +kernel
theorem dX9_count_51 : decode cX9_count 51 = .ok (.getfield 17, 3) := by decide +kernel
theorem dX9_count_54 : decode cX9_count 54 = .ok (.ireturn, 1) := by decide +kernel
theorem dX9_count_55 : decode cX9_count 55 = .ok (.aload_n 0, 1) := by decide +kernel
theorem dX9_count_56 : decode cX9_count 56 = .ok (.getfield 20, 3) := by decide +kernel
theorem dX9_count_59 : decode cX9_count 59 = .ok (.ireturn, 1) := by decide +kernel
theorem dX9_count_60 : decode cX9_count 60 = .ok (.aload_n 0, 1) := by decide +kernel
theorem dX9_count_61 : decode cX9_count 61 = .ok (.getfield 119, 3) := by decide +kernel
theorem dX9_count_64 : decode cX9_count 64 = .ok (.ireturn, 1) := by decide +kernel
theorem dX9_count_65 : decode cX9_count 65 = .ok (.aload_n 0, 1) := by decide +kernel
theorem dX9_count_66 : decode cX9_count 66 = .ok (.getfield 73, 3) := by decide +kernel
theorem dX9_count_69 : decode cX9_count 69 = .ok (.ireturn, 1) := by decide +kernel
theorem dX9_count_70 : decode cX9_count 70 = .ok (.iconst (-1), 1) := by decide +kernel
theorem dX9_count_71 : decode cX9_count 71 = .ok (.ireturn, 1) := by decide +kernel
theorem dX9_trace_0 : decode cX9_trace 0 = .ok (.aload_n 0, 1) := by decide +kernel
theorem dX9_trace_1 : decode cX9_trace 1 = .ok (.getfield 191, 3) := by decide +kernel
theorem dX9_trace_4 : decode cX9_trace 4 = .ok (.lreturn, 1) := by decide +kernel
theorem dJ9_max_7cf53_0 : decode cJ9_max_7cf53 0 = .ok (.iload_n 0, 1) := by decide +kernel
theorem dJ9_max_7cf53_1 : decode cJ9_max_7cf53 1 = .ok (.iload_n 1, 1) := by decide +kernel
theorem dJ9_max_7cf53_2 : decode cJ9_max_7cf53 2 = .ok (.if_icmp .lt 7, 3) := by decide +kernel
theorem dJ9_max_7cf53_5 : decode cJ9_max_7cf53 5 = .ok (.iload_n 0, 1) := by decide +kernel
theorem dJ9_max_7cf53_6 : decode cJ9_max_7cf53 6 = .ok (.goto 4, 3) := by decide +kernel
theorem dJ9_max_7cf53_9 : decode cJ9_max_7cf53 9 = .ok (.iload_n 1, 1) := by decide +kernel
theorem dJ9_max_7cf53_10 : decode cJ9_max_7cf53 10 = .ok (.ireturn, 1) := by decide +kernel
theorem dJ9_min_7cf53_0 : decode cJ9_min_7cf53 0 = .ok (.iload_n 0, 1) := by decide +kernel
theorem dJ9_min_7cf53_1 : decode cJ9_min_7cf53 1 = .ok (.iload_n 1, 1) := by decide +kernel
theorem dJ9_min_7cf53_2 : decode cJ9_min_7cf53 2 = .ok (.if_icmp .gt 7, 3) := by decide +kernel
theorem dJ9_min_7cf53_5 : decode cJ9_min_7cf53 5 = .ok (.iload_n 0, 1) := by decide +kernel
theorem dJ9_min_7cf53_6 : decode cJ9_min_7cf53 6 = .ok (.goto 4, 3) := by decide +kernel
theorem dJ9_min_7cf53_9 : decode cJ9_min_7cf53 9 = .ok (.iload_n 1, 1) := by decide +kernel
theorem dJ9_min_7cf53_10 : decode cJ9_min_7cf53 10 = .ok (.ireturn, 1) := by decide +kernel
theorem dJ7_fill_53178_0 : decode cJ7_fill_53178 0 = .ok (.iconst 0, 1) := by decide +kernel
theorem dJ7_fill_53178_1 : decode cJ7_fill_53178 1 = .ok (.istore_n 2, 1) := by decide +kernel
theorem dJ7_fill_53178_2 : decode cJ7_fill_53178 2 = .ok (.aload_n 0, 1) := by decide +kernel
theorem dJ7_fill_53178_3 : decode cJ7_fill_53178 3 = .ok (.arraylength, 1) := by decide +kernel
theorem dJ7_fill_53178_4 : decode cJ7_fill_53178 4 = .ok (.istore_n 3, 1) := by decide +kernel
theorem dJ7_fill_53178_5 : decode cJ7_fill_53178 5 = .ok (.iload_n 2, 1) := by decide +kernel
theorem dJ7_fill_53178_6 : decode cJ7_fill_53178 6 = .ok (.iload_n 3, 1) := by decide +kernel
theorem dJ7_fill_53178_7 : decode cJ7_fill_53178 7 = .ok (.if_icmp .ge 13, 3) := by decide +kernel
theorem dJ7_fill_53178_10 : decode cJ7_fill_53178 10 = .ok (.aload_n 0, 1) := by decide +kernel
theorem dJ7_fill_53178_11 : decode cJ7_fill_53178 11 = .ok (.iload_n 2, 1) := by decide +kernel
theorem dJ7_fill_53178_12 : decode cJ7_fill_53178 12 = .ok (.iload_n 1, 1) := by decide +kernel
theorem dJ7_fill_53178_13 : decode cJ7_fill_53178 13 = .ok (.iastore, 1) := by decide +kernel
theorem dJ7_fill_53178_14 : decode cJ7_fill_53178 14 = .ok (.iinc 2 1, 3) := by decide +kernel
theorem dJ7_fill_53178_17 : decode cJ7_fill_53178 17 = .ok (.goto (-12), 3) := by decide +kernel
theorem dJ7_fill_53178_20 : decode cJ7_fill_53178 20 = .ok (.return_, 1) := by decide +kernel
theorem dL_law_0 : decode cL_law 0 = .ok (.new 7, 3) := by decide +kernel
theorem dL_law_3 : decode cL_law 3 = .ok (.dup, 1) := by decide +kernel
theorem dL_law_4 : decode cL_law 4 = .ok (.invokespecial 9, 3) := by decide +kernel
theorem dL_law_7 : decode cL_law 7 = .ok (.astore_n 1, 1) := by decide +kernel
theorem dL_law_8 : decode cL_law 8 = .ok (.new 10, 3) := by decide +kernel
theorem dL_law_11 : decode cL_law 11 = .ok (.dup, 1) := by decide +kernel
theorem dL_law_12 : decode cL_law 12 = .ok (.invokespecial 12, 3) := by decide +kernel
theorem dL_law_15 : decode cL_law 15 = .ok (.astore_n 2, 1) := by decide +kernel
theorem dL_law_16 : decode cL_law 16 = .ok (.iconst 0, 1) := by decide +kernel
theorem dL_law_17 : decode cL_law 17 = .ok (.istore_n 3, 1) := by decide +kernel
theorem dL_law_18 : decode cL_law 18 = .ok (.iload_n 3, 1) := by decide +kernel
theorem dL_law_19 : decode cL_law 19 = .ok (.aload_n 0, 1) := by decide +kernel
theorem dL_law_20 : decode cL_law 20 = .ok (.arraylength, 1) := by decide +kernel
theorem dL_law_21 : decode cL_law 21 = .ok (.iconst 4, 1) := by decide +kernel
theorem dL_law_22 : decode cL_law 22 = .ok (.isub, 1) := by decide +kernel
theorem dL_law_23 : decode cL_law 23 = .ok (.if_icmp .gt 636, 3) := by decide +kernel
theorem dL_law_26 : decode cL_law 26 = .ok (.aload_n 0, 1) := by decide +kernel
theorem dL_law_27 : decode cL_law 27 = .ok (.iload_n 3, 1) := by decide +kernel
theorem dL_law_28 : decode cL_law 28 = .ok (.iaload, 1) := by decide +kernel
theorem dL_law_29 : decode cL_law 29 = .ok (.bipush 31, 2) := by decide +kernel
theorem dL_law_31 : decode cL_law 31 = .ok (.iand, 1) := by decide +kernel
theorem dL_law_32 : decode cL_law 32 = .ok (.tableswitch 621 0 21 #[104, 127, 140, 153, 186, 209, 222, 245, 268, 301, 314, 337, 370, 403, 446, 459, 482, 505, 538, 561, 584, 607], 104) := by decide +kernel
theorem dL_law_136 : decode cL_law 136 = .ok (.aload_n 1, 1) := by decide +kernel
theorem dL_law_137 : decode cL_law 137 = .ok (.aload_n 0, 1) := by decide +kernel
theorem dL_law_138 : decode cL_law 138 = .ok (.iload_n 3, 1) := by decide +kernel
theorem dL_law_139 : decode cL_law 139 = .ok (.iconst 1, 1) := by decide +kernel
theorem dL_law_140 : decode cL_law 140 = .ok (.iadd, 1) := by decide +kernel
theorem dL_law_141 : decode cL_law 141 = .ok (.iaload, 1) := by decide +kernel
theorem dL_law_142 : decode cL_law 142 = .ok (.invokevirtual 13, 3) := by decide +kernel
theorem dL_law_145 : decode cL_law 145 = .ok (.aload_n 2, 1) := by decide +kernel
theorem dL_law_146 : decode cL_law 146 = .ok (.aload_n 0, 1) := by decide +kernel
theorem dL_law_147 : decode cL_law 147 = .ok (.iload_n 3, 1) := by decide +kernel
theorem dL_law_148 : decode cL_law 148 = .ok (.iconst 1, 1) := by decide +kernel
theorem dL_law_149 : decode cL_law 149 = .ok (.iadd, 1) := by decide +kernel
theorem dL_law_150 : decode cL_law 150 = .ok (.iaload, 1) := by decide +kernel
theorem dL_law_151 : decode cL_law 151 = .ok (.invokevirtual 17, 3) := by decide +kernel
theorem dL_law_154 : decode cL_law 154 = .ok (.if_icmp .eq 499, 3) := by decide +kernel
theorem dL_law_157 : decode cL_law 157 = .ok (.iconst 0, 1) := by decide +kernel
theorem dL_law_158 : decode cL_law 158 = .ok (.ireturn, 1) := by decide +kernel
theorem dL_law_159 : decode cL_law 159 = .ok (.aload_n 1, 1) := by decide +kernel
theorem dL_law_160 : decode cL_law 160 = .ok (.invokevirtual 18, 3) := by decide +kernel
theorem dL_law_163 : decode cL_law 163 = .ok (.aload_n 2, 1) := by decide +kernel
theorem dL_law_164 : decode cL_law 164 = .ok (.invokevirtual 22, 3) := by decide +kernel
theorem dL_law_167 : decode cL_law 167 = .ok (.if_icmp .eq 486, 3) := by decide +kernel
theorem dL_law_170 : decode cL_law 170 = .ok (.iconst 0, 1) := by decide +kernel
theorem dL_law_171 : decode cL_law 171 = .ok (.ireturn, 1) := by decide +kernel
theorem dL_law_172 : decode cL_law 172 = .ok (.aload_n 1, 1) := by decide +kernel
theorem dL_law_173 : decode cL_law 173 = .ok (.invokevirtual 23, 3) := by decide +kernel
theorem dL_law_176 : decode cL_law 176 = .ok (.aload_n 2, 1) := by decide +kernel
theorem dL_law_177 : decode cL_law 177 = .ok (.invokevirtual 26, 3) := by decide +kernel
theorem dL_law_180 : decode cL_law 180 = .ok (.if_icmp .eq 473, 3) := by decide +kernel
theorem dL_law_183 : decode cL_law 183 = .ok (.iconst 0, 1) := by decide +kernel
theorem dL_law_184 : decode cL_law 184 = .ok (.ireturn, 1) := by decide +kernel
theorem dL_law_185 : decode cL_law 185 = .ok (.aload_n 1, 1) := by decide +kernel
theorem dL_law_186 : decode cL_law 186 = .ok (.aload_n 0, 1) := by decide +kernel
theorem dL_law_187 : decode cL_law 187 = .ok (.iload_n 3, 1) := by decide +kernel
theorem dL_law_188 : decode cL_law 188 = .ok (.iconst 1, 1) := by decide +kernel
theorem dL_law_189 : decode cL_law 189 = .ok (.iadd, 1) := by decide +kernel
theorem dL_law_190 : decode cL_law 190 = .ok (.iaload, 1) := by decide +kernel
theorem dL_law_191 : decode cL_law 191 = .ok (.aload_n 0, 1) := by decide +kernel
theorem dL_law_192 : decode cL_law 192 = .ok (.iload_n 3, 1) := by decide +kernel
theorem dL_law_193 : decode cL_law 193 = .ok (.iconst 2, 1) := by decide +kernel
theorem dL_law_194 : decode cL_law 194 = .ok (.iadd, 1) := by decide +kernel
theorem dL_law_195 : decode cL_law 195 = .ok (.iaload, 1) := by decide +kernel
theorem dL_law_196 : decode cL_law 196 = .ok (.invokevirtual 27, 3) := by decide +kernel
theorem dL_law_199 : decode cL_law 199 = .ok (.aload_n 2, 1) := by decide +kernel
theorem dL_law_200 : decode cL_law 200 = .ok (.aload_n 0, 1) := by decide +kernel
theorem dL_law_201 : decode cL_law 201 = .ok (.iload_n 3, 1) := by decide +kernel
theorem dL_law_202 : decode cL_law 202 = .ok (.iconst 1, 1) := by decide +kernel
theorem dL_law_203 : decode cL_law 203 = .ok (.iadd, 1) := by decide +kernel
theorem dL_law_204 : decode cL_law 204 = .ok (.iaload, 1) := by decide +kernel
theorem dL_law_205 : decode cL_law 205 = .ok (.aload_n 0, 1) := by decide +kernel
theorem dL_law_206 : decode cL_law 206 = .ok (.iload_n 3, 1) := by decide +kernel
theorem dL_law_207 : decode cL_law 207 = .ok (.iconst 2, 1) := by decide +kernel
theorem dL_law_208 : decode cL_law 208 = .ok (.iadd, 1) := by decide +kernel
theorem dL_law_209 : decode cL_law 209 = .ok (.iaload, 1) := by decide +kernel
theorem dL_law_210 : decode cL_law 210 = .ok (.invokevirtual 31, 3) := by decide +kernel
theorem dL_law_213 : decode cL_law 213 = .ok (.if_icmp .eq 440, 3) := by decide +kernel
theorem dL_law_216 : decode cL_law 216 = .ok (.iconst 0, 1) := by decide +kernel
theorem dL_law_217 : decode cL_law 217 = .ok (.ireturn, 1) := by decide +kernel
theorem dL_law_218 : decode cL_law 218 = .ok (.aload_n 1, 1) := by decide +kernel
theorem dL_law_219 : decode cL_law 219 = .ok (.aload_n 0, 1) := by decide +kernel
theorem dL_law_220 : decode cL_law 220 = .ok (.iload_n 3, 1) := by decide +kernel
theorem dL_law_221 : decode cL_law 221 = .ok (.iconst 1, 1) := by decide +kernel
theorem dL_law_222 : decode cL_law 222 = .ok (.iadd, 1) := by decide +kernel
theorem dL_law_223 : decode cL_law 223 = .ok (.iaload, 1) := by decide +kernel
theorem dL_law_224 : decode cL_law 224 = .ok (.invokevirtual 32, 3) := by decide +kernel
theorem dL_law_227 : decode cL_law 227 = .ok (.aload_n 2, 1) := by decide +kernel
theorem dL_law_228 : decode cL_law 228 = .ok (.aload_n 0, 1) := by decide +kernel
theorem dL_law_229 : decode cL_law 229 = .ok (.iload_n 3, 1) := by decide +kernel
theorem dL_law_230 : decode cL_law 230 = .ok (.iconst 1, 1) := by decide +kernel
theorem dL_law_231 : decode cL_law 231 = .ok (.iadd, 1) := by decide +kernel
theorem dL_law_232 : decode cL_law 232 = .ok (.iaload, 1) := by decide +kernel
theorem dL_law_233 : decode cL_law 233 = .ok (.invokevirtual 35, 3) := by decide +kernel
theorem dL_law_236 : decode cL_law 236 = .ok (.if_icmp .eq 417, 3) := by decide +kernel
theorem dL_law_239 : decode cL_law 239 = .ok (.iconst 0, 1) := by decide +kernel
theorem dL_law_240 : decode cL_law 240 = .ok (.ireturn, 1) := by decide +kernel
theorem dL_law_241 : decode cL_law 241 = .ok (.aload_n 1, 1) := by decide +kernel
theorem dL_law_242 : decode cL_law 242 = .ok (.invokevirtual 36, 3) := by decide +kernel
theorem dL_law_245 : decode cL_law 245 = .ok (.aload_n 2, 1) := by decide +kernel
theorem dL_law_246 : decode cL_law 246 = .ok (.invokevirtual 39, 3) := by decide +kernel
theorem dL_law_249 : decode cL_law 249 = .ok (.if_icmp .eq 404, 3) := by decide +kernel
theorem dL_law_252 : decode cL_law 252 = .ok (.iconst 0, 1) := by decide +kernel
theorem dL_law_253 : decode cL_law 253 = .ok (.ireturn, 1) := by decide +kernel
theorem dL_law_254 : decode cL_law 254 = .ok (.aload_n 1, 1) := by decide +kernel
theorem dL_law_255 : decode cL_law 255 = .ok (.aload_n 0, 1) := by decide +kernel
theorem dL_law_256 : decode cL_law 256 = .ok (.iload_n 3, 1) := by decide +kernel
theorem dL_law_257 : decode cL_law 257 = .ok (.iconst 1, 1) := by decide +kernel
theorem dL_law_258 : decode cL_law 258 = .ok (.iadd, 1) := by decide +kernel
theorem dL_law_259 : decode cL_law 259 = .ok (.iaload, 1) := by decide +kernel
theorem dL_law_260 : decode cL_law 260 = .ok (.invokevirtual 40, 3) := by decide +kernel
theorem dL_law_263 : decode cL_law 263 = .ok (.aload_n 2, 1) := by decide +kernel
theorem dL_law_264 : decode cL_law 264 = .ok (.aload_n 0, 1) := by decide +kernel
theorem dL_law_265 : decode cL_law 265 = .ok (.iload_n 3, 1) := by decide +kernel
theorem dL_law_266 : decode cL_law 266 = .ok (.iconst 1, 1) := by decide +kernel
theorem dL_law_267 : decode cL_law 267 = .ok (.iadd, 1) := by decide +kernel
theorem dL_law_268 : decode cL_law 268 = .ok (.iaload, 1) := by decide +kernel
theorem dL_law_269 : decode cL_law 269 = .ok (.invokevirtual 43, 3) := by decide +kernel
theorem dL_law_272 : decode cL_law 272 = .ok (.if_icmp .eq 381, 3) := by decide +kernel
theorem dL_law_275 : decode cL_law 275 = .ok (.iconst 0, 1) := by decide +kernel
theorem dL_law_276 : decode cL_law 276 = .ok (.ireturn, 1) := by decide +kernel
theorem dL_law_277 : decode cL_law 277 = .ok (.aload_n 1, 1) := by decide +kernel
theorem dL_law_278 : decode cL_law 278 = .ok (.aload_n 0, 1) := by decide +kernel
theorem dL_law_279 : decode cL_law 279 = .ok (.iload_n 3, 1) := by decide +kernel
theorem dL_law_280 : decode cL_law 280 = .ok (.iconst 1, 1) := by decide +kernel
theorem dL_law_281 : decode cL_law 281 = .ok (.iadd, 1) := by decide +kernel
theorem dL_law_282 : decode cL_law 282 = .ok (.iaload, 1) := by decide +kernel
theorem dL_law_283 : decode cL_law 283 = .ok (.invokevirtual 44, 3) := by decide +kernel
theorem dL_law_286 : decode cL_law 286 = .ok (.aload_n 2, 1) := by decide +kernel
theorem dL_law_287 : decode cL_law 287 = .ok (.aload_n 0, 1) := by decide +kernel
theorem dL_law_288 : decode cL_law 288 = .ok (.iload_n 3, 1) := by decide +kernel
theorem dL_law_289 : decode cL_law 289 = .ok (.iconst 1, 1) := by decide +kernel
theorem dL_law_290 : decode cL_law 290 = .ok (.iadd, 1) := by decide +kernel
theorem dL_law_291 : decode cL_law 291 = .ok (.iaload, 1) := by decide +kernel
theorem dL_law_292 : decode cL_law 292 = .ok (.invokevirtual 47, 3) := by decide +kernel
theorem dL_law_295 : decode cL_law 295 = .ok (.if_icmp .eq 358, 3) := by decide +kernel
theorem dL_law_298 : decode cL_law 298 = .ok (.iconst 0, 1) := by decide +kernel
theorem dL_law_299 : decode cL_law 299 = .ok (.ireturn, 1) := by decide +kernel
theorem dL_law_300 : decode cL_law 300 = .ok (.aload_n 1, 1) := by decide +kernel
theorem dL_law_301 : decode cL_law 301 = .ok (.aload_n 0, 1) := by decide +kernel
theorem dL_law_302 : decode cL_law 302 = .ok (.iload_n 3, 1) := by decide +kernel
theorem dL_law_303 : decode cL_law 303 = .ok (.iconst 1, 1) := by decide +kernel
theorem dL_law_304 : decode cL_law 304 = .ok (.iadd, 1) := by decide +kernel
theorem dL_law_305 : decode cL_law 305 = .ok (.iaload, 1) := by decide +kernel
theorem dL_law_306 : decode cL_law 306 = .ok (.aload_n 0, 1) := by decide +kernel
theorem dL_law_307 : decode cL_law 307 = .ok (.iload_n 3, 1) := by decide +kernel
theorem dL_law_308 : decode cL_law 308 = .ok (.iconst 2, 1) := by decide +kernel
theorem dL_law_309 : decode cL_law 309 = .ok (.iadd, 1) := by decide +kernel
theorem dL_law_310 : decode cL_law 310 = .ok (.iaload, 1) := by decide +kernel
theorem dL_law_311 : decode cL_law 311 = .ok (.invokevirtual 48, 3) := by decide +kernel
theorem dL_law_314 : decode cL_law 314 = .ok (.aload_n 2, 1) := by decide +kernel
theorem dL_law_315 : decode cL_law 315 = .ok (.aload_n 0, 1) := by decide +kernel
theorem dL_law_316 : decode cL_law 316 = .ok (.iload_n 3, 1) := by decide +kernel
theorem dL_law_317 : decode cL_law 317 = .ok (.iconst 1, 1) := by decide +kernel
theorem dL_law_318 : decode cL_law 318 = .ok (.iadd, 1) := by decide +kernel
theorem dL_law_319 : decode cL_law 319 = .ok (.iaload, 1) := by decide +kernel
theorem dL_law_320 : decode cL_law 320 = .ok (.aload_n 0, 1) := by decide +kernel
theorem dL_law_321 : decode cL_law 321 = .ok (.iload_n 3, 1) := by decide +kernel
theorem dL_law_322 : decode cL_law 322 = .ok (.iconst 2, 1) := by decide +kernel
theorem dL_law_323 : decode cL_law 323 = .ok (.iadd, 1) := by decide +kernel
theorem dL_law_324 : decode cL_law 324 = .ok (.iaload, 1) := by decide +kernel
theorem dL_law_325 : decode cL_law 325 = .ok (.invokevirtual 51, 3) := by decide +kernel
theorem dL_law_328 : decode cL_law 328 = .ok (.if_icmp .eq 325, 3) := by decide +kernel
theorem dL_law_331 : decode cL_law 331 = .ok (.iconst 0, 1) := by decide +kernel
theorem dL_law_332 : decode cL_law 332 = .ok (.ireturn, 1) := by decide +kernel
theorem dL_law_333 : decode cL_law 333 = .ok (.aload_n 1, 1) := by decide +kernel
theorem dL_law_334 : decode cL_law 334 = .ok (.invokevirtual 52, 3) := by decide +kernel
theorem dL_law_337 : decode cL_law 337 = .ok (.aload_n 2, 1) := by decide +kernel
theorem dL_law_338 : decode cL_law 338 = .ok (.invokevirtual 55, 3) := by decide +kernel
theorem dL_law_341 : decode cL_law 341 = .ok (.if_icmp .eq 312, 3) := by decide +kernel
theorem dL_law_344 : decode cL_law 344 = .ok (.iconst 0, 1) := by decide +kernel
theorem dL_law_345 : decode cL_law 345 = .ok (.ireturn, 1) := by decide +kernel
theorem dL_law_346 : decode cL_law 346 = .ok (.aload_n 1, 1) := by decide +kernel
theorem dL_law_347 : decode cL_law 347 = .ok (.aload_n 0, 1) := by decide +kernel
theorem dL_law_348 : decode cL_law 348 = .ok (.iload_n 3, 1) := by decide +kernel
theorem dL_law_349 : decode cL_law 349 = .ok (.iconst 1, 1) := by decide +kernel
theorem dL_law_350 : decode cL_law 350 = .ok (.iadd, 1) := by decide +kernel
theorem dL_law_351 : decode cL_law 351 = .ok (.iaload, 1) := by decide +kernel
theorem dL_law_352 : decode cL_law 352 = .ok (.invokevirtual 56, 3) := by decide +kernel
theorem dL_law_355 : decode cL_law 355 = .ok (.aload_n 2, 1) := by decide +kernel
theorem dL_law_356 : decode cL_law 356 = .ok (.aload_n 0, 1) := by decide +kernel
theorem dL_law_357 : decode cL_law 357 = .ok (.iload_n 3, 1) := by decide +kernel
theorem dL_law_358 : decode cL_law 358 = .ok (.iconst 1, 1) := by decide +kernel
theorem dL_law_359 : decode cL_law 359 = .ok (.iadd, 1) := by decide +kernel
theorem dL_law_360 : decode cL_law 360 = .ok (.iaload, 1) := by decide +kernel
theorem dL_law_361 : decode cL_law 361 = .ok (.invokevirtual 59, 3) := by decide +kernel
theorem dL_law_364 : decode cL_law 364 = .ok (.if_icmp .eq 289, 3) := by decide +kernel
theorem dL_law_367 : decode cL_law 367 = .ok (.iconst 0, 1) := by decide +kernel
theorem dL_law_368 : decode cL_law 368 = .ok (.ireturn, 1) := by decide +kernel
theorem dL_law_369 : decode cL_law 369 = .ok (.aload_n 1, 1) := by decide +kernel
theorem dL_law_370 : decode cL_law 370 = .ok (.aload_n 0, 1) := by decide +kernel
theorem dL_law_371 : decode cL_law 371 = .ok (.iload_n 3, 1) := by decide +kernel
theorem dL_law_372 : decode cL_law 372 = .ok (.iconst 1, 1) := by decide +kernel
theorem dL_law_373 : decode cL_law 373 = .ok (.iadd, 1) := by decide +kernel
theorem dL_law_374 : decode cL_law 374 = .ok (.iaload, 1) := by decide +kernel
theorem dL_law_375 : decode cL_law 375 = .ok (.aload_n 0, 1) := by decide +kernel
theorem dL_law_376 : decode cL_law 376 = .ok (.iload_n 3, 1) := by decide +kernel
theorem dL_law_377 : decode cL_law 377 = .ok (.iconst 2, 1) := by decide +kernel
theorem dL_law_378 : decode cL_law 378 = .ok (.iadd, 1) := by decide +kernel
theorem dL_law_379 : decode cL_law 379 = .ok (.iaload, 1) := by decide +kernel
theorem dL_law_380 : decode cL_law 380 = .ok (.invokevirtual 60, 3) := by decide +kernel
theorem dL_law_383 : decode cL_law 383 = .ok (.aload_n 2, 1) := by decide +kernel
theorem dL_law_384 : decode cL_law 384 = .ok (.aload_n 0, 1) := by decide +kernel
theorem dL_law_385 : decode cL_law 385 = .ok (.iload_n 3, 1) := by decide +kernel
theorem dL_law_386 : decode cL_law 386 = .ok (.iconst 1, 1) := by decide +kernel
theorem dL_law_387 : decode cL_law 387 = .ok (.iadd, 1) := by decide +kernel
theorem dL_law_388 : decode cL_law 388 = .ok (.iaload, 1) := by decide +kernel
theorem dL_law_389 : decode cL_law 389 = .ok (.aload_n 0, 1) := by decide +kernel
theorem dL_law_390 : decode cL_law 390 = .ok (.iload_n 3, 1) := by decide +kernel
theorem dL_law_391 : decode cL_law 391 = .ok (.iconst 2, 1) := by decide +kernel
theorem dL_law_392 : decode cL_law 392 = .ok (.iadd, 1) := by decide +kernel
theorem dL_law_393 : decode cL_law 393 = .ok (.iaload, 1) := by decide +kernel
theorem dL_law_394 : decode cL_law 394 = .ok (.invokevirtual 63, 3) := by decide +kernel
theorem dL_law_397 : decode cL_law 397 = .ok (.if_icmp .eq 256, 3) := by decide +kernel
theorem dL_law_400 : decode cL_law 400 = .ok (.iconst 0, 1) := by decide +kernel
theorem dL_law_401 : decode cL_law 401 = .ok (.ireturn, 1) := by decide +kernel
theorem dL_law_402 : decode cL_law 402 = .ok (.aload_n 1, 1) := by decide +kernel
theorem dL_law_403 : decode cL_law 403 = .ok (.aload_n 0, 1) := by decide +kernel
theorem dL_law_404 : decode cL_law 404 = .ok (.iload_n 3, 1) := by decide +kernel
theorem dL_law_405 : decode cL_law 405 = .ok (.iconst 1, 1) := by decide +kernel
theorem dL_law_406 : decode cL_law 406 = .ok (.iadd, 1) := by decide +kernel
theorem dL_law_407 : decode cL_law 407 = .ok (.iaload, 1) := by decide +kernel
theorem dL_law_408 : decode cL_law 408 = .ok (.aload_n 0, 1) := by decide +kernel
theorem dL_law_409 : decode cL_law 409 = .ok (.iload_n 3, 1) := by decide +kernel
theorem dL_law_410 : decode cL_law 410 = .ok (.iconst 2, 1) := by decide +kernel
theorem dL_law_411 : decode cL_law 411 = .ok (.iadd, 1) := by decide +kernel
theorem dL_law_412 : decode cL_law 412 = .ok (.iaload, 1) := by decide +kernel
theorem dL_law_413 : decode cL_law 413 = .ok (.invokevirtual 64, 3) := by decide +kernel
theorem dL_law_416 : decode cL_law 416 = .ok (.aload_n 2, 1) := by decide +kernel
theorem dL_law_417 : decode cL_law 417 = .ok (.aload_n 0, 1) := by decide +kernel
theorem dL_law_418 : decode cL_law 418 = .ok (.iload_n 3, 1) := by decide +kernel
theorem dL_law_419 : decode cL_law 419 = .ok (.iconst 1, 1) := by decide +kernel
theorem dL_law_420 : decode cL_law 420 = .ok (.iadd, 1) := by decide +kernel
theorem dL_law_421 : decode cL_law 421 = .ok (.iaload, 1) := by decide +kernel
theorem dL_law_422 : decode cL_law 422 = .ok (.aload_n 0, 1) := by decide +kernel
theorem dL_law_423 : decode cL_law 423 = .ok (.iload_n 3, 1) := by decide +kernel
theorem dL_law_424 : decode cL_law 424 = .ok (.iconst 2, 1) := by decide +kernel
theorem dL_law_425 : decode cL_law 425 = .ok (.iadd, 1) := by decide +kernel
theorem dL_law_426 : decode cL_law 426 = .ok (.iaload, 1) := by decide +kernel
theorem dL_law_427 : decode cL_law 427 = .ok (.invokevirtual 67, 3) := by decide +kernel
theorem dL_law_430 : decode cL_law 430 = .ok (.if_icmp .eq 223, 3) := by decide +kernel
theorem dL_law_433 : decode cL_law 433 = .ok (.iconst 0, 1) := by decide +kernel
theorem dL_law_434 : decode cL_law 434 = .ok (.ireturn, 1) := by decide +kernel
theorem dL_law_435 : decode cL_law 435 = .ok (.aload_n 1, 1) := by decide +kernel
theorem dL_law_436 : decode cL_law 436 = .ok (.aload_n 0, 1) := by decide +kernel
theorem dL_law_437 : decode cL_law 437 = .ok (.iload_n 3, 1) := by decide +kernel
theorem dL_law_438 : decode cL_law 438 = .ok (.iconst 1, 1) := by decide +kernel
theorem dL_law_439 : decode cL_law 439 = .ok (.iadd, 1) := by decide +kernel
theorem dL_law_440 : decode cL_law 440 = .ok (.iaload, 1) := by decide +kernel
theorem dL_law_441 : decode cL_law 441 = .ok (.aload_n 0, 1) := by decide +kernel
theorem dL_law_442 : decode cL_law 442 = .ok (.iload_n 3, 1) := by decide +kernel
theorem dL_law_443 : decode cL_law 443 = .ok (.iconst 2, 1) := by decide +kernel
theorem dL_law_444 : decode cL_law 444 = .ok (.iadd, 1) := by decide +kernel
theorem dL_law_445 : decode cL_law 445 = .ok (.iaload, 1) := by decide +kernel
theorem dL_law_446 : decode cL_law 446 = .ok (.aload_n 0, 1) := by decide +kernel
theorem dL_law_447 : decode cL_law 447 = .ok (.iload_n 3, 1) := by decide +kernel
theorem dL_law_448 : decode cL_law 448 = .ok (.iconst 3, 1) := by decide +kernel
theorem dL_law_449 : decode cL_law 449 = .ok (.iadd, 1) := by decide +kernel
theorem dL_law_450 : decode cL_law 450 = .ok (.iaload, 1) := by decide +kernel
theorem dL_law_451 : decode cL_law 451 = .ok (.invokevirtual 68, 3) := by decide +kernel
theorem dL_law_454 : decode cL_law 454 = .ok (.aload_n 2, 1) := by decide +kernel
theorem dL_law_455 : decode cL_law 455 = .ok (.aload_n 0, 1) := by decide +kernel
theorem dL_law_456 : decode cL_law 456 = .ok (.iload_n 3, 1) := by decide +kernel
theorem dL_law_457 : decode cL_law 457 = .ok (.iconst 1, 1) := by decide +kernel
theorem dL_law_458 : decode cL_law 458 = .ok (.iadd, 1) := by decide +kernel
theorem dL_law_459 : decode cL_law 459 = .ok (.iaload, 1) := by decide +kernel
theorem dL_law_460 : decode cL_law 460 = .ok (.aload_n 0, 1) := by decide +kernel
theorem dL_law_461 : decode cL_law 461 = .ok (.iload_n 3, 1) := by decide +kernel
theorem dL_law_462 : decode cL_law 462 = .ok (.iconst 2, 1) := by decide +kernel
theorem dL_law_463 : decode cL_law 463 = .ok (.iadd, 1) := by decide +kernel
theorem dL_law_464 : decode cL_law 464 = .ok (.iaload, 1) := by decide +kernel
theorem dL_law_465 : decode cL_law 465 = .ok (.aload_n 0, 1) := by decide +kernel
theorem dL_law_466 : decode cL_law 466 = .ok (.iload_n 3, 1) := by decide +kernel
theorem dL_law_467 : decode cL_law 467 = .ok (.iconst 3, 1) := by decide +kernel
theorem dL_law_468 : decode cL_law 468 = .ok (.iadd, 1) := by decide +kernel
theorem dL_law_469 : decode cL_law 469 = .ok (.iaload, 1) := by decide +kernel
theorem dL_law_470 : decode cL_law 470 = .ok (.invokevirtual 72, 3) := by decide +kernel
theorem dL_law_473 : decode cL_law 473 = .ok (.if_icmp .eq 180, 3) := by decide +kernel
theorem dL_law_476 : decode cL_law 476 = .ok (.iconst 0, 1) := by decide +kernel
theorem dL_law_477 : decode cL_law 477 = .ok (.ireturn, 1) := by decide +kernel
theorem dL_law_478 : decode cL_law 478 = .ok (.aload_n 1, 1) := by decide +kernel
theorem dL_law_479 : decode cL_law 479 = .ok (.invokevirtual 73, 3) := by decide +kernel
theorem dL_law_482 : decode cL_law 482 = .ok (.aload_n 2, 1) := by decide +kernel
theorem dL_law_483 : decode cL_law 483 = .ok (.invokevirtual 76, 3) := by decide +kernel
theorem dL_law_486 : decode cL_law 486 = .ok (.if_icmp .eq 167, 3) := by decide +kernel
theorem dL_law_489 : decode cL_law 489 = .ok (.iconst 0, 1) := by decide +kernel
theorem dL_law_490 : decode cL_law 490 = .ok (.ireturn, 1) := by decide +kernel
theorem dL_law_491 : decode cL_law 491 = .ok (.aload_n 1, 1) := by decide +kernel
theorem dL_law_492 : decode cL_law 492 = .ok (.aload_n 0, 1) := by decide +kernel
theorem dL_law_493 : decode cL_law 493 = .ok (.iload_n 3, 1) := by decide +kernel
theorem dL_law_494 : decode cL_law 494 = .ok (.iconst 1, 1) := by decide +kernel
theorem dL_law_495 : decode cL_law 495 = .ok (.iadd, 1) := by decide +kernel
theorem dL_law_496 : decode cL_law 496 = .ok (.iaload, 1) := by decide +kernel
theorem dL_law_497 : decode cL_law 497 = .ok (.invokevirtual 77, 3) := by decide +kernel
theorem dL_law_500 : decode cL_law 500 = .ok (.aload_n 2, 1) := by decide +kernel
theorem dL_law_501 : decode cL_law 501 = .ok (.aload_n 0, 1) := by decide +kernel
theorem dL_law_502 : decode cL_law 502 = .ok (.iload_n 3, 1) := by decide +kernel
theorem dL_law_503 : decode cL_law 503 = .ok (.iconst 1, 1) := by decide +kernel
theorem dL_law_504 : decode cL_law 504 = .ok (.iadd, 1) := by decide +kernel
theorem dL_law_505 : decode cL_law 505 = .ok (.iaload, 1) := by decide +kernel
theorem dL_law_506 : decode cL_law 506 = .ok (.invokevirtual 80, 3) := by decide +kernel
theorem dL_law_509 : decode cL_law 509 = .ok (.if_icmp .eq 144, 3) := by decide +kernel
theorem dL_law_512 : decode cL_law 512 = .ok (.iconst 0, 1) := by decide +kernel
theorem dL_law_513 : decode cL_law 513 = .ok (.ireturn, 1) := by decide +kernel
theorem dL_law_514 : decode cL_law 514 = .ok (.aload_n 1, 1) := by decide +kernel
theorem dL_law_515 : decode cL_law 515 = .ok (.aload_n 0, 1) := by decide +kernel
theorem dL_law_516 : decode cL_law 516 = .ok (.iload_n 3, 1) := by decide +kernel
theorem dL_law_517 : decode cL_law 517 = .ok (.iconst 1, 1) := by decide +kernel
theorem dL_law_518 : decode cL_law 518 = .ok (.iadd, 1) := by decide +kernel
theorem dL_law_519 : decode cL_law 519 = .ok (.iaload, 1) := by decide +kernel
theorem dL_law_520 : decode cL_law 520 = .ok (.invokevirtual 81, 3) := by decide +kernel
theorem dL_law_523 : decode cL_law 523 = .ok (.aload_n 2, 1) := by decide +kernel
theorem dL_law_524 : decode cL_law 524 = .ok (.aload_n 0, 1) := by decide +kernel
theorem dL_law_525 : decode cL_law 525 = .ok (.iload_n 3, 1) := by decide +kernel
theorem dL_law_526 : decode cL_law 526 = .ok (.iconst 1, 1) := by decide +kernel
theorem dL_law_527 : decode cL_law 527 = .ok (.iadd, 1) := by decide +kernel
theorem dL_law_528 : decode cL_law 528 = .ok (.iaload, 1) := by decide +kernel
theorem dL_law_529 : decode cL_law 529 = .ok (.invokevirtual 84, 3) := by decide +kernel
theorem dL_law_532 : decode cL_law 532 = .ok (.if_icmp .eq 121, 3) := by decide +kernel
theorem dL_law_535 : decode cL_law 535 = .ok (.iconst 0, 1) := by decide +kernel
theorem dL_law_536 : decode cL_law 536 = .ok (.ireturn, 1) := by decide +kernel
theorem dL_law_537 : decode cL_law 537 = .ok (.aload_n 1, 1) := by decide +kernel
theorem dL_law_538 : decode cL_law 538 = .ok (.aload_n 0, 1) := by decide +kernel
theorem dL_law_539 : decode cL_law 539 = .ok (.iload_n 3, 1) := by decide +kernel
theorem dL_law_540 : decode cL_law 540 = .ok (.iconst 1, 1) := by decide +kernel
theorem dL_law_541 : decode cL_law 541 = .ok (.iadd, 1) := by decide +kernel
theorem dL_law_542 : decode cL_law 542 = .ok (.iaload, 1) := by decide +kernel
theorem dL_law_543 : decode cL_law 543 = .ok (.aload_n 0, 1) := by decide +kernel
theorem dL_law_544 : decode cL_law 544 = .ok (.iload_n 3, 1) := by decide +kernel
theorem dL_law_545 : decode cL_law 545 = .ok (.iconst 2, 1) := by decide +kernel
theorem dL_law_546 : decode cL_law 546 = .ok (.iadd, 1) := by decide +kernel
theorem dL_law_547 : decode cL_law 547 = .ok (.iaload, 1) := by decide +kernel
theorem dL_law_548 : decode cL_law 548 = .ok (.invokevirtual 85, 3) := by decide +kernel
theorem dL_law_551 : decode cL_law 551 = .ok (.aload_n 2, 1) := by decide +kernel
theorem dL_law_552 : decode cL_law 552 = .ok (.aload_n 0, 1) := by decide +kernel
theorem dL_law_553 : decode cL_law 553 = .ok (.iload_n 3, 1) := by decide +kernel
theorem dL_law_554 : decode cL_law 554 = .ok (.iconst 1, 1) := by decide +kernel
theorem dL_law_555 : decode cL_law 555 = .ok (.iadd, 1) := by decide +kernel
theorem dL_law_556 : decode cL_law 556 = .ok (.iaload, 1) := by decide +kernel
theorem dL_law_557 : decode cL_law 557 = .ok (.aload_n 0, 1) := by decide +kernel
theorem dL_law_558 : decode cL_law 558 = .ok (.iload_n 3, 1) := by decide +kernel
theorem dL_law_559 : decode cL_law 559 = .ok (.iconst 2, 1) := by decide +kernel
theorem dL_law_560 : decode cL_law 560 = .ok (.iadd, 1) := by decide +kernel
theorem dL_law_561 : decode cL_law 561 = .ok (.iaload, 1) := by decide +kernel
theorem dL_law_562 : decode cL_law 562 = .ok (.invokevirtual 88, 3) := by decide +kernel
theorem dL_law_565 : decode cL_law 565 = .ok (.if_icmp .eq 88, 3) := by decide +kernel
theorem dL_law_568 : decode cL_law 568 = .ok (.iconst 0, 1) := by decide +kernel
theorem dL_law_569 : decode cL_law 569 = .ok (.ireturn, 1) := by decide +kernel
theorem dL_law_570 : decode cL_law 570 = .ok (.aload_n 1, 1) := by decide +kernel
theorem dL_law_571 : decode cL_law 571 = .ok (.aload_n 0, 1) := by decide +kernel
theorem dL_law_572 : decode cL_law 572 = .ok (.iload_n 3, 1) := by decide +kernel
theorem dL_law_573 : decode cL_law 573 = .ok (.iconst 1, 1) := by decide +kernel
theorem dL_law_574 : decode cL_law 574 = .ok (.iadd, 1) := by decide +kernel
theorem dL_law_575 : decode cL_law 575 = .ok (.iaload, 1) := by decide +kernel
theorem dL_law_576 : decode cL_law 576 = .ok (.invokevirtual 89, 3) := by decide +kernel
theorem dL_law_579 : decode cL_law 579 = .ok (.aload_n 2, 1) := by decide +kernel
theorem dL_law_580 : decode cL_law 580 = .ok (.aload_n 0, 1) := by decide +kernel
theorem dL_law_581 : decode cL_law 581 = .ok (.iload_n 3, 1) := by decide +kernel
theorem dL_law_582 : decode cL_law 582 = .ok (.iconst 1, 1) := by decide +kernel
theorem dL_law_583 : decode cL_law 583 = .ok (.iadd, 1) := by decide +kernel
theorem dL_law_584 : decode cL_law 584 = .ok (.iaload, 1) := by decide +kernel
theorem dL_law_585 : decode cL_law 585 = .ok (.invokevirtual 92, 3) := by decide +kernel
theorem dL_law_588 : decode cL_law 588 = .ok (.if_icmp .eq 65, 3) := by decide +kernel
theorem dL_law_591 : decode cL_law 591 = .ok (.iconst 0, 1) := by decide +kernel
theorem dL_law_592 : decode cL_law 592 = .ok (.ireturn, 1) := by decide +kernel
theorem dL_law_593 : decode cL_law 593 = .ok (.aload_n 1, 1) := by decide +kernel
theorem dL_law_594 : decode cL_law 594 = .ok (.aload_n 0, 1) := by decide +kernel
theorem dL_law_595 : decode cL_law 595 = .ok (.iload_n 3, 1) := by decide +kernel
theorem dL_law_596 : decode cL_law 596 = .ok (.iconst 1, 1) := by decide +kernel
theorem dL_law_597 : decode cL_law 597 = .ok (.iadd, 1) := by decide +kernel
theorem dL_law_598 : decode cL_law 598 = .ok (.iaload, 1) := by decide +kernel
theorem dL_law_599 : decode cL_law 599 = .ok (.invokevirtual 93, 3) := by decide +kernel
theorem dL_law_602 : decode cL_law 602 = .ok (.aload_n 2, 1) := by decide +kernel
theorem dL_law_603 : decode cL_law 603 = .ok (.aload_n 0, 1) := by decide +kernel
theorem dL_law_604 : decode cL_law 604 = .ok (.iload_n 3, 1) := by decide +kernel
theorem dL_law_605 : decode cL_law 605 = .ok (.iconst 1, 1) := by decide +kernel
theorem dL_law_606 : decode cL_law 606 = .ok (.iadd, 1) := by decide +kernel
theorem dL_law_607 : decode cL_law 607 = .ok (.iaload, 1) := by decide +kernel
theorem dL_law_608 : decode cL_law 608 = .ok (.invokevirtual 96, 3) := by decide +kernel
theorem dL_law_611 : decode cL_law 611 = .ok (.if_icmp .eq 42, 3) := by decide +kernel
theorem dL_law_614 : decode cL_law 614 = .ok (.iconst 0, 1) := by decide +kernel
theorem dL_law_615 : decode cL_law 615 = .ok (.ireturn, 1) := by decide +kernel
theorem dL_law_616 : decode cL_law 616 = .ok (.aload_n 1, 1) := by decide +kernel
theorem dL_law_617 : decode cL_law 617 = .ok (.aload_n 0, 1) := by decide +kernel
theorem dL_law_618 : decode cL_law 618 = .ok (.iload_n 3, 1) := by decide +kernel
theorem dL_law_619 : decode cL_law 619 = .ok (.iconst 1, 1) := by decide +kernel
theorem dL_law_620 : decode cL_law 620 = .ok (.iadd, 1) := by decide +kernel
theorem dL_law_621 : decode cL_law 621 = .ok (.iaload, 1) := by decide +kernel
theorem dL_law_622 : decode cL_law 622 = .ok (.invokevirtual 97, 3) := by decide +kernel
theorem dL_law_625 : decode cL_law 625 = .ok (.aload_n 2, 1) := by decide +kernel
theorem dL_law_626 : decode cL_law 626 = .ok (.aload_n 0, 1) := by decide +kernel
theorem dL_law_627 : decode cL_law 627 = .ok (.iload_n 3, 1) := by decide +kernel
theorem dL_law_628 : decode cL_law 628 = .ok (.iconst 1, 1) := by decide +kernel
theorem dL_law_629 : decode cL_law 629 = .ok (.iadd, 1) := by decide +kernel
theorem dL_law_630 : decode cL_law 630 = .ok (.iaload, 1) := by decide +kernel
theorem dL_law_631 : decode cL_law 631 = .ok (.invokevirtual 100, 3) := by decide +kernel
theorem dL_law_634 : decode cL_law 634 = .ok (.if_icmp .eq 19, 3) := by decide +kernel
theorem dL_law_637 : decode cL_law 637 = .ok (.iconst 0, 1) := by decide +kernel
theorem dL_law_638 : decode cL_law 638 = .ok (.ireturn, 1) := by decide +kernel
theorem dL_law_639 : decode cL_law 639 = .ok (.aload_n 1, 1) := by decide +kernel
theorem dL_law_640 : decode cL_law 640 = .ok (.invokevirtual 101, 3) := by decide +kernel
theorem dL_law_643 : decode cL_law 643 = .ok (.aload_n 2, 1) := by decide +kernel
theorem dL_law_644 : decode cL_law 644 = .ok (.invokevirtual 105, 3) := by decide +kernel
theorem dL_law_647 : decode cL_law 647 = .ok (.lcmp, 1) := by decide +kernel
theorem dL_law_648 : decode cL_law 648 = .ok (.ifCond .eq 5, 3) := by decide +kernel
theorem dL_law_651 : decode cL_law 651 = .ok (.iconst 0, 1) := by decide +kernel
theorem dL_law_652 : decode cL_law 652 = .ok (.ireturn, 1) := by decide +kernel
theorem dL_law_653 : decode cL_law 653 = .ok (.iinc 3 4, 3) := by decide +kernel
theorem dL_law_656 : decode cL_law 656 = .ok (.goto (-638), 3) := by decide +kernel
theorem dL_law_659 : decode cL_law 659 = .ok (.iconst 1, 1) := by decide +kernel
theorem dL_law_660 : decode cL_law 660 = .ok (.ireturn, 1) := by decide +kernel
end
section
/-! which word stands where in the tables; allW: those that move by themselves -/
def allW : List Cond := lw_tbl.filter goodWord
theorem tmL {w : Cond} (h : w ∈ lw_tbl) (g : goodWord w = true) : w ∈ allW := List.mem_filter.mpr ⟨h, g⟩
theorem tm0 {w : Cond} (h : w ∈ k2_sels lw_privs) (g : goodWord w = true) : w ∈ allW := tmL (List.mem_append_left _ h) g
theorem tm1 {w : Cond} (h : w ∈ tables_1_1) (g : goodWord w = true) : w ∈ allW := tmL (List.mem_append_right _ (List.mem_append_left _ h)) g
theorem tm2 {w : Cond} (h : w ∈ tables_1_2) (g : goodWord w = true) : w ∈ allW := tmL (List.mem_append_right _ (List.mem_append_right _ (List.mem_append_left _ h))) g
theorem tm3 {w : Cond} (h : w ∈ tables_1_3) (g : goodWord w = true) : w ∈ allW := tmL (List.mem_append_right _ (List.mem_append_right _ (List.mem_append_right _ (List.mem_append_left _ h)))) g
theorem tm4 {w : Cond} (h : w ∈ tables_1_4) (g : goodWord w = true) : w ∈ allW := tmL (List.mem_append_right _ (List.mem_append_right _ (List.mem_append_right _ (List.mem_append_right _ h)))) g
theorem knL : Cond.initialized RL ∈ allW := tm1 (List.mem_of_getElem? (i := 0) (by decide +kernel)) (by decide +kernel)
theorem knX8 : Cond.initialized RX8 ∈ allW := tm1 (List.mem_of_getElem? (i := 1) (by decide +kernel)) (by decide +kernel)
theorem knX5 : Cond.initialized RX5 ∈ allW := tm1 (List.mem_of_getElem? (i := 2) (by decide +kernel)) (by decide +kernel)
theorem knX6 : Cond.initialized RX6 ∈ allW := tm1 (List.mem_of_getElem? (i := 3) (by decide +kernel)) (by decide +kernel)
theorem knX4 : Cond.initialized RX4 ∈ allW := tm1 (List.mem_of_getElem? (i := 4) (by decide +kernel)) (by decide +kernel)
theorem knX2 : Cond.initialized RX2 ∈ allW := tm1 (List.mem_of_getElem? (i := 5) (by decide +kernel)) (by decide +kernel)
theorem knX7 : Cond.initialized RX7 ∈ allW := tm1 (List.mem_of_getElem? (i := 6) (by decide +kernel)) (by decide +kernel)
theorem knX3 : Cond.initialized RX3 ∈ allW := tm1 (List.mem_of_getElem? (i := 7) (by decide +kernel)) (by decide +kernel)
theorem knX1 : Cond.initialized RX1 ∈ allW := tm1 (List.mem_of_getElem? (i := 8) (by decide +kernel)) (by decide +kernel)
theorem knX0 : Cond.initialized RX0 ∈ allW := tm1 (List.mem_of_getElem? (i := 9) (by decide +kernel)) (by decide +kernel)
theorem knX9 : Cond.initialized RX9 ∈ allW := tm1 (List.mem_of_getElem? (i := 10) (by decide +kernel)) (by decide +kernel)
theorem knMath : Cond.initialized "java/lang/Math" ∈ allW := tm1 (List.mem_of_getElem? (i := 11) (by decide +kernel)) (by decide +kernel)
theorem knSys : Cond.initialized "java/lang/System" ∈ allW := tm1 (List.mem_of_getElem? (i := 12) (by decide +kernel)) (by decide +kernel)
theorem knJ7 : Cond.initialized RJ7 ∈ allW := tm1 (List.mem_of_getElem? (i := 13) (by decide +kernel)) (by decide +kernel)
theorem klL_7 : Cond.classLink RL 7 RX8 ∈ allW := tm1 (List.mem_of_getElem? (i := 14) (by decide +kernel)) (by decide +kernel)
theorem kjX8 : Cond.instantiable RX8 11 ∈ allW := tm1 (List.mem_of_getElem? (i := 15) (by decide +kernel)) (by decide +kernel)
theorem kmL_9 : Cond.methodLink RL 9 yX8_init ∈ allW := tm1 (List.mem_of_getElem? (i := 16) (by decide +kernel)) (by decide +kernel)
theorem kiX8_init : Cond.instanceMethod yX8_init ∈ allW := tm1 (List.mem_of_getElem? (i := 17) (by decide +kernel)) (by decide +kernel)
theorem kcX8_init : Cond.code yX8_init cX8_init 2 none ∈ allW := tm1 (List.mem_of_getElem? (i := 18) rfl) rfl
theorem kdX8_init : yX8_init.cls ≠ "java/lang/invoke/MethodHandle" ∧ yX8_init.cls ≠ "java/lang/invoke/VarHandle" ∧ (parseMethodDescriptor yX8_init.desc).map (fun d => d.parameters.length) = some 0 := by decide +kernel
theorem kmX8_3 : Cond.methodLink RX8 3 objectInit ∈ allW := tm1 (List.mem_of_getElem? (i := 19) (by decide +kernel)) (by decide +kernel)
theorem kiObj_init : Cond.instanceMethod objectInit ∈ allW := tm1 (List.mem_of_getElem? (i := 20) (by decide +kernel)) (by decide +kernel)
theorem kcObj_init : Cond.code objectInit ⟨#[0xb1]⟩ 1 none ∈ allW := tm1 (List.mem_of_getElem? (i := 21) rfl) rfl
theorem klX8_9 : Cond.classLink RX8 9 RX5 ∈ allW := tm1 (List.mem_of_getElem? (i := 22) (by decide +kernel)) (by decide +kernel)
theorem kjX5 : Cond.instantiable RX5 7 ∈ allW := tm1 (List.mem_of_getElem? (i := 23) (by decide +kernel)) (by decide +kernel)
theorem kmX8_11 : Cond.methodLink RX8 11 yX5_init ∈ allW := tm1 (List.mem_of_getElem? (i := 24) (by decide +kernel)) (by decide +kernel)
theorem kiX5_init : Cond.instanceMethod yX5_init ∈ allW := tm1 (List.mem_of_getElem? (i := 25) (by decide +kernel)) (by decide +kernel)
theorem kcX5_init : Cond.code yX5_init cX5_init 1 none ∈ allW := tm1 (List.mem_of_getElem? (i := 26) rfl) rfl
theorem kdX5_init : yX5_init.cls ≠ "java/lang/invoke/MethodHandle" ∧ yX5_init.cls ≠ "java/lang/invoke/VarHandle" ∧ (parseMethodDescriptor yX5_init.desc).map (fun d => d.parameters.length) = some 0 := by decide +kernel
theorem kmX5_3 : Cond.methodLink RX5 3 objectInit ∈ allW := tm1 (List.mem_of_getElem? (i := 27) (by decide +kernel)) (by decide +kernel)
theorem kmX5_21 : Cond.methodLink RX5 21 yX5_empty ∈ allW := tm1 (List.mem_of_getElem? (i := 28) (by decide +kernel)) (by decide +kernel)
theorem kiX5_empty : Cond.instanceMethod yX5_empty ∈ allW := tm1 (List.mem_of_getElem? (i := 29) (by decide +kernel)) (by decide +kernel)
theorem ksX5_empty : Cond.selects RX5 yX5_empty yX5_empty ∈ allW := tm1 (List.mem_of_getElem? (i := 30) (by decide +kernel)) (by decide +kernel)
theorem kcX5_empty : Cond.code yX5_empty cX5_empty 1 none ∈ allW := tm1 (List.mem_of_getElem? (i := 31) rfl) rfl
theorem kdX5_empty : yX5_empty.cls ≠ "java/lang/invoke/MethodHandle" ∧ yX5_empty.cls ≠ "java/lang/invoke/VarHandle" ∧ (parseMethodDescriptor yX5_empty.desc).map (fun d => d.parameters.length) = some 0 := by decide +kernel
theorem kfX5_9 : Cond.fieldLink RX5 9 (TX5 0).1 (TX5 0).2.1 (TX5 0).2.2.1 ∈ allW := tm1 (List.mem_of_getElem? (i := 32) (by decide +kernel)) (by decide +kernel)
theorem kfX7_55 : Cond.fieldLink RX7 55 (TX5 0).1 (TX5 0).2.1 (TX5 0).2.2.1 ∈ allW := tm1 (List.mem_of_getElem? (i := 33) (by decide +kernel)) (by decide +kernel)
theorem kfX8_122 : Cond.fieldLink RX8 122 (TX5 0).1 (TX5 0).2.1 (TX5 0).2.2.1 ∈ allW := tm1 (List.mem_of_getElem? (i := 34) (by decide +kernel)) (by decide +kernel)
theorem kfX5_15 : Cond.fieldLink RX5 15 (TX5 1).1 (TX5 1).2.1 (TX5 1).2.2.1 ∈ allW := tm1 (List.mem_of_getElem? (i := 35) (by decide +kernel)) (by decide +kernel)
theorem kfX7_71 : Cond.fieldLink RX7 71 (TX5 1).1 (TX5 1).2.1 (TX5 1).2.2.1 ∈ allW := tm1 (List.mem_of_getElem? (i := 36) (by decide +kernel)) (by decide +kernel)
theorem kfX8_126 : Cond.fieldLink RX8 126 (TX5 1).1 (TX5 1).2.1 (TX5 1).2.2.1 ∈ allW := tm1 (List.mem_of_getElem? (i := 37) (by decide +kernel)) (by decide +kernel)
theorem kfX5_18 : Cond.fieldLink RX5 18 (TX5 2).1 (TX5 2).2.1 (TX5 2).2.2.1 ∈ allW := tm1 (List.mem_of_getElem? (i := 38) (by decide +kernel)) (by decide +kernel)
theorem kfX4_15 : Cond.fieldLink RX4 15 (TX5 2).1 (TX5 2).2.1 (TX5 2).2.2.1 ∈ allW := tm1 (List.mem_of_getElem? (i := 39) (by decide +kernel)) (by decide +kernel)
theorem kfX5_24 : Cond.fieldLink RX5 24 (TX5 3).1 (TX5 3).2.1 (TX5 3).2.2.1 ∈ allW := tm1 (List.mem_of_getElem? (i := 40) (by decide +kernel)) (by decide +kernel)
theorem kfX0_61 : Cond.fieldLink RX0 61 (TX5 3).1 (TX5 3).2.1 (TX5 3).2.2.1 ∈ allW := tm1 (List.mem_of_getElem? (i := 41) (by decide +kernel)) (by decide +kernel)
theorem kfX7_65 : Cond.fieldLink RX7 65 (TX5 3).1 (TX5 3).2.1 (TX5 3).2.2.1 ∈ allW := tm1 (List.mem_of_getElem? (i := 42) (by decide +kernel)) (by decide +kernel)
theorem kfX6_78 : Cond.fieldLink RX6 78 (TX5 3).1 (TX5 3).2.1 (TX5 3).2.2.1 ∈ allW := tm1 (List.mem_of_getElem? (i := 43) (by decide +kernel)) (by decide +kernel)
theorem kfX8_179 : Cond.fieldLink RX8 179 (TX5 3).1 (TX5 3).2.1 (TX5 3).2.2.1 ∈ allW := tm1 (List.mem_of_getElem? (i := 44) (by decide +kernel)) (by decide +kernel)
theorem kfX5_28 : Cond.fieldLink RX5 28 (TX5 4).1 (TX5 4).2.1 (TX5 4).2.2.1 ∈ allW := tm1 (List.mem_of_getElem? (i := 45) (by decide +kernel)) (by decide +kernel)
theorem kfX7_68 : Cond.fieldLink RX7 68 (TX5 4).1 (TX5 4).2.1 (TX5 4).2.2.1 ∈ allW := tm1 (List.mem_of_getElem? (i := 46) (by decide +kernel)) (by decide +kernel)
theorem kfX6_66 : Cond.fieldLink RX6 66 (TX5 4).1 (TX5 4).2.1 (TX5 4).2.2.1 ∈ allW := tm1 (List.mem_of_getElem? (i := 47) (by decide +kernel)) (by decide +kernel)
theorem kfX8_238 : Cond.fieldLink RX8 238 (TX5 4).1 (TX5 4).2.1 (TX5 4).2.2.1 ∈ allW := tm1 (List.mem_of_getElem? (i := 48) (by decide +kernel)) (by decide +kernel)
theorem kfX5_31 : Cond.fieldLink RX5 31 (TX5 5).1 (TX5 5).2.1 (TX5 5).2.2.1 ∈ allW := tm1 (List.mem_of_getElem? (i := 49) (by decide +kernel)) (by decide +kernel)
theorem kfX7_28 : Cond.fieldLink RX7 28 (TX5 5).1 (TX5 5).2.1 (TX5 5).2.2.1 ∈ allW := tm1 (List.mem_of_getElem? (i := 50) (by decide +kernel)) (by decide +kernel)
theorem kfX6_69 : Cond.fieldLink RX6 69 (TX5 5).1 (TX5 5).2.1 (TX5 5).2.2.1 ∈ allW := tm1 (List.mem_of_getElem? (i := 51) (by decide +kernel)) (by decide +kernel)
theorem kfX8_241 : Cond.fieldLink RX8 241 (TX5 5).1 (TX5 5).2.1 (TX5 5).2.2.1 ∈ allW := tm1 (List.mem_of_getElem? (i := 52) (by decide +kernel)) (by decide +kernel)
theorem kfX5_34 : Cond.fieldLink RX5 34 (TX5 6).1 (TX5 6).2.1 (TX5 6).2.2.1 ∈ allW := tm1 (List.mem_of_getElem? (i := 53) (by decide +kernel)) (by decide +kernel)
theorem kfX7_35 : Cond.fieldLink RX7 35 (TX5 6).1 (TX5 6).2.1 (TX5 6).2.2.1 ∈ allW := tm1 (List.mem_of_getElem? (i := 54) (by decide +kernel)) (by decide +kernel)
theorem kfX6_72 : Cond.fieldLink RX6 72 (TX5 6).1 (TX5 6).2.1 (TX5 6).2.2.1 ∈ allW := tm1 (List.mem_of_getElem? (i := 55) (by decide +kernel)) (by decide +kernel)
theorem kfX8_244 : Cond.fieldLink RX8 244 (TX5 6).1 (TX5 6).2.1 (TX5 6).2.2.1 ∈ allW := tm1 (List.mem_of_getElem? (i := 56) (by decide +kernel)) (by decide +kernel)
theorem ka_int : Cond.arrayClass .int ∈ allW := tm1 (List.mem_of_getElem? (i := 72) (by decide +kernel)) (by decide +kernel)
theorem klX8_16 : Cond.classLink RX8 16 RX6 ∈ allW := tm1 (List.mem_of_getElem? (i := 73) (by decide +kernel)) (by decide +kernel)
theorem kjX6 : Cond.instantiable RX6 9 ∈ allW := tm1 (List.mem_of_getElem? (i := 74) (by decide +kernel)) (by decide +kernel)
theorem kiX6_init : Cond.instanceMethod yX6_init ∈ allW := tm1 (List.mem_of_getElem? (i := 76) (by decide +kernel)) (by decide +kernel)
theorem kcX6_init : Cond.code yX6_init cX6_init 1 none ∈ allW := tm1 (List.mem_of_getElem? (i := 77) rfl) rfl
theorem kdX6_init : yX6_init.cls ≠ "java/lang/invoke/MethodHandle" ∧ yX6_init.cls ≠ "java/lang/invoke/VarHandle" ∧ (parseMethodDescriptor yX6_init.desc).map (fun d => d.parameters.length) = some 0 := by decide +kernel
theorem kmX6_3 : Cond.methodLink RX6 3 objectInit ∈ allW := tm1 (List.mem_of_getElem? (i := 78) (by decide +kernel)) (by decide +kernel)
theorem klX6_15 : Cond.classLink RX6 15 RX5 ∈ allW := tm1 (List.mem_of_getElem? (i := 79) (by decide +kernel)) (by decide +kernel)
theorem kmX6_17 : Cond.methodLink RX6 17 yX5_init ∈ allW := tm1 (List.mem_of_getElem? (i := 80) (by decide +kernel)) (by decide +kernel)
theorem kfX6_9 : Cond.fieldLink RX6 9 (TX6 0).1 (TX6 0).2.1 (TX6 0).2.2.1 ∈ allW := tm1 (List.mem_of_getElem? (i := 81) (by decide +kernel)) (by decide +kernel)
theorem kfX6_18 : Cond.fieldLink RX6 18 (TX6 1).1 (TX6 1).2.1 (TX6 1).2.2.1 ∈ allW := tm1 (List.mem_of_getElem? (i := 82) (by decide +kernel)) (by decide +kernel)
theorem kfX8_100 : Cond.fieldLink RX8 100 (TX6 1).1 (TX6 1).2.1 (TX6 1).2.2.1 ∈ allW := tm1 (List.mem_of_getElem? (i := 83) (by decide +kernel)) (by decide +kernel)
theorem kfX6_22 : Cond.fieldLink RX6 22 (TX6 2).1 (TX6 2).2.1 (TX6 2).2.2.1 ∈ allW := tm1 (List.mem_of_getElem? (i := 84) (by decide +kernel)) (by decide +kernel)
theorem kfX8_89 : Cond.fieldLink RX8 89 (TX6 2).1 (TX6 2).2.1 (TX6 2).2.2.1 ∈ allW := tm1 (List.mem_of_getElem? (i := 85) (by decide +kernel)) (by decide +kernel)
theorem kfX6_29 : Cond.fieldLink RX6 29 (TX6 3).1 (TX6 3).2.1 (TX6 3).2.2.1 ∈ allW := tm1 (List.mem_of_getElem? (i := 86) (by decide +kernel)) (by decide +kernel)
theorem kfX6_32 : Cond.fieldLink RX6 32 (TX6 4).1 (TX6 4).2.1 (TX6 4).2.2.1 ∈ allW := tm1 (List.mem_of_getElem? (i := 87) (by decide +kernel)) (by decide +kernel)
theorem kfX8_115 : Cond.fieldLink RX8 115 (TX6 4).1 (TX6 4).2.1 (TX6 4).2.2.1 ∈ allW := tm1 (List.mem_of_getElem? (i := 88) (by decide +kernel)) (by decide +kernel)
theorem kfX6_35 : Cond.fieldLink RX6 35 (TX6 5).1 (TX6 5).2.1 (TX6 5).2.2.1 ∈ allW := tm1 (List.mem_of_getElem? (i := 89) (by decide +kernel)) (by decide +kernel)
theorem kfX8_97 : Cond.fieldLink RX8 97 (TX6 5).1 (TX6 5).2.1 (TX6 5).2.2.1 ∈ allW := tm1 (List.mem_of_getElem? (i := 90) (by decide +kernel)) (by decide +kernel)
theorem kfX6_38 : Cond.fieldLink RX6 38 (TX6 6).1 (TX6 6).2.1 (TX6 6).2.2.1 ∈ allW := tm1 (List.mem_of_getElem? (i := 91) (by decide +kernel)) (by decide +kernel)
theorem kfX6_42 : Cond.fieldLink RX6 42 (TX6 7).1 (TX6 7).2.1 (TX6 7).2.2.1 ∈ allW := tm1 (List.mem_of_getElem? (i := 92) (by decide +kernel)) (by decide +kernel)
theorem kfX6_45 : Cond.fieldLink RX6 45 (TX6 8).1 (TX6 8).2.1 (TX6 8).2.2.1 ∈ allW := tm1 (List.mem_of_getElem? (i := 93) (by decide +kernel)) (by decide +kernel)
theorem ka_char : Cond.arrayClass .char ∈ allW := tm1 (List.mem_of_getElem? (i := 113) (by decide +kernel)) (by decide +kernel)
theorem klX8_23 : Cond.classLink RX8 23 RX4 ∈ allW := tm1 (List.mem_of_getElem? (i := 114) (by decide +kernel)) (by decide +kernel)
theorem kjX4 : Cond.instantiable RX4 4 ∈ allW := tm1 (List.mem_of_getElem? (i := 115) (by decide +kernel)) (by decide +kernel)
theorem kiX4_init : Cond.instanceMethod yX4_init ∈ allW := tm1 (List.mem_of_getElem? (i := 117) (by decide +kernel)) (by decide +kernel)
theorem kcX4_init : Cond.code yX4_init cX4_init 1 none ∈ allW := tm1 (List.mem_of_getElem? (i := 118) rfl) rfl
theorem kdX4_init : yX4_init.cls ≠ "java/lang/invoke/MethodHandle" ∧ yX4_init.cls ≠ "java/lang/invoke/VarHandle" ∧ (parseMethodDescriptor yX4_init.desc).map (fun d => d.parameters.length) = some 0 := by decide +kernel
theorem kmX4_3 : Cond.methodLink RX4 3 objectInit ∈ allW := tm1 (List.mem_of_getElem? (i := 119) (by decide +kernel)) (by decide +kernel)
theorem kfX4_9 : Cond.fieldLink RX4 9 (TX4 0).1 (TX4 0).2.1 (TX4 0).2.2.1 ∈ allW := tm1 (List.mem_of_getElem? (i := 120) (by decide +kernel)) (by decide +kernel)
theorem kfX7_19 : Cond.fieldLink RX7 19 (TX4 0).1 (TX4 0).2.1 (TX4 0).2.2.1 ∈ allW := tm1 (List.mem_of_getElem? (i := 121) (by decide +kernel)) (by decide +kernel)
theorem kfX0_66 : Cond.fieldLink RX0 66 (TX4 0).1 (TX4 0).2.1 (TX4 0).2.2.1 ∈ allW := tm1 (List.mem_of_getElem? (i := 122) (by decide +kernel)) (by decide +kernel)
theorem kfX8_129 : Cond.fieldLink RX8 129 (TX4 0).1 (TX4 0).2.1 (TX4 0).2.2.1 ∈ allW := tm1 (List.mem_of_getElem? (i := 123) (by decide +kernel)) (by decide +kernel)
theorem kfX4_24 : Cond.fieldLink RX4 24 (TX4 1).1 (TX4 1).2.1 (TX4 1).2.2.1 ∈ allW := tm1 (List.mem_of_getElem? (i := 124) (by decide +kernel)) (by decide +kernel)
theorem kfX3_31 : Cond.fieldLink RX3 31 (TX4 1).1 (TX4 1).2.1 (TX4 1).2.2.1 ∈ allW := tm1 (List.mem_of_getElem? (i := 125) (by decide +kernel)) (by decide +kernel)
theorem kfX0_52 : Cond.fieldLink RX0 52 (TX4 1).1 (TX4 1).2.1 (TX4 1).2.2.1 ∈ allW := tm1 (List.mem_of_getElem? (i := 126) (by decide +kernel)) (by decide +kernel)
theorem kfX8_132 : Cond.fieldLink RX8 132 (TX4 1).1 (TX4 1).2.1 (TX4 1).2.2.1 ∈ allW := tm1 (List.mem_of_getElem? (i := 127) (by decide +kernel)) (by decide +kernel)
theorem kfX4_28 : Cond.fieldLink RX4 28 (TX4 2).1 (TX4 2).2.1 (TX4 2).2.2.1 ∈ allW := tm1 (List.mem_of_getElem? (i := 128) (by decide +kernel)) (by decide +kernel)
theorem kfX3_37 : Cond.fieldLink RX3 37 (TX4 2).1 (TX4 2).2.1 (TX4 2).2.2.1 ∈ allW := tm1 (List.mem_of_getElem? (i := 129) (by decide +kernel)) (by decide +kernel)
theorem kfX0_69 : Cond.fieldLink RX0 69 (TX4 2).1 (TX4 2).2.1 (TX4 2).2.2.1 ∈ allW := tm1 (List.mem_of_getElem? (i := 130) (by decide +kernel)) (by decide +kernel)
theorem kfX8_135 : Cond.fieldLink RX8 135 (TX4 2).1 (TX4 2).2.1 (TX4 2).2.2.1 ∈ allW := tm1 (List.mem_of_getElem? (i := 131) (by decide +kernel)) (by decide +kernel)
theorem kfX4_31 : Cond.fieldLink RX4 31 (TX4 3).1 (TX4 3).2.1 (TX4 3).2.2.1 ∈ allW := tm1 (List.mem_of_getElem? (i := 132) (by decide +kernel)) (by decide +kernel)
theorem kfX8_138 : Cond.fieldLink RX8 138 (TX4 3).1 (TX4 3).2.1 (TX4 3).2.2.1 ∈ allW := tm1 (List.mem_of_getElem? (i := 133) (by decide +kernel)) (by decide +kernel)
theorem klX8_30 : Cond.classLink RX8 30 RX2 ∈ allW := tm1 (List.mem_of_getElem? (i := 143) (by decide +kernel)) (by decide +kernel)
theorem kjX2 : Cond.instantiable RX2 3 ∈ allW := tm1 (List.mem_of_getElem? (i := 144) (by decide +kernel)) (by decide +kernel)
theorem kmX8_32 : Cond.methodLink RX8 32 yX2_init ∈ allW := tm1 (List.mem_of_getElem? (i := 145) (by decide +kernel)) (by decide +kernel)
theorem kiX2_init : Cond.instanceMethod yX2_init ∈ allW := tm1 (List.mem_of_getElem? (i := 146) (by decide +kernel)) (by decide +kernel)
theorem kcX2_init : Cond.code yX2_init cX2_init 2 none ∈ allW := tm1 (List.mem_of_getElem? (i := 147) rfl) rfl
theorem kdX2_init : yX2_init.cls ≠ "java/lang/invoke/MethodHandle" ∧ yX2_init.cls ≠ "java/lang/invoke/VarHandle" ∧ (parseMethodDescriptor yX2_init.desc).map (fun d => d.parameters.length) = some 0 := by decide +kernel
theorem kmX2_3 : Cond.methodLink RX2 3 objectInit ∈ allW := tm1 (List.mem_of_getElem? (i := 148) (by decide +kernel)) (by decide +kernel)
theorem klX2_9 : Cond.classLink RX2 9 RX4 ∈ allW := tm1 (List.mem_of_getElem? (i := 149) (by decide +kernel)) (by decide +kernel)
theorem kfX2_11 : Cond.fieldLink RX2 11 (TX2 0).1 (TX2 0).2.1 (TX2 0).2.2.1 ∈ allW := tm1 (List.mem_of_getElem? (i := 152) (by decide +kernel)) (by decide +kernel)
theorem kfX2_26 : Cond.fieldLink RX2 26 (TX2 1).1 (TX2 1).2.1 (TX2 1).2.2.1 ∈ allW := tm1 (List.mem_of_getElem? (i := 153) (by decide +kernel)) (by decide +kernel)
theorem kfX8_109 : Cond.fieldLink RX8 109 (TX2 1).1 (TX2 1).2.1 (TX2 1).2.2.1 ∈ allW := tm1 (List.mem_of_getElem? (i := 154) (by decide +kernel)) (by decide +kernel)
theorem kfX2_18 : Cond.fieldLink RX2 18 (TX2 2).1 (TX2 2).2.1 (TX2 2).2.2.1 ∈ allW := tm1 (List.mem_of_getElem? (i := 155) (by decide +kernel)) (by decide +kernel)
theorem klX8_45 : Cond.classLink RX8 45 RX7 ∈ allW := tm1 (List.mem_of_getElem? (i := 163) (by decide +kernel)) (by decide +kernel)
theorem kjX7 : Cond.instantiable RX7 8 ∈ allW := tm1 (List.mem_of_getElem? (i := 164) (by decide +kernel)) (by decide +kernel)
theorem kmX8_47 : Cond.methodLink RX8 47 yX7_init ∈ allW := tm1 (List.mem_of_getElem? (i := 165) (by decide +kernel)) (by decide +kernel)
theorem kiX7_init : Cond.instanceMethod yX7_init ∈ allW := tm1 (List.mem_of_getElem? (i := 166) (by decide +kernel)) (by decide +kernel)
theorem kcX7_init : Cond.code yX7_init cX7_init 2 none ∈ allW := tm1 (List.mem_of_getElem? (i := 167) rfl) rfl
theorem kdX7_init : yX7_init.cls ≠ "java/lang/invoke/MethodHandle" ∧ yX7_init.cls ≠ "java/lang/invoke/VarHandle" ∧ (parseMethodDescriptor yX7_init.desc).map (fun d => d.parameters.length) = some 1 := by decide +kernel
theorem kmX7_3 : Cond.methodLink RX7 3 objectInit ∈ allW := tm1 (List.mem_of_getElem? (i := 168) (by decide +kernel)) (by decide +kernel)
theorem kfX7_15 : Cond.fieldLink RX7 15 (TX7 0).1 (TX7 0).2.1 (TX7 0).2.2.1 ∈ allW := tm1 (List.mem_of_getElem? (i := 169) (by decide +kernel)) (by decide +kernel)
theorem kfX3_44 : Cond.fieldLink RX3 44 (TX7 0).1 (TX7 0).2.1 (TX7 0).2.2.1 ∈ allW := tm1 (List.mem_of_getElem? (i := 170) (by decide +kernel)) (by decide +kernel)
theorem kfX0_57 : Cond.fieldLink RX0 57 (TX7 0).1 (TX7 0).2.1 (TX7 0).2.2.1 ∈ allW := tm1 (List.mem_of_getElem? (i := 171) (by decide +kernel)) (by decide +kernel)
theorem kfX7_9 : Cond.fieldLink RX7 9 (TX7 1).1 (TX7 1).2.1 (TX7 1).2.2.1 ∈ allW := tm1 (List.mem_of_getElem? (i := 172) (by decide +kernel)) (by decide +kernel)
theorem kfX0_68 : Cond.fieldLink RX0 68 (TX7 1).1 (TX7 1).2.1 (TX7 1).2.2.1 ∈ allW := tm1 (List.mem_of_getElem? (i := 173) (by decide +kernel)) (by decide +kernel)
theorem kfX8_250 : Cond.fieldLink RX8 250 (TX7 1).1 (TX7 1).2.1 (TX7 1).2.2.1 ∈ allW := tm1 (List.mem_of_getElem? (i := 174) (by decide +kernel)) (by decide +kernel)
theorem kfX7_34 : Cond.fieldLink RX7 34 (TX7 2).1 (TX7 2).2.1 (TX7 2).2.2.1 ∈ allW := tm1 (List.mem_of_getElem? (i := 175) (by decide +kernel)) (by decide +kernel)
theorem kfX1_51 : Cond.fieldLink RX1 51 (TX7 2).1 (TX7 2).2.1 (TX7 2).2.2.1 ∈ allW := tm1 (List.mem_of_getElem? (i := 176) (by decide +kernel)) (by decide +kernel)
theorem kfX3_61 : Cond.fieldLink RX3 61 (TX7 2).1 (TX7 2).2.1 (TX7 2).2.2.1 ∈ allW := tm1 (List.mem_of_getElem? (i := 177) (by decide +kernel)) (by decide +kernel)
theorem kfX7_38 : Cond.fieldLink RX7 38 (TX7 3).1 (TX7 3).2.1 (TX7 3).2.2.1 ∈ allW := tm1 (List.mem_of_getElem? (i := 178) (by decide +kernel)) (by decide +kernel)
theorem kfX1_54 : Cond.fieldLink RX1 54 (TX7 3).1 (TX7 3).2.1 (TX7 3).2.2.1 ∈ allW := tm1 (List.mem_of_getElem? (i := 179) (by decide +kernel)) (by decide +kernel)
theorem kfX7_39 : Cond.fieldLink RX7 39 (TX7 4).1 (TX7 4).2.1 (TX7 4).2.2.1 ∈ allW := tm1 (List.mem_of_getElem? (i := 180) (by decide +kernel)) (by decide +kernel)
theorem kfX3_71 : Cond.fieldLink RX3 71 (TX7 4).1 (TX7 4).2.1 (TX7 4).2.2.1 ∈ allW := tm1 (List.mem_of_getElem? (i := 181) (by decide +kernel)) (by decide +kernel)
theorem kfX8_167 : Cond.fieldLink RX8 167 (TX7 4).1 (TX7 4).2.1 (TX7 4).2.2.1 ∈ allW := tm1 (List.mem_of_getElem? (i := 182) (by decide +kernel)) (by decide +kernel)
theorem kfX7_42 : Cond.fieldLink RX7 42 (TX7 5).1 (TX7 5).2.1 (TX7 5).2.2.1 ∈ allW := tm1 (List.mem_of_getElem? (i := 183) (by decide +kernel)) (by decide +kernel)
theorem kfX3_72 : Cond.fieldLink RX3 72 (TX7 5).1 (TX7 5).2.1 (TX7 5).2.2.1 ∈ allW := tm1 (List.mem_of_getElem? (i := 184) (by decide +kernel)) (by decide +kernel)
theorem kfX8_168 : Cond.fieldLink RX8 168 (TX7 5).1 (TX7 5).2.1 (TX7 5).2.2.1 ∈ allW := tm1 (List.mem_of_getElem? (i := 185) (by decide +kernel)) (by decide +kernel)
theorem kfX7_45 : Cond.fieldLink RX7 45 (TX7 6).1 (TX7 6).2.1 (TX7 6).2.2.1 ∈ allW := tm1 (List.mem_of_getElem? (i := 186) (by decide +kernel)) (by decide +kernel)
theorem kfX8_145 : Cond.fieldLink RX8 145 (TX7 6).1 (TX7 6).2.1 (TX7 6).2.2.1 ∈ allW := tm1 (List.mem_of_getElem? (i := 187) (by decide +kernel)) (by decide +kernel)
theorem kfX7_48 : Cond.fieldLink RX7 48 (TX7 7).1 (TX7 7).2.1 (TX7 7).2.2.1 ∈ allW := tm1 (List.mem_of_getElem? (i := 188) (by decide +kernel)) (by decide +kernel)
theorem kfX8_146 : Cond.fieldLink RX8 146 (TX7 7).1 (TX7 7).2.1 (TX7 7).2.2.1 ∈ allW := tm1 (List.mem_of_getElem? (i := 189) (by decide +kernel)) (by decide +kernel)
theorem ka_boolean : Cond.arrayClass .boolean ∈ allW := tm1 (List.mem_of_getElem? (i := 207) (by decide +kernel)) (by decide +kernel)
theorem klX8_54 : Cond.classLink RX8 54 RX3 ∈ allW := tm1 (List.mem_of_getElem? (i := 208) (by decide +kernel)) (by decide +kernel)
theorem kjX3 : Cond.instantiable RX3 2 ∈ allW := tm1 (List.mem_of_getElem? (i := 209) (by decide +kernel)) (by decide +kernel)
theorem kmX8_56 : Cond.methodLink RX8 56 yX3_init ∈ allW := tm1 (List.mem_of_getElem? (i := 210) (by decide +kernel)) (by decide +kernel)
theorem kiX3_init : Cond.instanceMethod yX3_init ∈ allW := tm1 (List.mem_of_getElem? (i := 211) (by decide +kernel)) (by decide +kernel)
theorem kcX3_init : Cond.code yX3_init cX3_init 2 none ∈ allW := tm1 (List.mem_of_getElem? (i := 212) rfl) rfl
theorem kdX3_init : yX3_init.cls ≠ "java/lang/invoke/MethodHandle" ∧ yX3_init.cls ≠ "java/lang/invoke/VarHandle" ∧ (parseMethodDescriptor yX3_init.desc).map (fun d => d.parameters.length) = some 1 := by decide +kernel
theorem kmX3_3 : Cond.methodLink RX3 3 objectInit ∈ allW := tm1 (List.mem_of_getElem? (i := 213) (by decide +kernel)) (by decide +kernel)
theorem kfX3_15 : Cond.fieldLink RX3 15 (TX3 0).1 (TX3 0).2.1 (TX3 0).2.2.1 ∈ allW := tm1 (List.mem_of_getElem? (i := 214) (by decide +kernel)) (by decide +kernel)
theorem kfX3_11 : Cond.fieldLink RX3 11 (TX3 1).1 (TX3 1).2.1 (TX3 1).2.2.1 ∈ allW := tm1 (List.mem_of_getElem? (i := 215) (by decide +kernel)) (by decide +kernel)
theorem klX8_63 : Cond.classLink RX8 63 RX1 ∈ allW := tm1 (List.mem_of_getElem? (i := 221) (by decide +kernel)) (by decide +kernel)
theorem kjX1 : Cond.instantiable RX1 9 ∈ allW := tm1 (List.mem_of_getElem? (i := 222) (by decide +kernel)) (by decide +kernel)
theorem kmX8_65 : Cond.methodLink RX8 65 yX1_init ∈ allW := tm1 (List.mem_of_getElem? (i := 223) (by decide +kernel)) (by decide +kernel)
theorem kiX1_init : Cond.instanceMethod yX1_init ∈ allW := tm1 (List.mem_of_getElem? (i := 224) (by decide +kernel)) (by decide +kernel)
theorem kcX1_init : Cond.code yX1_init cX1_init 2 none ∈ allW := tm1 (List.mem_of_getElem? (i := 225) rfl) rfl
theorem kdX1_init : yX1_init.cls ≠ "java/lang/invoke/MethodHandle" ∧ yX1_init.cls ≠ "java/lang/invoke/VarHandle" ∧ (parseMethodDescriptor yX1_init.desc).map (fun d => d.parameters.length) = some 1 := by decide +kernel
theorem kmX1_3 : Cond.methodLink RX1 3 objectInit ∈ allW := tm1 (List.mem_of_getElem? (i := 226) (by decide +kernel)) (by decide +kernel)
theorem kfX1_30 : Cond.fieldLink RX1 30 (TX1 0).1 (TX1 0).2.1 (TX1 0).2.2.1 ∈ allW := tm1 (List.mem_of_getElem? (i := 227) (by decide +kernel)) (by decide +kernel)
theorem kfX1_9 : Cond.fieldLink RX1 9 (TX1 1).1 (TX1 1).2.1 (TX1 1).2.2.1 ∈ allW := tm1 (List.mem_of_getElem? (i := 228) (by decide +kernel)) (by decide +kernel)
theorem kfX1_15 : Cond.fieldLink RX1 15 (TX1 2).1 (TX1 2).2.1 (TX1 2).2.2.1 ∈ allW := tm1 (List.mem_of_getElem? (i := 229) (by decide +kernel)) (by decide +kernel)
theorem kfX1_18 : Cond.fieldLink RX1 18 (TX1 3).1 (TX1 3).2.1 (TX1 3).2.2.1 ∈ allW := tm1 (List.mem_of_getElem? (i := 230) (by decide +kernel)) (by decide +kernel)
theorem kfX1_21 : Cond.fieldLink RX1 21 (TX1 4).1 (TX1 4).2.1 (TX1 4).2.2.1 ∈ allW := tm1 (List.mem_of_getElem? (i := 231) (by decide +kernel)) (by decide +kernel)
theorem kfX8_205 : Cond.fieldLink RX8 205 (TX1 4).1 (TX1 4).2.1 (TX1 4).2.2.1 ∈ allW := tm1 (List.mem_of_getElem? (i := 232) (by decide +kernel)) (by decide +kernel)
theorem kfX1_24 : Cond.fieldLink RX1 24 (TX1 5).1 (TX1 5).2.1 (TX1 5).2.2.1 ∈ allW := tm1 (List.mem_of_getElem? (i := 233) (by decide +kernel)) (by decide +kernel)
theorem kfX8_208 : Cond.fieldLink RX8 208 (TX1 5).1 (TX1 5).2.1 (TX1 5).2.2.1 ∈ allW := tm1 (List.mem_of_getElem? (i := 234) (by decide +kernel)) (by decide +kernel)
theorem kfX1_27 : Cond.fieldLink RX1 27 (TX1 6).1 (TX1 6).2.1 (TX1 6).2.2.1 ∈ allW := tm1 (List.mem_of_getElem? (i := 235) (by decide +kernel)) (by decide +kernel)
theorem kfX1_34 : Cond.fieldLink RX1 34 (TX1 7).1 (TX1 7).2.1 (TX1 7).2.2.1 ∈ allW := tm1 (List.mem_of_getElem? (i := 236) (by decide +kernel)) (by decide +kernel)
theorem kfX8_112 : Cond.fieldLink RX8 112 (TX1 7).1 (TX1 7).2.1 (TX1 7).2.2.1 ∈ allW := tm1 (List.mem_of_getElem? (i := 237) (by decide +kernel)) (by decide +kernel)
theorem kfX1_44 : Cond.fieldLink RX1 44 (TX1 8).1 (TX1 8).2.1 (TX1 8).2.2.1 ∈ allW := tm1 (List.mem_of_getElem? (i := 238) (by decide +kernel)) (by decide +kernel)
theorem kfX8_202 : Cond.fieldLink RX8 202 (TX1 8).1 (TX1 8).2.1 (TX1 8).2.2.1 ∈ allW := tm1 (List.mem_of_getElem? (i := 239) (by decide +kernel)) (by decide +kernel)
theorem klX8_70 : Cond.classLink RX8 70 RX0 ∈ allW := tm2 (List.mem_of_getElem? (i := 19) (by decide +kernel)) (by decide +kernel)
theorem kjX0 : Cond.instantiable RX0 5 ∈ allW := tm2 (List.mem_of_getElem? (i := 20) (by decide +kernel)) (by decide +kernel)
theorem kmX8_72 : Cond.methodLink RX8 72 yX0_init ∈ allW := tm2 (List.mem_of_getElem? (i := 21) (by decide +kernel)) (by decide +kernel)
theorem kiX0_init : Cond.instanceMethod yX0_init ∈ allW := tm2 (List.mem_of_getElem? (i := 22) (by decide +kernel)) (by decide +kernel)
theorem kcX0_init : Cond.code yX0_init cX0_init 2 none ∈ allW := tm2 (List.mem_of_getElem? (i := 23) rfl) rfl
theorem kdX0_init : yX0_init.cls ≠ "java/lang/invoke/MethodHandle" ∧ yX0_init.cls ≠ "java/lang/invoke/VarHandle" ∧ (parseMethodDescriptor yX0_init.desc).map (fun d => d.parameters.length) = some 1 := by decide +kernel
theorem kmX0_3 : Cond.methodLink RX0 3 objectInit ∈ allW := tm2 (List.mem_of_getElem? (i := 24) (by decide +kernel)) (by decide +kernel)
theorem kfX0_15 : Cond.fieldLink RX0 15 (TX0 0).1 (TX0 0).2.1 (TX0 0).2.2.1 ∈ allW := tm2 (List.mem_of_getElem? (i := 25) (by decide +kernel)) (by decide +kernel)
theorem kfX0_9 : Cond.fieldLink RX0 9 (TX0 1).1 (TX0 1).2.1 (TX0 1).2.2.1 ∈ allW := tm2 (List.mem_of_getElem? (i := 26) (by decide +kernel)) (by decide +kernel)
theorem kfX0_35 : Cond.fieldLink RX0 35 (TX0 2).1 (TX0 2).2.1 (TX0 2).2.2.1 ∈ allW := tm2 (List.mem_of_getElem? (i := 27) (by decide +kernel)) (by decide +kernel)
theorem kfX0_28 : Cond.fieldLink RX0 28 (TX0 3).1 (TX0 3).2.1 (TX0 3).2.2.1 ∈ allW := tm2 (List.mem_of_getElem? (i := 28) (by decide +kernel)) (by decide +kernel)
theorem kfX8_190 : Cond.fieldLink RX8 190 (TX0 3).1 (TX0 3).2.1 (TX0 3).2.2.1 ∈ allW := tm2 (List.mem_of_getElem? (i := 29) (by decide +kernel)) (by decide +kernel)
theorem kfX0_32 : Cond.fieldLink RX0 32 (TX0 4).1 (TX0 4).2.1 (TX0 4).2.2.1 ∈ allW := tm2 (List.mem_of_getElem? (i := 30) (by decide +kernel)) (by decide +kernel)
theorem kfX8_193 : Cond.fieldLink RX8 193 (TX0 4).1 (TX0 4).2.1 (TX0 4).2.2.1 ∈ allW := tm2 (List.mem_of_getElem? (i := 31) (by decide +kernel)) (by decide +kernel)
theorem kfX8_12 : Cond.fieldLink RX8 12 (TX8 0).1 (TX8 0).2.1 (TX8 0).2.2.1 ∈ allW := tm2 (List.mem_of_getElem? (i := 43) (by decide +kernel)) (by decide +kernel)
theorem kfX8_19 : Cond.fieldLink RX8 19 (TX8 1).1 (TX8 1).2.1 (TX8 1).2.2.1 ∈ allW := tm2 (List.mem_of_getElem? (i := 44) (by decide +kernel)) (by decide +kernel)
theorem kfX8_26 : Cond.fieldLink RX8 26 (TX8 2).1 (TX8 2).2.1 (TX8 2).2.2.1 ∈ allW := tm2 (List.mem_of_getElem? (i := 45) (by decide +kernel)) (by decide +kernel)
theorem kfX8_33 : Cond.fieldLink RX8 33 (TX8 3).1 (TX8 3).2.1 (TX8 3).2.2.1 ∈ allW := tm2 (List.mem_of_getElem? (i := 46) (by decide +kernel)) (by decide +kernel)
theorem kfX8_37 : Cond.fieldLink RX8 37 (TX8 4).1 (TX8 4).2.1 (TX8 4).2.2.1 ∈ allW := tm2 (List.mem_of_getElem? (i := 47) (by decide +kernel)) (by decide +kernel)
theorem kfX8_41 : Cond.fieldLink RX8 41 (TX8 5).1 (TX8 5).2.1 (TX8 5).2.2.1 ∈ allW := tm2 (List.mem_of_getElem? (i := 48) (by decide +kernel)) (by decide +kernel)
theorem kfX8_50 : Cond.fieldLink RX8 50 (TX8 6).1 (TX8 6).2.1 (TX8 6).2.2.1 ∈ allW := tm2 (List.mem_of_getElem? (i := 49) (by decide +kernel)) (by decide +kernel)
theorem kfX8_59 : Cond.fieldLink RX8 59 (TX8 7).1 (TX8 7).2.1 (TX8 7).2.2.1 ∈ allW := tm2 (List.mem_of_getElem? (i := 50) (by decide +kernel)) (by decide +kernel)
theorem kfX8_66 : Cond.fieldLink RX8 66 (TX8 8).1 (TX8 8).2.1 (TX8 8).2.2.1 ∈ allW := tm2 (List.mem_of_getElem? (i := 51) (by decide +kernel)) (by decide +kernel)
theorem kfX8_73 : Cond.fieldLink RX8 73 (TX8 9).1 (TX8 9).2.1 (TX8 9).2.2.1 ∈ allW := tm2 (List.mem_of_getElem? (i := 52) (by decide +kernel)) (by decide +kernel)
theorem kfX8_77 : Cond.fieldLink RX8 77 (TX8 10).1 (TX8 10).2.1 (TX8 10).2.2.1 ∈ allW := tm2 (List.mem_of_getElem? (i := 53) (by decide +kernel)) (by decide +kernel)
theorem kmL_13 : Cond.methodLink RL 13 yX8_type ∈ allW := tm2 (List.mem_of_getElem? (i := 77) (by decide +kernel)) (by decide +kernel)
theorem kiX8_type : Cond.instanceMethod yX8_type ∈ allW := tm2 (List.mem_of_getElem? (i := 78) (by decide +kernel)) (by decide +kernel)
theorem ksX8_type : Cond.selects RX8 yX8_type yX8_type ∈ allW := tm2 (List.mem_of_getElem? (i := 79) (by decide +kernel)) (by decide +kernel)
theorem kcX8_type : Cond.code yX8_type cX8_type 2 (some .int) ∈ allW := tm2 (List.mem_of_getElem? (i := 80) rfl) rfl
theorem kdX8_type : yX8_type.cls ≠ "java/lang/invoke/MethodHandle" ∧ yX8_type.cls ≠ "java/lang/invoke/VarHandle" ∧ (parseMethodDescriptor yX8_type.desc).map (fun d => d.parameters.length) = some 1 := by decide +kernel
theorem kmX8_81 : Cond.methodLink RX8 81 yX8_within ∈ allW := tm2 (List.mem_of_getElem? (i := 81) (by decide +kernel)) (by decide +kernel)
theorem ktX8_within : Cond.static yX8_within ∈ allW := tm2 (List.mem_of_getElem? (i := 82) (by decide +kernel)) (by decide +kernel)
theorem kcX8_within : Cond.code yX8_within cX8_within 3 (some .boolean) ∈ allW := tm2 (List.mem_of_getElem? (i := 83) rfl) rfl
theorem kdX8_within : yX8_within.cls ≠ "java/lang/invoke/MethodHandle" ∧ yX8_within.cls ≠ "java/lang/invoke/VarHandle" ∧ (parseMethodDescriptor yX8_within.desc).map (fun d => d.parameters.length) = some 3 := by decide +kernel
theorem kmX8_85 : Cond.methodLink RX8 85 yX6_take ∈ allW := tm2 (List.mem_of_getElem? (i := 84) (by decide +kernel)) (by decide +kernel)
theorem kiX6_take : Cond.instanceMethod yX6_take ∈ allW := tm2 (List.mem_of_getElem? (i := 85) (by decide +kernel)) (by decide +kernel)
theorem ksX6_take : Cond.selects RX6 yX6_take yX6_take ∈ allW := tm2 (List.mem_of_getElem? (i := 86) (by decide +kernel)) (by decide +kernel)
theorem kcX6_take : Cond.code yX6_take cX6_take 2 (some .boolean) ∈ allW := tm2 (List.mem_of_getElem? (i := 87) rfl) rfl
theorem kdX6_take : yX6_take.cls ≠ "java/lang/invoke/MethodHandle" ∧ yX6_take.cls ≠ "java/lang/invoke/VarHandle" ∧ (parseMethodDescriptor yX6_take.desc).map (fun d => d.parameters.length) = some 1 := by decide +kernel
theorem kmL_18 : Cond.methodLink RL 18 yX8_clear ∈ allW := tm2 (List.mem_of_getElem? (i := 88) (by decide +kernel)) (by decide +kernel)
theorem kiX8_clear : Cond.instanceMethod yX8_clear ∈ allW := tm2 (List.mem_of_getElem? (i := 89) (by decide +kernel)) (by decide +kernel)
theorem ksX8_clear : Cond.selects RX8 yX8_clear yX8_clear ∈ allW := tm2 (List.mem_of_getElem? (i := 90) (by decide +kernel)) (by decide +kernel)
theorem kcX8_clear : Cond.code yX8_clear cX8_clear 2 (some .int) ∈ allW := tm2 (List.mem_of_getElem? (i := 91) rfl) rfl
theorem kdX8_clear : yX8_clear.cls ≠ "java/lang/invoke/MethodHandle" ∧ yX8_clear.cls ≠ "java/lang/invoke/VarHandle" ∧ (parseMethodDescriptor yX8_clear.desc).map (fun d => d.parameters.length) = some 0 := by decide +kernel
theorem kmL_23 : Cond.methodLink RL 23 yX8_stairs ∈ allW := tm2 (List.mem_of_getElem? (i := 92) (by decide +kernel)) (by decide +kernel)
theorem kiX8_stairs : Cond.instanceMethod yX8_stairs ∈ allW := tm2 (List.mem_of_getElem? (i := 93) (by decide +kernel)) (by decide +kernel)
theorem ksX8_stairs : Cond.selects RX8 yX8_stairs yX8_stairs ∈ allW := tm2 (List.mem_of_getElem? (i := 94) (by decide +kernel)) (by decide +kernel)
theorem kcX8_stairs : Cond.code yX8_stairs cX8_stairs 2 (some .int) ∈ allW := tm2 (List.mem_of_getElem? (i := 95) rfl) rfl
theorem kdX8_stairs : yX8_stairs.cls ≠ "java/lang/invoke/MethodHandle" ∧ yX8_stairs.cls ≠ "java/lang/invoke/VarHandle" ∧ (parseMethodDescriptor yX8_stairs.desc).map (fun d => d.parameters.length) = some 0 := by decide +kernel
theorem kmX8_93 : Cond.methodLink RX8 93 yX6_read ∈ allW := tm2 (List.mem_of_getElem? (i := 96) (by decide +kernel)) (by decide +kernel)
theorem kiX6_read : Cond.instanceMethod yX6_read ∈ allW := tm2 (List.mem_of_getElem? (i := 97) (by decide +kernel)) (by decide +kernel)
theorem ksX6_read : Cond.selects RX6 yX6_read yX6_read ∈ allW := tm2 (List.mem_of_getElem? (i := 98) (by decide +kernel)) (by decide +kernel)
theorem kcX6_read : Cond.code yX6_read cX6_read 2 (some .boolean) ∈ allW := tm2 (List.mem_of_getElem? (i := 99) rfl) rfl
theorem kdX6_read : yX6_read.cls ≠ "java/lang/invoke/MethodHandle" ∧ yX6_read.cls ≠ "java/lang/invoke/VarHandle" ∧ (parseMethodDescriptor yX6_read.desc).map (fun d => d.parameters.length) = some 0 := by decide +kernel
theorem kmX6_26 : Cond.methodLink RX6 26 yX5_empty ∈ allW := tm2 (List.mem_of_getElem? (i := 100) (by decide +kernel)) (by decide +kernel)
theorem kmX6_48 : Cond.methodLink RX6 48 yX6_findToken ∈ allW := tm2 (List.mem_of_getElem? (i := 101) (by decide +kernel)) (by decide +kernel)
theorem kiX6_findToken : Cond.instanceMethod yX6_findToken ∈ allW := tm2 (List.mem_of_getElem? (i := 103) (by decide +kernel)) (by decide +kernel)
theorem kcX6_findToken : Cond.code yX6_findToken cX6_findToken 1 (some .boolean) ∈ allW := tm2 (List.mem_of_getElem? (i := 104) rfl) rfl
theorem kdX6_findToken : yX6_findToken.cls ≠ "java/lang/invoke/MethodHandle" ∧ yX6_findToken.cls ≠ "java/lang/invoke/VarHandle" ∧ (parseMethodDescriptor yX6_findToken.desc).map (fun d => d.parameters.length) = some 0 := by decide +kernel
theorem kmX6_52 : Cond.methodLink RX6 52 yX6_readItem ∈ allW := tm2 (List.mem_of_getElem? (i := 105) (by decide +kernel)) (by decide +kernel)
theorem kiX6_readItem : Cond.instanceMethod yX6_readItem ∈ allW := tm2 (List.mem_of_getElem? (i := 107) (by decide +kernel)) (by decide +kernel)
theorem kcX6_readItem : Cond.code yX6_readItem cX6_readItem 2 none ∈ allW := tm2 (List.mem_of_getElem? (i := 108) rfl) rfl
theorem kdX6_readItem : yX6_readItem.cls ≠ "java/lang/invoke/MethodHandle" ∧ yX6_readItem.cls ≠ "java/lang/invoke/VarHandle" ∧ (parseMethodDescriptor yX6_readItem.desc).map (fun d => d.parameters.length) = some 0 := by decide +kernel
theorem kmX6_55 : Cond.methodLink RX6 55 yX6_mayBegin ∈ allW := tm2 (List.mem_of_getElem? (i := 109) (by decide +kernel)) (by decide +kernel)
theorem kiX6_mayBegin : Cond.instanceMethod yX6_mayBegin ∈ allW := tm2 (List.mem_of_getElem? (i := 111) (by decide +kernel)) (by decide +kernel)
theorem kcX6_mayBegin : Cond.code yX6_mayBegin cX6_mayBegin 2 (some .boolean) ∈ allW := tm2 (List.mem_of_getElem? (i := 112) rfl) rfl
theorem kdX6_mayBegin : yX6_mayBegin.cls ≠ "java/lang/invoke/MethodHandle" ∧ yX6_mayBegin.cls ≠ "java/lang/invoke/VarHandle" ∧ (parseMethodDescriptor yX6_mayBegin.desc).map (fun d => d.parameters.length) = some 1 := by decide +kernel
theorem kmX6_59 : Cond.methodLink RX6 59 yX6_readStep ∈ allW := tm2 (List.mem_of_getElem? (i := 113) (by decide +kernel)) (by decide +kernel)
theorem kiX6_readStep : Cond.instanceMethod yX6_readStep ∈ allW := tm2 (List.mem_of_getElem? (i := 115) (by decide +kernel)) (by decide +kernel)
theorem kcX6_readStep : Cond.code yX6_readStep cX6_readStep 4 none ∈ allW := tm2 (List.mem_of_getElem? (i := 116) rfl) rfl
theorem kdX6_readStep : yX6_readStep.cls ≠ "java/lang/invoke/MethodHandle" ∧ yX6_readStep.cls ≠ "java/lang/invoke/VarHandle" ∧ (parseMethodDescriptor yX6_readStep.desc).map (fun d => d.parameters.length) = some 0 := by decide +kernel
theorem kmX6_62 : Cond.methodLink RX6 62 yX6_number ∈ allW := tm2 (List.mem_of_getElem? (i := 117) (by decide +kernel)) (by decide +kernel)
theorem kiX6_number : Cond.instanceMethod yX6_number ∈ allW := tm2 (List.mem_of_getElem? (i := 119) (by decide +kernel)) (by decide +kernel)
theorem kcX6_number : Cond.code yX6_number cX6_number 6 (some .int) ∈ allW := tm2 (List.mem_of_getElem? (i := 120) rfl) rfl
theorem kdX6_number : yX6_number.cls ≠ "java/lang/invoke/MethodHandle" ∧ yX6_number.cls ≠ "java/lang/invoke/VarHandle" ∧ (parseMethodDescriptor yX6_number.desc).map (fun d => d.parameters.length) = some 2 := by decide +kernel
theorem kmX6_89 : Cond.methodLink RX6 89 Lib.Math.min.name ∈ allW := tm2 (List.mem_of_getElem? (i := 122) (by decide +kernel)) (by decide +kernel)
theorem ktMath_min : Cond.static Lib.Math.min.name ∈ allW := tm2 (List.mem_of_getElem? (i := 123) (by decide +kernel)) (by decide +kernel)
theorem kcMath_min : Cond.code Lib.Math.min.name Lib.Math.min.code 2 (some .int) ∈ allW := tm2 (List.mem_of_getElem? (i := 124) rfl) rfl
theorem kmX6_81 : Cond.methodLink RX6 81 yX5_addStep ∈ allW := tm2 (List.mem_of_getElem? (i := 125) (by decide +kernel)) (by decide +kernel)
theorem kiX5_addStep : Cond.instanceMethod yX5_addStep ∈ allW := tm2 (List.mem_of_getElem? (i := 126) (by decide +kernel)) (by decide +kernel)
theorem ksX5_addStep : Cond.selects RX5 yX5_addStep yX5_addStep ∈ allW := tm2 (List.mem_of_getElem? (i := 127) (by decide +kernel)) (by decide +kernel)
theorem kcX5_addStep : Cond.code yX5_addStep cX5_addStep 4 none ∈ allW := tm2 (List.mem_of_getElem? (i := 128) rfl) rfl
theorem kdX5_addStep : yX5_addStep.cls ≠ "java/lang/invoke/MethodHandle" ∧ yX5_addStep.cls ≠ "java/lang/invoke/VarHandle" ∧ (parseMethodDescriptor yX5_addStep.desc).map (fun d => d.parameters.length) = some 3 := by decide +kernel
theorem kmX6_75 : Cond.methodLink RX6 75 yX6_endItem ∈ allW := tm2 (List.mem_of_getElem? (i := 129) (by decide +kernel)) (by decide +kernel)
theorem kiX6_endItem : Cond.instanceMethod yX6_endItem ∈ allW := tm2 (List.mem_of_getElem? (i := 131) (by decide +kernel)) (by decide +kernel)
theorem kcX6_endItem : Cond.code yX6_endItem cX6_endItem 1 none ∈ allW := tm2 (List.mem_of_getElem? (i := 132) rfl) rfl
theorem kdX6_endItem : yX6_endItem.cls ≠ "java/lang/invoke/MethodHandle" ∧ yX6_endItem.cls ≠ "java/lang/invoke/VarHandle" ∧ (parseMethodDescriptor yX6_endItem.desc).map (fun d => d.parameters.length) = some 0 := by decide +kernel
theorem kmX8_103 : Cond.methodLink RX8 103 yX5_copy ∈ allW := tm2 (List.mem_of_getElem? (i := 133) (by decide +kernel)) (by decide +kernel)
theorem kiX5_copy : Cond.instanceMethod yX5_copy ∈ allW := tm2 (List.mem_of_getElem? (i := 134) (by decide +kernel)) (by decide +kernel)
theorem ksX5_copy : Cond.selects RX5 yX5_copy yX5_copy ∈ allW := tm2 (List.mem_of_getElem? (i := 135) (by decide +kernel)) (by decide +kernel)
theorem kcX5_copy : Cond.code yX5_copy cX5_copy 2 none ∈ allW := tm2 (List.mem_of_getElem? (i := 136) rfl) rfl
theorem kdX5_copy : yX5_copy.cls ≠ "java/lang/invoke/MethodHandle" ∧ yX5_copy.cls ≠ "java/lang/invoke/VarHandle" ∧ (parseMethodDescriptor yX5_copy.desc).map (fun d => d.parameters.length) = some 1 := by decide +kernel
theorem kmX5_37 : Cond.methodLink RX5 37 arraycopyName ∈ allW := tm2 (List.mem_of_getElem? (i := 137) (by decide +kernel)) (by decide +kernel)
theorem ktSys_arraycopy : Cond.static arraycopyName ∈ allW := tm2 (List.mem_of_getElem? (i := 138) (by decide +kernel)) (by decide +kernel)
theorem kvSys_arraycopy : Cond.native arraycopyName ∈ allW := tm2 (List.mem_of_getElem? (i := 139) (by decide +kernel)) (by decide +kernel)
theorem kmX8_106 : Cond.methodLink RX8 106 yX4_begin ∈ allW := tm2 (List.mem_of_getElem? (i := 140) (by decide +kernel)) (by decide +kernel)
theorem kiX4_begin : Cond.instanceMethod yX4_begin ∈ allW := tm2 (List.mem_of_getElem? (i := 141) (by decide +kernel)) (by decide +kernel)
theorem ksX4_begin : Cond.selects RX4 yX4_begin yX4_begin ∈ allW := tm2 (List.mem_of_getElem? (i := 142) (by decide +kernel)) (by decide +kernel)
theorem kcX4_begin : Cond.code yX4_begin cX4_begin 2 none ∈ allW := tm2 (List.mem_of_getElem? (i := 143) rfl) rfl
theorem kdX4_begin : yX4_begin.cls ≠ "java/lang/invoke/MethodHandle" ∧ yX4_begin.cls ≠ "java/lang/invoke/VarHandle" ∧ (parseMethodDescriptor yX4_begin.desc).map (fun d => d.parameters.length) = some 1 := by decide +kernel
theorem kmX4_18 : Cond.methodLink RX4 18 arraycopyName ∈ allW := tm2 (List.mem_of_getElem? (i := 144) (by decide +kernel)) (by decide +kernel)
theorem kmL_27 : Cond.methodLink RL 27 yX8_step ∈ allW := tm2 (List.mem_of_getElem? (i := 145) (by decide +kernel)) (by decide +kernel)
theorem kiX8_step : Cond.instanceMethod yX8_step ∈ allW := tm2 (List.mem_of_getElem? (i := 146) (by decide +kernel)) (by decide +kernel)
theorem ksX8_step : Cond.selects RX8 yX8_step yX8_step ∈ allW := tm2 (List.mem_of_getElem? (i := 147) (by decide +kernel)) (by decide +kernel)
theorem kcX8_step : Cond.code yX8_step cX8_step 3 (some .int) ∈ allW := tm2 (List.mem_of_getElem? (i := 148) rfl) rfl
theorem kdX8_step : yX8_step.cls ≠ "java/lang/invoke/MethodHandle" ∧ yX8_step.cls ≠ "java/lang/invoke/VarHandle" ∧ (parseMethodDescriptor yX8_step.desc).map (fun d => d.parameters.length) = some 2 := by decide +kernel
theorem kmX8_118 : Cond.methodLink RX8 118 yX5_has ∈ allW := tm2 (List.mem_of_getElem? (i := 149) (by decide +kernel)) (by decide +kernel)
theorem kiX5_has : Cond.instanceMethod yX5_has ∈ allW := tm2 (List.mem_of_getElem? (i := 150) (by decide +kernel)) (by decide +kernel)
theorem ksX5_has : Cond.selects RX5 yX5_has yX5_has ∈ allW := tm2 (List.mem_of_getElem? (i := 151) (by decide +kernel)) (by decide +kernel)
theorem kcX5_has : Cond.code yX5_has cX5_has 2 (some .boolean) ∈ allW := tm2 (List.mem_of_getElem? (i := 152) rfl) rfl
theorem kdX5_has : yX5_has.cls ≠ "java/lang/invoke/MethodHandle" ∧ yX5_has.cls ≠ "java/lang/invoke/VarHandle" ∧ (parseMethodDescriptor yX5_has.desc).map (fun d => d.parameters.length) = some 1 := by decide +kernel
theorem kmL_32 : Cond.methodLink RL 32 yX8_now ∈ allW := tm2 (List.mem_of_getElem? (i := 154) (by decide +kernel)) (by decide +kernel)
theorem kiX8_now : Cond.instanceMethod yX8_now ∈ allW := tm2 (List.mem_of_getElem? (i := 155) (by decide +kernel)) (by decide +kernel)
theorem ksX8_now : Cond.selects RX8 yX8_now yX8_now ∈ allW := tm2 (List.mem_of_getElem? (i := 156) (by decide +kernel)) (by decide +kernel)
theorem kcX8_now : Cond.code yX8_now cX8_now 2 (some .int) ∈ allW := tm2 (List.mem_of_getElem? (i := 157) rfl) rfl
theorem kdX8_now : yX8_now.cls ≠ "java/lang/invoke/MethodHandle" ∧ yX8_now.cls ≠ "java/lang/invoke/VarHandle" ∧ (parseMethodDescriptor yX8_now.desc).map (fun d => d.parameters.length) = some 1 := by decide +kernel
theorem kmX8_141 : Cond.methodLink RX8 141 yX8_runFrom ∈ allW := tm2 (List.mem_of_getElem? (i := 158) (by decide +kernel)) (by decide +kernel)
theorem kiX8_runFrom : Cond.instanceMethod yX8_runFrom ∈ allW := tm2 (List.mem_of_getElem? (i := 160) (by decide +kernel)) (by decide +kernel)
theorem kcX8_runFrom : Cond.code yX8_runFrom cX8_runFrom 2 (some .int) ∈ allW := tm2 (List.mem_of_getElem? (i := 161) rfl) rfl
theorem kdX8_runFrom : yX8_runFrom.cls ≠ "java/lang/invoke/MethodHandle" ∧ yX8_runFrom.cls ≠ "java/lang/invoke/VarHandle" ∧ (parseMethodDescriptor yX8_runFrom.desc).map (fun d => d.parameters.length) = some 1 := by decide +kernel
theorem kmX8_157 : Cond.methodLink RX8 157 yX7_prepare ∈ allW := tm2 (List.mem_of_getElem? (i := 162) (by decide +kernel)) (by decide +kernel)
theorem kiX7_prepare : Cond.instanceMethod yX7_prepare ∈ allW := tm2 (List.mem_of_getElem? (i := 163) (by decide +kernel)) (by decide +kernel)
theorem ksX7_prepare : Cond.selects RX7 yX7_prepare yX7_prepare ∈ allW := tm2 (List.mem_of_getElem? (i := 164) (by decide +kernel)) (by decide +kernel)
theorem kcX7_prepare : Cond.code yX7_prepare cX7_prepare 2 none ∈ allW := tm2 (List.mem_of_getElem? (i := 165) rfl) rfl
theorem kdX7_prepare : yX7_prepare.cls ≠ "java/lang/invoke/MethodHandle" ∧ yX7_prepare.cls ≠ "java/lang/invoke/VarHandle" ∧ (parseMethodDescriptor yX7_prepare.desc).map (fun d => d.parameters.length) = some 1 := by decide +kernel
theorem kmX7_22 : Cond.methodLink RX7 22 arraycopyName ∈ allW := tm2 (List.mem_of_getElem? (i := 166) (by decide +kernel)) (by decide +kernel)
theorem kmX8_247 : Cond.methodLink RX8 247 yX7_run ∈ allW := tm2 (List.mem_of_getElem? (i := 167) (by decide +kernel)) (by decide +kernel)
theorem kiX7_run : Cond.instanceMethod yX7_run ∈ allW := tm2 (List.mem_of_getElem? (i := 168) (by decide +kernel)) (by decide +kernel)
theorem ksX7_run : Cond.selects RX7 yX7_run yX7_run ∈ allW := tm2 (List.mem_of_getElem? (i := 169) (by decide +kernel)) (by decide +kernel)
theorem kcX7_run : Cond.code yX7_run cX7_run 4 (some .int) ∈ allW := tm2 (List.mem_of_getElem? (i := 170) rfl) rfl
theorem kdX7_run : yX7_run.cls ≠ "java/lang/invoke/MethodHandle" ∧ yX7_run.cls ≠ "java/lang/invoke/VarHandle" ∧ (parseMethodDescriptor yX7_run.desc).map (fun d => d.parameters.length) = some 2 := by decide +kernel
theorem kmX7_74 : Cond.methodLink RX7 74 yX7_stand ∈ allW := tm2 (List.mem_of_getElem? (i := 171) (by decide +kernel)) (by decide +kernel)
theorem kiX7_stand : Cond.instanceMethod yX7_stand ∈ allW := tm2 (List.mem_of_getElem? (i := 172) (by decide +kernel)) (by decide +kernel)
theorem ksX7_stand : Cond.selects RX7 yX7_stand yX7_stand ∈ allW := tm2 (List.mem_of_getElem? (i := 173) (by decide +kernel)) (by decide +kernel)
theorem kcX7_stand : Cond.code yX7_stand cX7_stand 3 none ∈ allW := tm2 (List.mem_of_getElem? (i := 174) rfl) rfl
theorem kdX7_stand : yX7_stand.cls ≠ "java/lang/invoke/MethodHandle" ∧ yX7_stand.cls ≠ "java/lang/invoke/VarHandle" ∧ (parseMethodDescriptor yX7_stand.desc).map (fun d => d.parameters.length) = some 2 := by decide +kernel
theorem kmX7_51 : Cond.methodLink RX7 51 yX5_has ∈ allW := tm2 (List.mem_of_getElem? (i := 175) (by decide +kernel)) (by decide +kernel)
theorem kmX7_78 : Cond.methodLink RX7 78 yX7_turn ∈ allW := tm2 (List.mem_of_getElem? (i := 176) (by decide +kernel)) (by decide +kernel)
theorem kiX7_turn : Cond.instanceMethod yX7_turn ∈ allW := tm2 (List.mem_of_getElem? (i := 177) (by decide +kernel)) (by decide +kernel)
theorem ksX7_turn : Cond.selects RX7 yX7_turn yX7_turn ∈ allW := tm2 (List.mem_of_getElem? (i := 178) (by decide +kernel)) (by decide +kernel)
theorem kcX7_turn : Cond.code yX7_turn cX7_turn 1 none ∈ allW := tm2 (List.mem_of_getElem? (i := 179) rfl) rfl
theorem kdX7_turn : yX7_turn.cls ≠ "java/lang/invoke/MethodHandle" ∧ yX7_turn.cls ≠ "java/lang/invoke/VarHandle" ∧ (parseMethodDescriptor yX7_turn.desc).map (fun d => d.parameters.length) = some 0 := by decide +kernel
theorem ktX8_asVigour : Cond.static yX8_asVigour ∈ allW := tm2 (List.mem_of_getElem? (i := 181) (by decide +kernel)) (by decide +kernel)
theorem kcX8_asVigour : Cond.code yX8_asVigour cX8_asVigour 1 (some .int) ∈ allW := tm2 (List.mem_of_getElem? (i := 182) rfl) rfl
theorem kdX8_asVigour : yX8_asVigour.cls ≠ "java/lang/invoke/MethodHandle" ∧ yX8_asVigour.cls ≠ "java/lang/invoke/VarHandle" ∧ (parseMethodDescriptor yX8_asVigour.desc).map (fun d => d.parameters.length) = some 1 := by decide +kernel
theorem kmX7_62 : Cond.methodLink RX7 62 yX7_land ∈ allW := tm2 (List.mem_of_getElem? (i := 183) (by decide +kernel)) (by decide +kernel)
theorem kiX7_land : Cond.instanceMethod yX7_land ∈ allW := tm2 (List.mem_of_getElem? (i := 185) (by decide +kernel)) (by decide +kernel)
theorem kcX7_land : Cond.code yX7_land cX7_land 2 none ∈ allW := tm2 (List.mem_of_getElem? (i := 186) rfl) rfl
theorem kdX7_land : yX7_land.cls ≠ "java/lang/invoke/MethodHandle" ∧ yX7_land.cls ≠ "java/lang/invoke/VarHandle" ∧ (parseMethodDescriptor yX7_land.desc).map (fun d => d.parameters.length) = some 0 := by decide +kernel
theorem kmX8_149 : Cond.methodLink RX8 149 yX3_from ∈ allW := tm2 (List.mem_of_getElem? (i := 187) (by decide +kernel)) (by decide +kernel)
theorem kiX3_from : Cond.instanceMethod yX3_from ∈ allW := tm2 (List.mem_of_getElem? (i := 188) (by decide +kernel)) (by decide +kernel)
theorem ksX3_from : Cond.selects RX3 yX3_from yX3_from ∈ allW := tm2 (List.mem_of_getElem? (i := 189) (by decide +kernel)) (by decide +kernel)
theorem kcX3_from : Cond.code yX3_from cX3_from 2 (some .int) ∈ allW := tm2 (List.mem_of_getElem? (i := 190) rfl) rfl
theorem kdX3_from : yX3_from.cls ≠ "java/lang/invoke/MethodHandle" ∧ yX3_from.cls ≠ "java/lang/invoke/VarHandle" ∧ (parseMethodDescriptor yX3_from.desc).map (fun d => d.parameters.length) = some 1 := by decide +kernel
theorem kmX3_19 : Cond.methodLink RX3 19 yX7_prepare ∈ allW := tm2 (List.mem_of_getElem? (i := 191) (by decide +kernel)) (by decide +kernel)
theorem kmX3_25 : Cond.methodLink RX3 25 yJ7_fill_53178 ∈ allW := tm2 (List.mem_of_getElem? (i := 192) (by decide +kernel)) (by decide +kernel)
theorem ktJ7_fill : Cond.static yJ7_fill_53178 ∈ allW := tm2 (List.mem_of_getElem? (i := 193) (by decide +kernel)) (by decide +kernel)
theorem kcJ7_fill : Cond.code yJ7_fill_53178 cJ7_fill_53178 4 none ∈ allW := tm2 (List.mem_of_getElem? (i := 194) rfl) rfl
theorem kdJ7_fill : yJ7_fill_53178.cls ≠ "java/lang/invoke/MethodHandle" ∧ yJ7_fill_53178.cls ≠ "java/lang/invoke/VarHandle" ∧ (parseMethodDescriptor yJ7_fill_53178.desc).map (fun d => d.parameters.length) = some 2 := by decide +kernel
theorem kmX3_40 : Cond.methodLink RX3 40 yX3_fewest ∈ allW := tm2 (List.mem_of_getElem? (i := 195) (by decide +kernel)) (by decide +kernel)
theorem kiX3_fewest : Cond.instanceMethod yX3_fewest ∈ allW := tm2 (List.mem_of_getElem? (i := 197) (by decide +kernel)) (by decide +kernel)
theorem kcX3_fewest : Cond.code yX3_fewest cX3_fewest 4 (some .int) ∈ allW := tm2 (List.mem_of_getElem? (i := 198) rfl) rfl
theorem kdX3_fewest : yX3_fewest.cls ≠ "java/lang/invoke/MethodHandle" ∧ yX3_fewest.cls ≠ "java/lang/invoke/VarHandle" ∧ (parseMethodDescriptor yX3_fewest.desc).map (fun d => d.parameters.length) = some 2 := by decide +kernel
theorem kmX3_48 : Cond.methodLink RX3 48 yX5_has ∈ allW := tm2 (List.mem_of_getElem? (i := 199) (by decide +kernel)) (by decide +kernel)
theorem kmX3_54 : Cond.methodLink RX3 54 yX3_search ∈ allW := tm2 (List.mem_of_getElem? (i := 200) (by decide +kernel)) (by decide +kernel)
theorem kiX3_search : Cond.instanceMethod yX3_search ∈ allW := tm2 (List.mem_of_getElem? (i := 202) (by decide +kernel)) (by decide +kernel)
theorem kcX3_search : Cond.code yX3_search cX3_search 8 (some .int) ∈ allW := tm2 (List.mem_of_getElem? (i := 203) rfl) rfl
theorem kdX3_search : yX3_search.cls ≠ "java/lang/invoke/MethodHandle" ∧ yX3_search.cls ≠ "java/lang/invoke/VarHandle" ∧ (parseMethodDescriptor yX3_search.desc).map (fun d => d.parameters.length) = some 2 := by decide +kernel
theorem kmX3_64 : Cond.methodLink RX3 64 yX7_stand ∈ allW := tm2 (List.mem_of_getElem? (i := 205) (by decide +kernel)) (by decide +kernel)
theorem kmX3_68 : Cond.methodLink RX3 68 yX7_turn ∈ allW := tm2 (List.mem_of_getElem? (i := 206) (by decide +kernel)) (by decide +kernel)
theorem ktX8_tenTimes : Cond.static yX8_tenTimes ∈ allW := tm2 (List.mem_of_getElem? (i := 208) (by decide +kernel)) (by decide +kernel)
theorem kcX8_tenTimes : Cond.code yX8_tenTimes cX8_tenTimes 2 (some .int) ∈ allW := tm2 (List.mem_of_getElem? (i := 209) rfl) rfl
theorem kdX8_tenTimes : yX8_tenTimes.cls ≠ "java/lang/invoke/MethodHandle" ∧ yX8_tenTimes.cls ≠ "java/lang/invoke/VarHandle" ∧ (parseMethodDescriptor yX8_tenTimes.desc).map (fun d => d.parameters.length) = some 2 := by decide +kernel
theorem kmL_36 : Cond.methodLink RL 36 yX8_flips ∈ allW := tm2 (List.mem_of_getElem? (i := 210) (by decide +kernel)) (by decide +kernel)
theorem kiX8_flips : Cond.instanceMethod yX8_flips ∈ allW := tm2 (List.mem_of_getElem? (i := 211) (by decide +kernel)) (by decide +kernel)
theorem ksX8_flips : Cond.selects RX8 yX8_flips yX8_flips ∈ allW := tm2 (List.mem_of_getElem? (i := 212) (by decide +kernel)) (by decide +kernel)
theorem kcX8_flips : Cond.code yX8_flips cX8_flips 1 (some .int) ∈ allW := tm2 (List.mem_of_getElem? (i := 213) rfl) rfl
theorem kdX8_flips : yX8_flips.cls ≠ "java/lang/invoke/MethodHandle" ∧ yX8_flips.cls ≠ "java/lang/invoke/VarHandle" ∧ (parseMethodDescriptor yX8_flips.desc).map (fun d => d.parameters.length) = some 0 := by decide +kernel
theorem kmX8_153 : Cond.methodLink RX8 153 yX2_remember ∈ allW := tm2 (List.mem_of_getElem? (i := 214) (by decide +kernel)) (by decide +kernel)
theorem kiX2_remember : Cond.instanceMethod yX2_remember ∈ allW := tm2 (List.mem_of_getElem? (i := 215) (by decide +kernel)) (by decide +kernel)
theorem ksX2_remember : Cond.selects RX2 yX2_remember yX2_remember ∈ allW := tm2 (List.mem_of_getElem? (i := 216) (by decide +kernel)) (by decide +kernel)
theorem kcX2_remember : Cond.code yX2_remember cX2_remember 2 none ∈ allW := tm2 (List.mem_of_getElem? (i := 217) rfl) rfl
theorem kdX2_remember : yX2_remember.cls ≠ "java/lang/invoke/MethodHandle" ∧ yX2_remember.cls ≠ "java/lang/invoke/VarHandle" ∧ (parseMethodDescriptor yX2_remember.desc).map (fun d => d.parameters.length) = some 1 := by decide +kernel
theorem kmX2_22 : Cond.methodLink RX2 22 yX4_copy ∈ allW := tm2 (List.mem_of_getElem? (i := 218) (by decide +kernel)) (by decide +kernel)
theorem kiX4_copy : Cond.instanceMethod yX4_copy ∈ allW := tm2 (List.mem_of_getElem? (i := 219) (by decide +kernel)) (by decide +kernel)
theorem ksX4_copy : Cond.selects RX4 yX4_copy yX4_copy ∈ allW := tm2 (List.mem_of_getElem? (i := 220) (by decide +kernel)) (by decide +kernel)
theorem kcX4_copy : Cond.code yX4_copy cX4_copy 2 none ∈ allW := tm2 (List.mem_of_getElem? (i := 221) rfl) rfl
theorem kdX4_copy : yX4_copy.cls ≠ "java/lang/invoke/MethodHandle" ∧ yX4_copy.cls ≠ "java/lang/invoke/VarHandle" ∧ (parseMethodDescriptor yX4_copy.desc).map (fun d => d.parameters.length) = some 1 := by decide +kernel
theorem kmX2_29 : Cond.methodLink RX2 29 Lib.Math.min.name ∈ allW := tm2 (List.mem_of_getElem? (i := 222) (by decide +kernel)) (by decide +kernel)
theorem kmX8_160 : Cond.methodLink RX8 160 yX7_stand ∈ allW := tm2 (List.mem_of_getElem? (i := 223) (by decide +kernel)) (by decide +kernel)
theorem kmX8_164 : Cond.methodLink RX8 164 yX7_turn ∈ allW := tm2 (List.mem_of_getElem? (i := 224) (by decide +kernel)) (by decide +kernel)
theorem kmL_40 : Cond.methodLink RL 40 yX8_pushes ∈ allW := tm2 (List.mem_of_getElem? (i := 225) (by decide +kernel)) (by decide +kernel)
theorem kiX8_pushes : Cond.instanceMethod yX8_pushes ∈ allW := tm2 (List.mem_of_getElem? (i := 226) (by decide +kernel)) (by decide +kernel)
theorem ksX8_pushes : Cond.selects RX8 yX8_pushes yX8_pushes ∈ allW := tm2 (List.mem_of_getElem? (i := 227) (by decide +kernel)) (by decide +kernel)
theorem kcX8_pushes : Cond.code yX8_pushes cX8_pushes 2 (some .int) ∈ allW := tm2 (List.mem_of_getElem? (i := 228) rfl) rfl
theorem kdX8_pushes : yX8_pushes.cls ≠ "java/lang/invoke/MethodHandle" ∧ yX8_pushes.cls ≠ "java/lang/invoke/VarHandle" ∧ (parseMethodDescriptor yX8_pushes.desc).map (fun d => d.parameters.length) = some 1 := by decide +kernel
theorem kmX8_169 : Cond.methodLink RX8 169 yX8_asVigour ∈ allW := tm2 (List.mem_of_getElem? (i := 229) (by decide +kernel)) (by decide +kernel)
theorem kmL_44 : Cond.methodLink RL 44 yX8_lifts ∈ allW := tm2 (List.mem_of_getElem? (i := 230) (by decide +kernel)) (by decide +kernel)
theorem kiX8_lifts : Cond.instanceMethod yX8_lifts ∈ allW := tm2 (List.mem_of_getElem? (i := 231) (by decide +kernel)) (by decide +kernel)
theorem ksX8_lifts : Cond.selects RX8 yX8_lifts yX8_lifts ∈ allW := tm2 (List.mem_of_getElem? (i := 232) (by decide +kernel)) (by decide +kernel)
theorem kcX8_lifts : Cond.code yX8_lifts cX8_lifts 3 (some .int) ∈ allW := tm2 (List.mem_of_getElem? (i := 233) rfl) rfl
theorem kdX8_lifts : yX8_lifts.cls ≠ "java/lang/invoke/MethodHandle" ∧ yX8_lifts.cls ≠ "java/lang/invoke/VarHandle" ∧ (parseMethodDescriptor yX8_lifts.desc).map (fun d => d.parameters.length) = some 1 := by decide +kernel
theorem kmL_48 : Cond.methodLink RL 48 yX8_lays ∈ allW := tm2 (List.mem_of_getElem? (i := 234) (by decide +kernel)) (by decide +kernel)
theorem kiX8_lays : Cond.instanceMethod yX8_lays ∈ allW := tm2 (List.mem_of_getElem? (i := 235) (by decide +kernel)) (by decide +kernel)
theorem ksX8_lays : Cond.selects RX8 yX8_lays yX8_lays ∈ allW := tm2 (List.mem_of_getElem? (i := 236) (by decide +kernel)) (by decide +kernel)
theorem kcX8_lays : Cond.code yX8_lays cX8_lays 4 (some .int) ∈ allW := tm2 (List.mem_of_getElem? (i := 237) rfl) rfl
theorem kdX8_lays : yX8_lays.cls ≠ "java/lang/invoke/MethodHandle" ∧ yX8_lays.cls ≠ "java/lang/invoke/VarHandle" ∧ (parseMethodDescriptor yX8_lays.desc).map (fun d => d.parameters.length) = some 2 := by decide +kernel
theorem kmL_52 : Cond.methodLink RL 52 yX8_undo ∈ allW := tm2 (List.mem_of_getElem? (i := 238) (by decide +kernel)) (by decide +kernel)
theorem kiX8_undo : Cond.instanceMethod yX8_undo ∈ allW := tm2 (List.mem_of_getElem? (i := 239) (by decide +kernel)) (by decide +kernel)
theorem ksX8_undo : Cond.selects RX8 yX8_undo yX8_undo ∈ allW := tm3 (List.mem_of_getElem? (i := 0) (by decide +kernel)) (by decide +kernel)
theorem kcX8_undo : Cond.code yX8_undo cX8_undo 1 (some .int) ∈ allW := tm3 (List.mem_of_getElem? (i := 1) rfl) rfl
theorem kdX8_undo : yX8_undo.cls ≠ "java/lang/invoke/MethodHandle" ∧ yX8_undo.cls ≠ "java/lang/invoke/VarHandle" ∧ (parseMethodDescriptor yX8_undo.desc).map (fun d => d.parameters.length) = some 0 := by decide +kernel
theorem kmX8_172 : Cond.methodLink RX8 172 yX2_restore ∈ allW := tm3 (List.mem_of_getElem? (i := 2) (by decide +kernel)) (by decide +kernel)
theorem kiX2_restore : Cond.instanceMethod yX2_restore ∈ allW := tm3 (List.mem_of_getElem? (i := 3) (by decide +kernel)) (by decide +kernel)
theorem ksX2_restore : Cond.selects RX2 yX2_restore yX2_restore ∈ allW := tm3 (List.mem_of_getElem? (i := 4) (by decide +kernel)) (by decide +kernel)
theorem kcX2_restore : Cond.code yX2_restore cX2_restore 2 (some .boolean) ∈ allW := tm3 (List.mem_of_getElem? (i := 5) rfl) rfl
theorem kdX2_restore : yX2_restore.cls ≠ "java/lang/invoke/MethodHandle" ∧ yX2_restore.cls ≠ "java/lang/invoke/VarHandle" ∧ (parseMethodDescriptor yX2_restore.desc).map (fun d => d.parameters.length) = some 1 := by decide +kernel
theorem kmL_56 : Cond.methodLink RL 56 yX8_push ∈ allW := tm3 (List.mem_of_getElem? (i := 6) (by decide +kernel)) (by decide +kernel)
theorem kiX8_push : Cond.instanceMethod yX8_push ∈ allW := tm3 (List.mem_of_getElem? (i := 7) (by decide +kernel)) (by decide +kernel)
theorem ksX8_push : Cond.selects RX8 yX8_push yX8_push ∈ allW := tm3 (List.mem_of_getElem? (i := 8) (by decide +kernel)) (by decide +kernel)
theorem kcX8_push : Cond.code yX8_push cX8_push 3 (some .int) ∈ allW := tm3 (List.mem_of_getElem? (i := 9) rfl) rfl
theorem kdX8_push : yX8_push.cls ≠ "java/lang/invoke/MethodHandle" ∧ yX8_push.cls ≠ "java/lang/invoke/VarHandle" ∧ (parseMethodDescriptor yX8_push.desc).map (fun d => d.parameters.length) = some 1 := by decide +kernel
theorem kmX8_176 : Cond.methodLink RX8 176 yX5_hasPlace ∈ allW := tm3 (List.mem_of_getElem? (i := 10) (by decide +kernel)) (by decide +kernel)
theorem kiX5_hasPlace : Cond.instanceMethod yX5_hasPlace ∈ allW := tm3 (List.mem_of_getElem? (i := 11) (by decide +kernel)) (by decide +kernel)
theorem ksX5_hasPlace : Cond.selects RX5 yX5_hasPlace yX5_hasPlace ∈ allW := tm3 (List.mem_of_getElem? (i := 12) (by decide +kernel)) (by decide +kernel)
theorem kcX5_hasPlace : Cond.code yX5_hasPlace cX5_hasPlace 2 (some .boolean) ∈ allW := tm3 (List.mem_of_getElem? (i := 13) rfl) rfl
theorem kdX5_hasPlace : yX5_hasPlace.cls ≠ "java/lang/invoke/MethodHandle" ∧ yX5_hasPlace.cls ≠ "java/lang/invoke/VarHandle" ∧ (parseMethodDescriptor yX5_hasPlace.desc).map (fun d => d.parameters.length) = some 1 := by decide +kernel
theorem kmL_60 : Cond.methodLink RL 60 yX8_mat ∈ allW := tm3 (List.mem_of_getElem? (i := 14) (by decide +kernel)) (by decide +kernel)
theorem kiX8_mat : Cond.instanceMethod yX8_mat ∈ allW := tm3 (List.mem_of_getElem? (i := 15) (by decide +kernel)) (by decide +kernel)
theorem ksX8_mat : Cond.selects RX8 yX8_mat yX8_mat ∈ allW := tm3 (List.mem_of_getElem? (i := 16) (by decide +kernel)) (by decide +kernel)
theorem kcX8_mat : Cond.code yX8_mat cX8_mat 4 (some .int) ∈ allW := tm3 (List.mem_of_getElem? (i := 17) rfl) rfl
theorem kdX8_mat : yX8_mat.cls ≠ "java/lang/invoke/MethodHandle" ∧ yX8_mat.cls ≠ "java/lang/invoke/VarHandle" ∧ (parseMethodDescriptor yX8_mat.desc).map (fun d => d.parameters.length) = some 2 := by decide +kernel
theorem kmX8_182 : Cond.methodLink RX8 182 yX8_runWithMat ∈ allW := tm3 (List.mem_of_getElem? (i := 18) (by decide +kernel)) (by decide +kernel)
theorem kiX8_runWithMat : Cond.instanceMethod yX8_runWithMat ∈ allW := tm3 (List.mem_of_getElem? (i := 20) (by decide +kernel)) (by decide +kernel)
theorem kcX8_runWithMat : Cond.code yX8_runWithMat cX8_runWithMat 3 (some .int) ∈ allW := tm3 (List.mem_of_getElem? (i := 21) rfl) rfl
theorem kdX8_runWithMat : yX8_runWithMat.cls ≠ "java/lang/invoke/MethodHandle" ∧ yX8_runWithMat.cls ≠ "java/lang/invoke/VarHandle" ∧ (parseMethodDescriptor yX8_runWithMat.desc).map (fun d => d.parameters.length) = some 2 := by decide +kernel
theorem kmL_64 : Cond.methodLink RL 64 yX8_odds ∈ allW := tm3 (List.mem_of_getElem? (i := 22) (by decide +kernel)) (by decide +kernel)
theorem kiX8_odds : Cond.instanceMethod yX8_odds ∈ allW := tm3 (List.mem_of_getElem? (i := 23) (by decide +kernel)) (by decide +kernel)
theorem ksX8_odds : Cond.selects RX8 yX8_odds yX8_odds ∈ allW := tm3 (List.mem_of_getElem? (i := 24) (by decide +kernel)) (by decide +kernel)
theorem kcX8_odds : Cond.code yX8_odds cX8_odds 3 (some .int) ∈ allW := tm3 (List.mem_of_getElem? (i := 25) rfl) rfl
theorem kdX8_odds : yX8_odds.cls ≠ "java/lang/invoke/MethodHandle" ∧ yX8_odds.cls ≠ "java/lang/invoke/VarHandle" ∧ (parseMethodDescriptor yX8_odds.desc).map (fun d => d.parameters.length) = some 2 := by decide +kernel
theorem kmX8_186 : Cond.methodLink RX8 186 yX0_weigh ∈ allW := tm3 (List.mem_of_getElem? (i := 26) (by decide +kernel)) (by decide +kernel)
theorem kiX0_weigh : Cond.instanceMethod yX0_weigh ∈ allW := tm3 (List.mem_of_getElem? (i := 27) (by decide +kernel)) (by decide +kernel)
theorem ksX0_weigh : Cond.selects RX0 yX0_weigh yX0_weigh ∈ allW := tm3 (List.mem_of_getElem? (i := 28) (by decide +kernel)) (by decide +kernel)
theorem kcX0_weigh : Cond.code yX0_weigh cX0_weigh 6 none ∈ allW := tm3 (List.mem_of_getElem? (i := 29) rfl) rfl
theorem kdX0_weigh : yX0_weigh.cls ≠ "java/lang/invoke/MethodHandle" ∧ yX0_weigh.cls ≠ "java/lang/invoke/VarHandle" ∧ (parseMethodDescriptor yX0_weigh.desc).map (fun d => d.parameters.length) = some 2 := by decide +kernel
theorem kmX0_19 : Cond.methodLink RX0 19 yX7_prepare ∈ allW := tm3 (List.mem_of_getElem? (i := 30) (by decide +kernel)) (by decide +kernel)
theorem kmX0_25 : Cond.methodLink RX0 25 yX0_listMats ∈ allW := tm3 (List.mem_of_getElem? (i := 31) (by decide +kernel)) (by decide +kernel)
theorem kiX0_listMats : Cond.instanceMethod yX0_listMats ∈ allW := tm3 (List.mem_of_getElem? (i := 33) (by decide +kernel)) (by decide +kernel)
theorem kcX0_listMats : Cond.code yX0_listMats cX0_listMats 3 none ∈ allW := tm3 (List.mem_of_getElem? (i := 34) rfl) rfl
theorem kdX0_listMats : yX0_listMats.cls ≠ "java/lang/invoke/MethodHandle" ∧ yX0_listMats.cls ≠ "java/lang/invoke/VarHandle" ∧ (parseMethodDescriptor yX0_listMats.desc).map (fun d => d.parameters.length) = some 1 := by decide +kernel
theorem kkX0_39 : Cond.constantLong RX0 39 (10) ∈ allW := tm3 (List.mem_of_getElem? (i := 35) (by decide +kernel)) (by decide +kernel)
theorem kmX0_41 : Cond.methodLink RX0 41 yX0_weightOf ∈ allW := tm3 (List.mem_of_getElem? (i := 36) (by decide +kernel)) (by decide +kernel)
theorem kiX0_weightOf : Cond.instanceMethod yX0_weightOf ∈ allW := tm3 (List.mem_of_getElem? (i := 38) (by decide +kernel)) (by decide +kernel)
theorem kcX0_weightOf : Cond.code yX0_weightOf cX0_weightOf 6 (some .long) ∈ allW := tm3 (List.mem_of_getElem? (i := 39) rfl) rfl
theorem kdX0_weightOf : yX0_weightOf.cls ≠ "java/lang/invoke/MethodHandle" ∧ yX0_weightOf.cls ≠ "java/lang/invoke/VarHandle" ∧ (parseMethodDescriptor yX0_weightOf.desc).map (fun d => d.parameters.length) = some 2 := by decide +kernel
theorem kmX0_45 : Cond.methodLink RX0 45 yX0_reachesFloor ∈ allW := tm3 (List.mem_of_getElem? (i := 40) (by decide +kernel)) (by decide +kernel)
theorem kiX0_reachesFloor : Cond.instanceMethod yX0_reachesFloor ∈ allW := tm3 (List.mem_of_getElem? (i := 42) (by decide +kernel)) (by decide +kernel)
theorem kcX0_reachesFloor : Cond.code yX0_reachesFloor cX0_reachesFloor 5 (some .boolean) ∈ allW := tm3 (List.mem_of_getElem? (i := 43) rfl) rfl
theorem kdX0_reachesFloor : yX0_reachesFloor.cls ≠ "java/lang/invoke/MethodHandle" ∧ yX0_reachesFloor.cls ≠ "java/lang/invoke/VarHandle" ∧ (parseMethodDescriptor yX0_reachesFloor.desc).map (fun d => d.parameters.length) = some 2 := by decide +kernel
theorem kmX0_72 : Cond.methodLink RX0 72 yX7_run ∈ allW := tm3 (List.mem_of_getElem? (i := 44) (by decide +kernel)) (by decide +kernel)
theorem kmX0_76 : Cond.methodLink RX0 76 yX5_has ∈ allW := tm3 (List.mem_of_getElem? (i := 45) (by decide +kernel)) (by decide +kernel)
theorem kmX0_49 : Cond.methodLink RX0 49 yX0_reduce ∈ allW := tm3 (List.mem_of_getElem? (i := 46) (by decide +kernel)) (by decide +kernel)
theorem kiX0_reduce : Cond.instanceMethod yX0_reduce ∈ allW := tm3 (List.mem_of_getElem? (i := 48) (by decide +kernel)) (by decide +kernel)
theorem kcX0_reduce : Cond.code yX0_reduce cX0_reduce 8 none ∈ allW := tm3 (List.mem_of_getElem? (i := 49) rfl) rfl
theorem kdX0_reduce : yX0_reduce.cls ≠ "java/lang/invoke/MethodHandle" ∧ yX0_reduce.cls ≠ "java/lang/invoke/VarHandle" ∧ (parseMethodDescriptor yX0_reduce.desc).map (fun d => d.parameters.length) = some 0 := by decide +kernel
theorem kmL_68 : Cond.methodLink RL 68 yX8_sees ∈ allW := tm3 (List.mem_of_getElem? (i := 50) (by decide +kernel)) (by decide +kernel)
theorem kiX8_sees : Cond.instanceMethod yX8_sees ∈ allW := tm3 (List.mem_of_getElem? (i := 51) (by decide +kernel)) (by decide +kernel)
theorem ksX8_sees : Cond.selects RX8 yX8_sees yX8_sees ∈ allW := tm3 (List.mem_of_getElem? (i := 52) (by decide +kernel)) (by decide +kernel)
theorem kcX8_sees : Cond.code yX8_sees cX8_sees 4 (some .int) ∈ allW := tm3 (List.mem_of_getElem? (i := 53) rfl) rfl
theorem kdX8_sees : yX8_sees.cls ≠ "java/lang/invoke/MethodHandle" ∧ yX8_sees.cls ≠ "java/lang/invoke/VarHandle" ∧ (parseMethodDescriptor yX8_sees.desc).map (fun d => d.parameters.length) = some 3 := by decide +kernel
theorem kmX8_196 : Cond.methodLink RX8 196 yX1_add ∈ allW := tm3 (List.mem_of_getElem? (i := 54) (by decide +kernel)) (by decide +kernel)
theorem kiX1_add : Cond.instanceMethod yX1_add ∈ allW := tm3 (List.mem_of_getElem? (i := 55) (by decide +kernel)) (by decide +kernel)
theorem ksX1_add : Cond.selects RX1 yX1_add yX1_add ∈ allW := tm3 (List.mem_of_getElem? (i := 56) (by decide +kernel)) (by decide +kernel)
theorem kcX1_add : Cond.code yX1_add cX1_add 4 (some .boolean) ∈ allW := tm3 (List.mem_of_getElem? (i := 57) rfl) rfl
theorem kdX1_add : yX1_add.cls ≠ "java/lang/invoke/MethodHandle" ∧ yX1_add.cls ≠ "java/lang/invoke/VarHandle" ∧ (parseMethodDescriptor yX1_add.desc).map (fun d => d.parameters.length) = some 3 := by decide +kernel
theorem kmL_73 : Cond.methodLink RL 73 yX8_forget ∈ allW := tm3 (List.mem_of_getElem? (i := 58) (by decide +kernel)) (by decide +kernel)
theorem kiX8_forget : Cond.instanceMethod yX8_forget ∈ allW := tm3 (List.mem_of_getElem? (i := 59) (by decide +kernel)) (by decide +kernel)
theorem ksX8_forget : Cond.selects RX8 yX8_forget yX8_forget ∈ allW := tm3 (List.mem_of_getElem? (i := 60) (by decide +kernel)) (by decide +kernel)
theorem kcX8_forget : Cond.code yX8_forget cX8_forget 2 (some .int) ∈ allW := tm3 (List.mem_of_getElem? (i := 61) rfl) rfl
theorem kdX8_forget : yX8_forget.cls ≠ "java/lang/invoke/MethodHandle" ∧ yX8_forget.cls ≠ "java/lang/invoke/VarHandle" ∧ (parseMethodDescriptor yX8_forget.desc).map (fun d => d.parameters.length) = some 0 := by decide +kernel
theorem kmL_77 : Cond.methodLink RL 77 yX8_ways ∈ allW := tm3 (List.mem_of_getElem? (i := 62) (by decide +kernel)) (by decide +kernel)
theorem kiX8_ways : Cond.instanceMethod yX8_ways ∈ allW := tm3 (List.mem_of_getElem? (i := 63) (by decide +kernel)) (by decide +kernel)
theorem ksX8_ways : Cond.selects RX8 yX8_ways yX8_ways ∈ allW := tm3 (List.mem_of_getElem? (i := 64) (by decide +kernel)) (by decide +kernel)
theorem kcX8_ways : Cond.code yX8_ways cX8_ways 2 (some .int) ∈ allW := tm3 (List.mem_of_getElem? (i := 65) rfl) rfl
theorem kdX8_ways : yX8_ways.cls ≠ "java/lang/invoke/MethodHandle" ∧ yX8_ways.cls ≠ "java/lang/invoke/VarHandle" ∧ (parseMethodDescriptor yX8_ways.desc).map (fun d => d.parameters.length) = some 1 := by decide +kernel
theorem kmX8_199 : Cond.methodLink RX8 199 yX1_findPossible ∈ allW := tm3 (List.mem_of_getElem? (i := 66) (by decide +kernel)) (by decide +kernel)
theorem kiX1_findPossible : Cond.instanceMethod yX1_findPossible ∈ allW := tm3 (List.mem_of_getElem? (i := 67) (by decide +kernel)) (by decide +kernel)
theorem ksX1_findPossible : Cond.selects RX1 yX1_findPossible yX1_findPossible ∈ allW := tm3 (List.mem_of_getElem? (i := 68) (by decide +kernel)) (by decide +kernel)
theorem kcX1_findPossible : Cond.code yX1_findPossible cX1_findPossible 4 none ∈ allW := tm3 (List.mem_of_getElem? (i := 69) rfl) rfl
theorem kdX1_findPossible : yX1_findPossible.cls ≠ "java/lang/invoke/MethodHandle" ∧ yX1_findPossible.cls ≠ "java/lang/invoke/VarHandle" ∧ (parseMethodDescriptor yX1_findPossible.desc).map (fun d => d.parameters.length) = some 1 := by decide +kernel
theorem kmX1_38 : Cond.methodLink RX1 38 yX7_prepare ∈ allW := tm3 (List.mem_of_getElem? (i := 70) (by decide +kernel)) (by decide +kernel)
theorem kmX1_47 : Cond.methodLink RX1 47 yX1_explains ∈ allW := tm3 (List.mem_of_getElem? (i := 71) (by decide +kernel)) (by decide +kernel)
theorem kiX1_explains : Cond.instanceMethod yX1_explains ∈ allW := tm3 (List.mem_of_getElem? (i := 73) (by decide +kernel)) (by decide +kernel)
theorem kcX1_explains : Cond.code yX1_explains cX1_explains 4 (some .boolean) ∈ allW := tm3 (List.mem_of_getElem? (i := 74) rfl) rfl
theorem kdX1_explains : yX1_explains.cls ≠ "java/lang/invoke/MethodHandle" ∧ yX1_explains.cls ≠ "java/lang/invoke/VarHandle" ∧ (parseMethodDescriptor yX1_explains.desc).map (fun d => d.parameters.length) = some 2 := by decide +kernel
theorem kmX1_57 : Cond.methodLink RX1 57 yX7_run ∈ allW := tm3 (List.mem_of_getElem? (i := 75) (by decide +kernel)) (by decide +kernel)
theorem kmX8_211 : Cond.methodLink RX8 211 yX8_tenTimes ∈ allW := tm3 (List.mem_of_getElem? (i := 76) (by decide +kernel)) (by decide +kernel)
theorem kmL_81 : Cond.methodLink RL 81 yX8_next ∈ allW := tm3 (List.mem_of_getElem? (i := 77) (by decide +kernel)) (by decide +kernel)
theorem kiX8_next : Cond.instanceMethod yX8_next ∈ allW := tm3 (List.mem_of_getElem? (i := 78) (by decide +kernel)) (by decide +kernel)
theorem ksX8_next : Cond.selects RX8 yX8_next yX8_next ∈ allW := tm3 (List.mem_of_getElem? (i := 79) (by decide +kernel)) (by decide +kernel)
theorem kcX8_next : Cond.code yX8_next cX8_next 2 (some .int) ∈ allW := tm3 (List.mem_of_getElem? (i := 80) rfl) rfl
theorem kdX8_next : yX8_next.cls ≠ "java/lang/invoke/MethodHandle" ∧ yX8_next.cls ≠ "java/lang/invoke/VarHandle" ∧ (parseMethodDescriptor yX8_next.desc).map (fun d => d.parameters.length) = some 1 := by decide +kernel
theorem kmX8_214 : Cond.methodLink RX8 214 yX1_bestTry ∈ allW := tm3 (List.mem_of_getElem? (i := 81) (by decide +kernel)) (by decide +kernel)
theorem kiX1_bestTry : Cond.instanceMethod yX1_bestTry ∈ allW := tm3 (List.mem_of_getElem? (i := 82) (by decide +kernel)) (by decide +kernel)
theorem ksX1_bestTry : Cond.selects RX1 yX1_bestTry yX1_bestTry ∈ allW := tm3 (List.mem_of_getElem? (i := 83) (by decide +kernel)) (by decide +kernel)
theorem kcX1_bestTry : Cond.code yX1_bestTry cX1_bestTry 6 (some .int) ∈ allW := tm3 (List.mem_of_getElem? (i := 84) rfl) rfl
theorem kdX1_bestTry : yX1_bestTry.cls ≠ "java/lang/invoke/MethodHandle" ∧ yX1_bestTry.cls ≠ "java/lang/invoke/VarHandle" ∧ (parseMethodDescriptor yX1_bestTry.desc).map (fun d => d.parameters.length) = some 1 := by decide +kernel
theorem kmX1_61 : Cond.methodLink RX1 61 yX1_mostAtOnePlace ∈ allW := tm3 (List.mem_of_getElem? (i := 85) (by decide +kernel)) (by decide +kernel)
theorem kiX1_mostAtOnePlace : Cond.instanceMethod yX1_mostAtOnePlace ∈ allW := tm3 (List.mem_of_getElem? (i := 87) (by decide +kernel)) (by decide +kernel)
theorem kcX1_mostAtOnePlace : Cond.code yX1_mostAtOnePlace cX1_mostAtOnePlace 6 (some .int) ∈ allW := tm3 (List.mem_of_getElem? (i := 88) rfl) rfl
theorem kdX1_mostAtOnePlace : yX1_mostAtOnePlace.cls ≠ "java/lang/invoke/MethodHandle" ∧ yX1_mostAtOnePlace.cls ≠ "java/lang/invoke/VarHandle" ∧ (parseMethodDescriptor yX1_mostAtOnePlace.desc).map (fun d => d.parameters.length) = some 2 := by decide +kernel
theorem kmX1_64 : Cond.methodLink RX1 64 yJ7_fill_53178 ∈ allW := tm3 (List.mem_of_getElem? (i := 89) (by decide +kernel)) (by decide +kernel)
theorem kmX1_70 : Cond.methodLink RX1 70 Lib.Math.max.name ∈ allW := tm3 (List.mem_of_getElem? (i := 90) (by decide +kernel)) (by decide +kernel)
theorem ktMath_max : Cond.static Lib.Math.max.name ∈ allW := tm3 (List.mem_of_getElem? (i := 91) (by decide +kernel)) (by decide +kernel)
theorem kcMath_max : Cond.code Lib.Math.max.name Lib.Math.max.code 2 (some .int) ∈ allW := tm3 (List.mem_of_getElem? (i := 92) rfl) rfl
theorem kmL_85 : Cond.methodLink RL 85 yX8_rate ∈ allW := tm3 (List.mem_of_getElem? (i := 93) (by decide +kernel)) (by decide +kernel)
theorem kiX8_rate : Cond.instanceMethod yX8_rate ∈ allW := tm3 (List.mem_of_getElem? (i := 94) (by decide +kernel)) (by decide +kernel)
theorem ksX8_rate : Cond.selects RX8 yX8_rate yX8_rate ∈ allW := tm3 (List.mem_of_getElem? (i := 95) (by decide +kernel)) (by decide +kernel)
theorem kcX8_rate : Cond.code yX8_rate cX8_rate 3 (some .int) ∈ allW := tm3 (List.mem_of_getElem? (i := 96) rfl) rfl
theorem kdX8_rate : yX8_rate.cls ≠ "java/lang/invoke/MethodHandle" ∧ yX8_rate.cls ≠ "java/lang/invoke/VarHandle" ∧ (parseMethodDescriptor yX8_rate.desc).map (fun d => d.parameters.length) = some 2 := by decide +kernel
theorem kkX8_217 : Cond.constant RX8 217 (-1000000) ∈ allW := tm3 (List.mem_of_getElem? (i := 97) (by decide +kernel)) (by decide +kernel)
theorem kmX8_218 : Cond.methodLink RX8 218 yX8_asCoil ∈ allW := tm3 (List.mem_of_getElem? (i := 98) (by decide +kernel)) (by decide +kernel)
theorem kiX8_asCoil : Cond.instanceMethod yX8_asCoil ∈ allW := tm3 (List.mem_of_getElem? (i := 100) (by decide +kernel)) (by decide +kernel)
theorem kcX8_asCoil : Cond.code yX8_asCoil cX8_asCoil 2 (some .int) ∈ allW := tm3 (List.mem_of_getElem? (i := 101) rfl) rfl
theorem kdX8_asCoil : yX8_asCoil.cls ≠ "java/lang/invoke/MethodHandle" ∧ yX8_asCoil.cls ≠ "java/lang/invoke/VarHandle" ∧ (parseMethodDescriptor yX8_asCoil.desc).map (fun d => d.parameters.length) = some 1 := by decide +kernel
theorem kmX8_221 : Cond.methodLink RX8 221 yX8_asBrass ∈ allW := tm3 (List.mem_of_getElem? (i := 102) (by decide +kernel)) (by decide +kernel)
theorem kiX8_asBrass : Cond.instanceMethod yX8_asBrass ∈ allW := tm3 (List.mem_of_getElem? (i := 104) (by decide +kernel)) (by decide +kernel)
theorem kcX8_asBrass : Cond.code yX8_asBrass cX8_asBrass 2 (some .int) ∈ allW := tm3 (List.mem_of_getElem? (i := 105) rfl) rfl
theorem kdX8_asBrass : yX8_asBrass.cls ≠ "java/lang/invoke/MethodHandle" ∧ yX8_asBrass.cls ≠ "java/lang/invoke/VarHandle" ∧ (parseMethodDescriptor yX8_asBrass.desc).map (fun d => d.parameters.length) = some 1 := by decide +kernel
theorem kkX8_251 : Cond.constantLong RX8 251 (10) ∈ allW := tm3 (List.mem_of_getElem? (i := 106) (by decide +kernel)) (by decide +kernel)
theorem kmX8_224 : Cond.methodLink RX8 224 yX8_asPaper ∈ allW := tm3 (List.mem_of_getElem? (i := 107) (by decide +kernel)) (by decide +kernel)
theorem kiX8_asPaper : Cond.instanceMethod yX8_asPaper ∈ allW := tm3 (List.mem_of_getElem? (i := 109) (by decide +kernel)) (by decide +kernel)
theorem kcX8_asPaper : Cond.code yX8_asPaper cX8_asPaper 2 (some .int) ∈ allW := tm3 (List.mem_of_getElem? (i := 110) rfl) rfl
theorem kdX8_asPaper : yX8_asPaper.cls ≠ "java/lang/invoke/MethodHandle" ∧ yX8_asPaper.cls ≠ "java/lang/invoke/VarHandle" ∧ (parseMethodDescriptor yX8_asPaper.desc).map (fun d => d.parameters.length) = some 1 := by decide +kernel
theorem kkX8_253 : Cond.constantLong RX8 253 (100) ∈ allW := tm3 (List.mem_of_getElem? (i := 111) (by decide +kernel)) (by decide +kernel)
theorem kmX8_227 : Cond.methodLink RX8 227 yX8_asSilver ∈ allW := tm3 (List.mem_of_getElem? (i := 112) (by decide +kernel)) (by decide +kernel)
theorem kiX8_asSilver : Cond.instanceMethod yX8_asSilver ∈ allW := tm3 (List.mem_of_getElem? (i := 114) (by decide +kernel)) (by decide +kernel)
theorem kcX8_asSilver : Cond.code yX8_asSilver cX8_asSilver 2 (some .int) ∈ allW := tm3 (List.mem_of_getElem? (i := 115) rfl) rfl
theorem kdX8_asSilver : yX8_asSilver.cls ≠ "java/lang/invoke/MethodHandle" ∧ yX8_asSilver.cls ≠ "java/lang/invoke/VarHandle" ∧ (parseMethodDescriptor yX8_asSilver.desc).map (fun d => d.parameters.length) = some 1 := by decide +kernel
theorem kkX8_255 : Cond.constantLong RX8 255 (1000) ∈ allW := tm3 (List.mem_of_getElem? (i := 116) (by decide +kernel)) (by decide +kernel)
theorem kmX8_230 : Cond.methodLink RX8 230 yX8_asTwine ∈ allW := tm3 (List.mem_of_getElem? (i := 117) (by decide +kernel)) (by decide +kernel)
theorem kiX8_asTwine : Cond.instanceMethod yX8_asTwine ∈ allW := tm3 (List.mem_of_getElem? (i := 119) (by decide +kernel)) (by decide +kernel)
theorem kcX8_asTwine : Cond.code yX8_asTwine cX8_asTwine 2 (some .int) ∈ allW := tm3 (List.mem_of_getElem? (i := 120) rfl) rfl
theorem kdX8_asTwine : yX8_asTwine.cls ≠ "java/lang/invoke/MethodHandle" ∧ yX8_asTwine.cls ≠ "java/lang/invoke/VarHandle" ∧ (parseMethodDescriptor yX8_asTwine.desc).map (fun d => d.parameters.length) = some 1 := by decide +kernel
theorem kkX8_257 : Cond.constantLong RX8 257 (10000) ∈ allW := tm3 (List.mem_of_getElem? (i := 121) (by decide +kernel)) (by decide +kernel)
theorem kmX8_233 : Cond.methodLink RX8 233 yX8_asLead ∈ allW := tm3 (List.mem_of_getElem? (i := 122) (by decide +kernel)) (by decide +kernel)
theorem kiX8_asLead : Cond.instanceMethod yX8_asLead ∈ allW := tm3 (List.mem_of_getElem? (i := 124) (by decide +kernel)) (by decide +kernel)
theorem kcX8_asLead : Cond.code yX8_asLead cX8_asLead 2 (some .int) ∈ allW := tm3 (List.mem_of_getElem? (i := 125) rfl) rfl
theorem kdX8_asLead : yX8_asLead.cls ≠ "java/lang/invoke/MethodHandle" ∧ yX8_asLead.cls ≠ "java/lang/invoke/VarHandle" ∧ (parseMethodDescriptor yX8_asLead.desc).map (fun d => d.parameters.length) = some 1 := by decide +kernel
theorem kkX8_259 : Cond.constantLong RX8 259 (100000) ∈ allW := tm3 (List.mem_of_getElem? (i := 126) (by decide +kernel)) (by decide +kernel)
theorem kmL_89 : Cond.methodLink RL 89 yX8_keep ∈ allW := tm3 (List.mem_of_getElem? (i := 127) (by decide +kernel)) (by decide +kernel)
theorem kiX8_keep : Cond.instanceMethod yX8_keep ∈ allW := tm3 (List.mem_of_getElem? (i := 128) (by decide +kernel)) (by decide +kernel)
theorem ksX8_keep : Cond.selects RX8 yX8_keep yX8_keep ∈ allW := tm3 (List.mem_of_getElem? (i := 129) (by decide +kernel)) (by decide +kernel)
theorem kcX8_keep : Cond.code yX8_keep cX8_keep 2 (some .int) ∈ allW := tm3 (List.mem_of_getElem? (i := 130) rfl) rfl
theorem kdX8_keep : yX8_keep.cls ≠ "java/lang/invoke/MethodHandle" ∧ yX8_keep.cls ≠ "java/lang/invoke/VarHandle" ∧ (parseMethodDescriptor yX8_keep.desc).map (fun d => d.parameters.length) = some 1 := by decide +kernel
theorem kmX8_236 : Cond.methodLink RX8 236 yX4_copy ∈ allW := tm3 (List.mem_of_getElem? (i := 131) (by decide +kernel)) (by decide +kernel)
theorem kmL_93 : Cond.methodLink RL 93 yX8_back ∈ allW := tm3 (List.mem_of_getElem? (i := 132) (by decide +kernel)) (by decide +kernel)
theorem kiX8_back : Cond.instanceMethod yX8_back ∈ allW := tm3 (List.mem_of_getElem? (i := 133) (by decide +kernel)) (by decide +kernel)
theorem ksX8_back : Cond.selects RX8 yX8_back yX8_back ∈ allW := tm3 (List.mem_of_getElem? (i := 134) (by decide +kernel)) (by decide +kernel)
theorem kcX8_back : Cond.code yX8_back cX8_back 2 (some .int) ∈ allW := tm3 (List.mem_of_getElem? (i := 135) rfl) rfl
theorem kdX8_back : yX8_back.cls ≠ "java/lang/invoke/MethodHandle" ∧ yX8_back.cls ≠ "java/lang/invoke/VarHandle" ∧ (parseMethodDescriptor yX8_back.desc).map (fun d => d.parameters.length) = some 1 := by decide +kernel
theorem kmL_97 : Cond.methodLink RL 97 yX8_count ∈ allW := tm3 (List.mem_of_getElem? (i := 136) (by decide +kernel)) (by decide +kernel)
theorem kiX8_count : Cond.instanceMethod yX8_count ∈ allW := tm3 (List.mem_of_getElem? (i := 137) (by decide +kernel)) (by decide +kernel)
theorem ksX8_count : Cond.selects RX8 yX8_count yX8_count ∈ allW := tm3 (List.mem_of_getElem? (i := 138) (by decide +kernel)) (by decide +kernel)
theorem kcX8_count : Cond.code yX8_count cX8_count 2 (some .int) ∈ allW := tm3 (List.mem_of_getElem? (i := 139) rfl) rfl
theorem kdX8_count : yX8_count.cls ≠ "java/lang/invoke/MethodHandle" ∧ yX8_count.cls ≠ "java/lang/invoke/VarHandle" ∧ (parseMethodDescriptor yX8_count.desc).map (fun d => d.parameters.length) = some 1 := by decide +kernel
theorem kmL_101 : Cond.methodLink RL 101 yX8_trace ∈ allW := tm3 (List.mem_of_getElem? (i := 140) (by decide +kernel)) (by decide +kernel)
theorem kiX8_trace : Cond.instanceMethod yX8_trace ∈ allW := tm3 (List.mem_of_getElem? (i := 141) (by decide +kernel)) (by decide +kernel)
theorem ksX8_trace : Cond.selects RX8 yX8_trace yX8_trace ∈ allW := tm3 (List.mem_of_getElem? (i := 142) (by decide +kernel)) (by decide +kernel)
theorem kcX8_trace : Cond.code yX8_trace cX8_trace 1 (some .long) ∈ allW := tm3 (List.mem_of_getElem? (i := 143) rfl) rfl
theorem kdX8_trace : yX8_trace.cls ≠ "java/lang/invoke/MethodHandle" ∧ yX8_trace.cls ≠ "java/lang/invoke/VarHandle" ∧ (parseMethodDescriptor yX8_trace.desc).map (fun d => d.parameters.length) = some 0 := by decide +kernel
theorem klL_10 : Cond.classLink RL 10 RX9 ∈ allW := tm3 (List.mem_of_getElem? (i := 144) (by decide +kernel)) (by decide +kernel)
theorem kjX9 : Cond.instantiable RX9 32 ∈ allW := tm3 (List.mem_of_getElem? (i := 145) (by decide +kernel)) (by decide +kernel)
theorem kmL_12 : Cond.methodLink RL 12 yX9_init ∈ allW := tm3 (List.mem_of_getElem? (i := 146) (by decide +kernel)) (by decide +kernel)
theorem kiX9_init : Cond.instanceMethod yX9_init ∈ allW := tm3 (List.mem_of_getElem? (i := 147) (by decide +kernel)) (by decide +kernel)
theorem kcX9_init : Cond.code yX9_init cX9_init 1 none ∈ allW := tm3 (List.mem_of_getElem? (i := 148) rfl) rfl
theorem kdX9_init : yX9_init.cls ≠ "java/lang/invoke/MethodHandle" ∧ yX9_init.cls ≠ "java/lang/invoke/VarHandle" ∧ (parseMethodDescriptor yX9_init.desc).map (fun d => d.parameters.length) = some 0 := by decide +kernel
theorem kmX9_1 : Cond.methodLink RX9 1 objectInit ∈ allW := tm3 (List.mem_of_getElem? (i := 149) (by decide +kernel)) (by decide +kernel)
theorem kfX9_7 : Cond.fieldLink RX9 7 (TX9 0).1 (TX9 0).2.1 (TX9 0).2.2.1 ∈ allW := tm3 (List.mem_of_getElem? (i := 150) (by decide +kernel)) (by decide +kernel)
theorem kfX9_66 : Cond.fieldLink RX9 66 (TX9 1).1 (TX9 1).2.1 (TX9 1).2.2.1 ∈ allW := tm3 (List.mem_of_getElem? (i := 151) (by decide +kernel)) (by decide +kernel)
theorem kfX9_13 : Cond.fieldLink RX9 13 (TX9 2).1 (TX9 2).2.1 (TX9 2).2.2.1 ∈ allW := tm3 (List.mem_of_getElem? (i := 152) (by decide +kernel)) (by decide +kernel)
theorem kfX9_17 : Cond.fieldLink RX9 17 (TX9 3).1 (TX9 3).2.1 (TX9 3).2.2.1 ∈ allW := tm3 (List.mem_of_getElem? (i := 153) (by decide +kernel)) (by decide +kernel)
theorem kfX9_20 : Cond.fieldLink RX9 20 (TX9 4).1 (TX9 4).2.1 (TX9 4).2.2.1 ∈ allW := tm3 (List.mem_of_getElem? (i := 154) (by decide +kernel)) (by decide +kernel)
theorem kfX9_23 : Cond.fieldLink RX9 23 (TX9 5).1 (TX9 5).2.1 (TX9 5).2.2.1 ∈ allW := tm3 (List.mem_of_getElem? (i := 155) (by decide +kernel)) (by decide +kernel)
theorem kfX9_26 : Cond.fieldLink RX9 26 (TX9 6).1 (TX9 6).2.1 (TX9 6).2.2.1 ∈ allW := tm3 (List.mem_of_getElem? (i := 156) (by decide +kernel)) (by decide +kernel)
theorem kfX9_116 : Cond.fieldLink RX9 116 (TX9 7).1 (TX9 7).2.1 (TX9 7).2.2.1 ∈ allW := tm3 (List.mem_of_getElem? (i := 157) (by decide +kernel)) (by decide +kernel)
theorem kfX9_29 : Cond.fieldLink RX9 29 (TX9 8).1 (TX9 8).2.1 (TX9 8).2.2.1 ∈ allW := tm3 (List.mem_of_getElem? (i := 158) (by decide +kernel)) (by decide +kernel)
theorem kfX9_33 : Cond.fieldLink RX9 33 (TX9 9).1 (TX9 9).2.1 (TX9 9).2.2.1 ∈ allW := tm3 (List.mem_of_getElem? (i := 159) (by decide +kernel)) (by decide +kernel)
theorem kfX9_73 : Cond.fieldLink RX9 73 (TX9 10).1 (TX9 10).2.1 (TX9 10).2.2.1 ∈ allW := tm3 (List.mem_of_getElem? (i := 160) (by decide +kernel)) (by decide +kernel)
theorem kfX9_119 : Cond.fieldLink RX9 119 (TX9 11).1 (TX9 11).2.1 (TX9 11).2.2.1 ∈ allW := tm3 (List.mem_of_getElem? (i := 161) (by decide +kernel)) (by decide +kernel)
theorem kfX9_36 : Cond.fieldLink RX9 36 (TX9 12).1 (TX9 12).2.1 (TX9 12).2.2.1 ∈ allW := tm3 (List.mem_of_getElem? (i := 162) (by decide +kernel)) (by decide +kernel)
theorem kfX9_39 : Cond.fieldLink RX9 39 (TX9 13).1 (TX9 13).2.1 (TX9 13).2.2.1 ∈ allW := tm3 (List.mem_of_getElem? (i := 163) (by decide +kernel)) (by decide +kernel)
theorem kfX9_42 : Cond.fieldLink RX9 42 (TX9 14).1 (TX9 14).2.1 (TX9 14).2.2.1 ∈ allW := tm3 (List.mem_of_getElem? (i := 164) (by decide +kernel)) (by decide +kernel)
theorem kfX9_191 : Cond.fieldLink RX9 191 (TX9 15).1 (TX9 15).2.1 (TX9 15).2.2.1 ∈ allW := tm3 (List.mem_of_getElem? (i := 165) (by decide +kernel)) (by decide +kernel)
theorem kfX9_79 : Cond.fieldLink RX9 79 (TX9 16).1 (TX9 16).2.1 (TX9 16).2.2.1 ∈ allW := tm3 (List.mem_of_getElem? (i := 166) (by decide +kernel)) (by decide +kernel)
theorem kfX9_76 : Cond.fieldLink RX9 76 (TX9 17).1 (TX9 17).2.1 (TX9 17).2.2.1 ∈ allW := tm3 (List.mem_of_getElem? (i := 167) (by decide +kernel)) (by decide +kernel)
theorem kfX9_92 : Cond.fieldLink RX9 92 (TX9 18).1 (TX9 18).2.1 (TX9 18).2.2.1 ∈ allW := tm3 (List.mem_of_getElem? (i := 168) (by decide +kernel)) (by decide +kernel)
theorem kfX9_45 : Cond.fieldLink RX9 45 (TX9 19).1 (TX9 19).2.1 (TX9 19).2.2.1 ∈ allW := tm3 (List.mem_of_getElem? (i := 169) (by decide +kernel)) (by decide +kernel)
theorem kfX9_48 : Cond.fieldLink RX9 48 (TX9 20).1 (TX9 20).2.1 (TX9 20).2.2.1 ∈ allW := tm3 (List.mem_of_getElem? (i := 170) (by decide +kernel)) (by decide +kernel)
theorem kfX9_51 : Cond.fieldLink RX9 51 (TX9 21).1 (TX9 21).2.1 (TX9 21).2.2.1 ∈ allW := tm3 (List.mem_of_getElem? (i := 171) (by decide +kernel)) (by decide +kernel)
theorem kfX9_54 : Cond.fieldLink RX9 54 (TX9 22).1 (TX9 22).2.1 (TX9 22).2.2.1 ∈ allW := tm3 (List.mem_of_getElem? (i := 172) (by decide +kernel)) (by decide +kernel)
theorem kfX9_89 : Cond.fieldLink RX9 89 (TX9 23).1 (TX9 23).2.1 (TX9 23).2.2.1 ∈ allW := tm3 (List.mem_of_getElem? (i := 173) (by decide +kernel)) (by decide +kernel)
theorem kfX9_125 : Cond.fieldLink RX9 125 (TX9 24).1 (TX9 24).2.1 (TX9 24).2.2.1 ∈ allW := tm3 (List.mem_of_getElem? (i := 174) (by decide +kernel)) (by decide +kernel)
theorem kfX9_128 : Cond.fieldLink RX9 128 (TX9 25).1 (TX9 25).2.1 (TX9 25).2.2.1 ∈ allW := tm3 (List.mem_of_getElem? (i := 175) (by decide +kernel)) (by decide +kernel)
theorem kfX9_131 : Cond.fieldLink RX9 131 (TX9 26).1 (TX9 26).2.1 (TX9 26).2.2.1 ∈ allW := tm3 (List.mem_of_getElem? (i := 176) (by decide +kernel)) (by decide +kernel)
theorem kfX9_57 : Cond.fieldLink RX9 57 (TX9 27).1 (TX9 27).2.1 (TX9 27).2.2.1 ∈ allW := tm3 (List.mem_of_getElem? (i := 177) (by decide +kernel)) (by decide +kernel)
theorem kfX9_153 : Cond.fieldLink RX9 153 (TX9 28).1 (TX9 28).2.1 (TX9 28).2.2.1 ∈ allW := tm3 (List.mem_of_getElem? (i := 178) (by decide +kernel)) (by decide +kernel)
theorem kfX9_60 : Cond.fieldLink RX9 60 (TX9 29).1 (TX9 29).2.1 (TX9 29).2.2.1 ∈ allW := tm3 (List.mem_of_getElem? (i := 179) (by decide +kernel)) (by decide +kernel)
theorem kfX9_182 : Cond.fieldLink RX9 182 (TX9 30).1 (TX9 30).2.1 (TX9 30).2.2.1 ∈ allW := tm3 (List.mem_of_getElem? (i := 180) (by decide +kernel)) (by decide +kernel)
theorem kfX9_63 : Cond.fieldLink RX9 63 (TX9 31).1 (TX9 31).2.1 (TX9 31).2.2.1 ∈ allW := tm3 (List.mem_of_getElem? (i := 181) (by decide +kernel)) (by decide +kernel)
theorem kmL_17 : Cond.methodLink RL 17 yX9_type ∈ allW := tm4 (List.mem_of_getElem? (i := 7) (by decide +kernel)) (by decide +kernel)
theorem kiX9_type : Cond.instanceMethod yX9_type ∈ allW := tm4 (List.mem_of_getElem? (i := 8) (by decide +kernel)) (by decide +kernel)
theorem ksX9_type : Cond.selects RX9 yX9_type yX9_type ∈ allW := tm4 (List.mem_of_getElem? (i := 9) (by decide +kernel)) (by decide +kernel)
theorem kcX9_type : Cond.code yX9_type cX9_type 2 (some .int) ∈ allW := tm4 (List.mem_of_getElem? (i := 10) rfl) rfl
theorem kdX9_type : yX9_type.cls ≠ "java/lang/invoke/MethodHandle" ∧ yX9_type.cls ≠ "java/lang/invoke/VarHandle" ∧ (parseMethodDescriptor yX9_type.desc).map (fun d => d.parameters.length) = some 1 := by decide +kernel
theorem kmX9_69 : Cond.methodLink RX9 69 yX9_in ∈ allW := tm4 (List.mem_of_getElem? (i := 11) (by decide +kernel)) (by decide +kernel)
theorem ktX9_in : Cond.static yX9_in ∈ allW := tm4 (List.mem_of_getElem? (i := 12) (by decide +kernel)) (by decide +kernel)
theorem kcX9_in : Cond.code yX9_in cX9_in 3 (some .boolean) ∈ allW := tm4 (List.mem_of_getElem? (i := 13) rfl) rfl
theorem kdX9_in : yX9_in.cls ≠ "java/lang/invoke/MethodHandle" ∧ yX9_in.cls ≠ "java/lang/invoke/VarHandle" ∧ (parseMethodDescriptor yX9_in.desc).map (fun d => d.parameters.length) = some 3 := by decide +kernel
theorem kmL_22 : Cond.methodLink RL 22 yX9_clear ∈ allW := tm4 (List.mem_of_getElem? (i := 14) (by decide +kernel)) (by decide +kernel)
theorem kiX9_clear : Cond.instanceMethod yX9_clear ∈ allW := tm4 (List.mem_of_getElem? (i := 15) (by decide +kernel)) (by decide +kernel)
theorem ksX9_clear : Cond.selects RX9 yX9_clear yX9_clear ∈ allW := tm4 (List.mem_of_getElem? (i := 16) (by decide +kernel)) (by decide +kernel)
theorem kcX9_clear : Cond.code yX9_clear cX9_clear 2 (some .int) ∈ allW := tm4 (List.mem_of_getElem? (i := 17) rfl) rfl
theorem kdX9_clear : yX9_clear.cls ≠ "java/lang/invoke/MethodHandle" ∧ yX9_clear.cls ≠ "java/lang/invoke/VarHandle" ∧ (parseMethodDescriptor yX9_clear.desc).map (fun d => d.parameters.length) = some 0 := by decide +kernel
theorem kmL_26 : Cond.methodLink RL 26 yX9_stairs ∈ allW := tm4 (List.mem_of_getElem? (i := 18) (by decide +kernel)) (by decide +kernel)
theorem kiX9_stairs : Cond.instanceMethod yX9_stairs ∈ allW := tm4 (List.mem_of_getElem? (i := 19) (by decide +kernel)) (by decide +kernel)
theorem ksX9_stairs : Cond.selects RX9 yX9_stairs yX9_stairs ∈ allW := tm4 (List.mem_of_getElem? (i := 20) (by decide +kernel)) (by decide +kernel)
theorem kcX9_stairs : Cond.code yX9_stairs cX9_stairs 3 (some .int) ∈ allW := tm4 (List.mem_of_getElem? (i := 21) rfl) rfl
theorem kdX9_stairs : yX9_stairs.cls ≠ "java/lang/invoke/MethodHandle" ∧ yX9_stairs.cls ≠ "java/lang/invoke/VarHandle" ∧ (parseMethodDescriptor yX9_stairs.desc).map (fun d => d.parameters.length) = some 0 := by decide +kernel
theorem kmX9_112 : Cond.methodLink RX9 112 yX9_readItems ∈ allW := tm4 (List.mem_of_getElem? (i := 22) (by decide +kernel)) (by decide +kernel)
theorem kiX9_readItems : Cond.instanceMethod yX9_readItems ∈ allW := tm4 (List.mem_of_getElem? (i := 24) (by decide +kernel)) (by decide +kernel)
theorem kcX9_readItems : Cond.code yX9_readItems cX9_readItems 2 (some .int) ∈ allW := tm4 (List.mem_of_getElem? (i := 25) rfl) rfl
theorem kdX9_readItems : yX9_readItems.cls ≠ "java/lang/invoke/MethodHandle" ∧ yX9_readItems.cls ≠ "java/lang/invoke/VarHandle" ∧ (parseMethodDescriptor yX9_readItems.desc).map (fun d => d.parameters.length) = some 0 := by decide +kernel
theorem kmX9_86 : Cond.methodLink RX9 86 yX9_nextToken ∈ allW := tm4 (List.mem_of_getElem? (i := 26) (by decide +kernel)) (by decide +kernel)
theorem kiX9_nextToken : Cond.instanceMethod yX9_nextToken ∈ allW := tm4 (List.mem_of_getElem? (i := 28) (by decide +kernel)) (by decide +kernel)
theorem kcX9_nextToken : Cond.code yX9_nextToken cX9_nextToken 1 none ∈ allW := tm4 (List.mem_of_getElem? (i := 29) rfl) rfl
theorem kdX9_nextToken : yX9_nextToken.cls ≠ "java/lang/invoke/MethodHandle" ∧ yX9_nextToken.cls ≠ "java/lang/invoke/VarHandle" ∧ (parseMethodDescriptor yX9_nextToken.desc).map (fun d => d.parameters.length) = some 0 := by decide +kernel
theorem kmX9_82 : Cond.methodLink RX9 82 yX9_isFigure ∈ allW := tm4 (List.mem_of_getElem? (i := 30) (by decide +kernel)) (by decide +kernel)
theorem kiX9_isFigure : Cond.instanceMethod yX9_isFigure ∈ allW := tm4 (List.mem_of_getElem? (i := 32) (by decide +kernel)) (by decide +kernel)
theorem kcX9_isFigure : Cond.code yX9_isFigure cX9_isFigure 2 (some .boolean) ∈ allW := tm4 (List.mem_of_getElem? (i := 33) rfl) rfl
theorem kdX9_isFigure : yX9_isFigure.cls ≠ "java/lang/invoke/MethodHandle" ∧ yX9_isFigure.cls ≠ "java/lang/invoke/VarHandle" ∧ (parseMethodDescriptor yX9_isFigure.desc).map (fun d => d.parameters.length) = some 1 := by decide +kernel
theorem kmX9_109 : Cond.methodLink RX9 109 yX9_readsItem ∈ allW := tm4 (List.mem_of_getElem? (i := 34) (by decide +kernel)) (by decide +kernel)
theorem kiX9_readsItem : Cond.instanceMethod yX9_readsItem ∈ allW := tm4 (List.mem_of_getElem? (i := 36) (by decide +kernel)) (by decide +kernel)
theorem kcX9_readsItem : Cond.code yX9_readsItem cX9_readsItem 2 (some .boolean) ∈ allW := tm4 (List.mem_of_getElem? (i := 37) rfl) rfl
theorem kdX9_readsItem : yX9_readsItem.cls ≠ "java/lang/invoke/MethodHandle" ∧ yX9_readsItem.cls ≠ "java/lang/invoke/VarHandle" ∧ (parseMethodDescriptor yX9_readsItem.desc).map (fun d => d.parameters.length) = some 0 := by decide +kernel
theorem kmX9_99 : Cond.methodLink RX9 99 yX9_isSign ∈ allW := tm4 (List.mem_of_getElem? (i := 38) (by decide +kernel)) (by decide +kernel)
theorem kiX9_isSign : Cond.instanceMethod yX9_isSign ∈ allW := tm4 (List.mem_of_getElem? (i := 40) (by decide +kernel)) (by decide +kernel)
theorem kcX9_isSign : Cond.code yX9_isSign cX9_isSign 2 (some .boolean) ∈ allW := tm4 (List.mem_of_getElem? (i := 41) rfl) rfl
theorem kdX9_isSign : yX9_isSign.cls ≠ "java/lang/invoke/MethodHandle" ∧ yX9_isSign.cls ≠ "java/lang/invoke/VarHandle" ∧ (parseMethodDescriptor yX9_isSign.desc).map (fun d => d.parameters.length) = some 1 := by decide +kernel
theorem kmX9_102 : Cond.methodLink RX9 102 yX9_readsStep ∈ allW := tm4 (List.mem_of_getElem? (i := 42) (by decide +kernel)) (by decide +kernel)
theorem kiX9_readsStep : Cond.instanceMethod yX9_readsStep ∈ allW := tm4 (List.mem_of_getElem? (i := 44) (by decide +kernel)) (by decide +kernel)
theorem kcX9_readsStep : Cond.code yX9_readsStep cX9_readsStep 1 (some .boolean) ∈ allW := tm4 (List.mem_of_getElem? (i := 45) rfl) rfl
theorem kdX9_readsStep : yX9_readsStep.cls ≠ "java/lang/invoke/MethodHandle" ∧ yX9_readsStep.cls ≠ "java/lang/invoke/VarHandle" ∧ (parseMethodDescriptor yX9_readsStep.desc).map (fun d => d.parameters.length) = some 0 := by decide +kernel
theorem kmX9_95 : Cond.methodLink RX9 95 yX9_readsNumber ∈ allW := tm4 (List.mem_of_getElem? (i := 46) (by decide +kernel)) (by decide +kernel)
theorem kiX9_readsNumber : Cond.instanceMethod yX9_readsNumber ∈ allW := tm4 (List.mem_of_getElem? (i := 48) (by decide +kernel)) (by decide +kernel)
theorem kcX9_readsNumber : Cond.code yX9_readsNumber cX9_readsNumber 3 (some .boolean) ∈ allW := tm4 (List.mem_of_getElem? (i := 49) rfl) rfl
theorem kdX9_readsNumber : yX9_readsNumber.cls ≠ "java/lang/invoke/MethodHandle" ∧ yX9_readsNumber.cls ≠ "java/lang/invoke/VarHandle" ∧ (parseMethodDescriptor yX9_readsNumber.desc).map (fun d => d.parameters.length) = some 2 := by decide +kernel
theorem kmX9_106 : Cond.methodLink RX9 106 yX9_readsCoil ∈ allW := tm4 (List.mem_of_getElem? (i := 50) (by decide +kernel)) (by decide +kernel)
theorem kiX9_readsCoil : Cond.instanceMethod yX9_readsCoil ∈ allW := tm4 (List.mem_of_getElem? (i := 52) (by decide +kernel)) (by decide +kernel)
theorem kcX9_readsCoil : Cond.code yX9_readsCoil cX9_readsCoil 4 (some .boolean) ∈ allW := tm4 (List.mem_of_getElem? (i := 53) rfl) rfl
theorem kdX9_readsCoil : yX9_readsCoil.cls ≠ "java/lang/invoke/MethodHandle" ∧ yX9_readsCoil.cls ≠ "java/lang/invoke/VarHandle" ∧ (parseMethodDescriptor yX9_readsCoil.desc).map (fun d => d.parameters.length) = some 3 := by decide +kernel
theorem kmL_31 : Cond.methodLink RL 31 yX9_step ∈ allW := tm4 (List.mem_of_getElem? (i := 54) (by decide +kernel)) (by decide +kernel)
theorem kiX9_step : Cond.instanceMethod yX9_step ∈ allW := tm4 (List.mem_of_getElem? (i := 55) (by decide +kernel)) (by decide +kernel)
theorem ksX9_step : Cond.selects RX9 yX9_step yX9_step ∈ allW := tm4 (List.mem_of_getElem? (i := 56) (by decide +kernel)) (by decide +kernel)
theorem kcX9_step : Cond.code yX9_step cX9_step 3 (some .int) ∈ allW := tm4 (List.mem_of_getElem? (i := 57) rfl) rfl
theorem kdX9_step : yX9_step.cls ≠ "java/lang/invoke/MethodHandle" ∧ yX9_step.cls ≠ "java/lang/invoke/VarHandle" ∧ (parseMethodDescriptor yX9_step.desc).map (fun d => d.parameters.length) = some 2 := by decide +kernel
theorem kmX9_122 : Cond.methodLink RX9 122 yX9_isStep ∈ allW := tm4 (List.mem_of_getElem? (i := 58) (by decide +kernel)) (by decide +kernel)
theorem kiX9_isStep : Cond.instanceMethod yX9_isStep ∈ allW := tm4 (List.mem_of_getElem? (i := 60) (by decide +kernel)) (by decide +kernel)
theorem kcX9_isStep : Cond.code yX9_isStep cX9_isStep 2 (some .boolean) ∈ allW := tm4 (List.mem_of_getElem? (i := 61) rfl) rfl
theorem kdX9_isStep : yX9_isStep.cls ≠ "java/lang/invoke/MethodHandle" ∧ yX9_isStep.cls ≠ "java/lang/invoke/VarHandle" ∧ (parseMethodDescriptor yX9_isStep.desc).map (fun d => d.parameters.length) = some 1 := by decide +kernel
theorem kmL_35 : Cond.methodLink RL 35 yX9_now ∈ allW := tm4 (List.mem_of_getElem? (i := 62) (by decide +kernel)) (by decide +kernel)
theorem kiX9_now : Cond.instanceMethod yX9_now ∈ allW := tm4 (List.mem_of_getElem? (i := 63) (by decide +kernel)) (by decide +kernel)
theorem ksX9_now : Cond.selects RX9 yX9_now yX9_now ∈ allW := tm4 (List.mem_of_getElem? (i := 64) (by decide +kernel)) (by decide +kernel)
theorem kcX9_now : Cond.code yX9_now cX9_now 2 (some .int) ∈ allW := tm4 (List.mem_of_getElem? (i := 65) rfl) rfl
theorem kdX9_now : yX9_now.cls ≠ "java/lang/invoke/MethodHandle" ∧ yX9_now.cls ≠ "java/lang/invoke/VarHandle" ∧ (parseMethodDescriptor yX9_now.desc).map (fun d => d.parameters.length) = some 1 := by decide +kernel
theorem kmX9_169 : Cond.methodLink RX9 169 yX9_tellRun ∈ allW := tm4 (List.mem_of_getElem? (i := 66) (by decide +kernel)) (by decide +kernel)
theorem kiX9_tellRun : Cond.instanceMethod yX9_tellRun ∈ allW := tm4 (List.mem_of_getElem? (i := 68) (by decide +kernel)) (by decide +kernel)
theorem kcX9_tellRun : Cond.code yX9_tellRun cX9_tellRun 3 (some .int) ∈ allW := tm4 (List.mem_of_getElem? (i := 69) rfl) rfl
theorem kdX9_tellRun : yX9_tellRun.cls ≠ "java/lang/invoke/MethodHandle" ∧ yX9_tellRun.cls ≠ "java/lang/invoke/VarHandle" ∧ (parseMethodDescriptor yX9_tellRun.desc).map (fun d => d.parameters.length) = some 1 := by decide +kernel
theorem kmX9_163 : Cond.methodLink RX9 163 yX9_layTried ∈ allW := tm4 (List.mem_of_getElem? (i := 70) (by decide +kernel)) (by decide +kernel)
theorem kiX9_layTried : Cond.instanceMethod yX9_layTried ∈ allW := tm4 (List.mem_of_getElem? (i := 72) (by decide +kernel)) (by decide +kernel)
theorem kcX9_layTried : Cond.code yX9_layTried cX9_layTried 1 none ∈ allW := tm4 (List.mem_of_getElem? (i := 73) rfl) rfl
theorem kdX9_layTried : yX9_layTried.cls ≠ "java/lang/invoke/MethodHandle" ∧ yX9_layTried.cls ≠ "java/lang/invoke/VarHandle" ∧ (parseMethodDescriptor yX9_layTried.desc).map (fun d => d.parameters.length) = some 0 := by decide +kernel
theorem kmX9_145 : Cond.methodLink RX9 145 yX9_copyRow ∈ allW := tm4 (List.mem_of_getElem? (i := 74) (by decide +kernel)) (by decide +kernel)
theorem kiX9_copyRow : Cond.instanceMethod yX9_copyRow ∈ allW := tm4 (List.mem_of_getElem? (i := 76) (by decide +kernel)) (by decide +kernel)
theorem kcX9_copyRow : Cond.code yX9_copyRow cX9_copyRow 4 none ∈ allW := tm4 (List.mem_of_getElem? (i := 77) rfl) rfl
theorem kdX9_copyRow : yX9_copyRow.cls ≠ "java/lang/invoke/MethodHandle" ∧ yX9_copyRow.cls ≠ "java/lang/invoke/VarHandle" ∧ (parseMethodDescriptor yX9_copyRow.desc).map (fun d => d.parameters.length) = some 2 := by decide +kernel
theorem kmX9_149 : Cond.methodLink RX9 149 yX9_asItIs ∈ allW := tm4 (List.mem_of_getElem? (i := 78) (by decide +kernel)) (by decide +kernel)
theorem kiX9_asItIs : Cond.instanceMethod yX9_asItIs ∈ allW := tm4 (List.mem_of_getElem? (i := 80) (by decide +kernel)) (by decide +kernel)
theorem kcX9_asItIs : Cond.code yX9_asItIs cX9_asItIs 1 none ∈ allW := tm4 (List.mem_of_getElem? (i := 81) rfl) rfl
theorem kdX9_asItIs : yX9_asItIs.cls ≠ "java/lang/invoke/MethodHandle" ∧ yX9_asItIs.cls ≠ "java/lang/invoke/VarHandle" ∧ (parseMethodDescriptor yX9_asItIs.desc).map (fun d => d.parameters.length) = some 0 := by decide +kernel
theorem kmX9_166 : Cond.methodLink RX9 166 yX9_runs ∈ allW := tm4 (List.mem_of_getElem? (i := 82) (by decide +kernel)) (by decide +kernel)
theorem kiX9_runs : Cond.instanceMethod yX9_runs ∈ allW := tm4 (List.mem_of_getElem? (i := 84) (by decide +kernel)) (by decide +kernel)
theorem kcX9_runs : Cond.code yX9_runs cX9_runs 2 (some .int) ∈ allW := tm4 (List.mem_of_getElem? (i := 85) rfl) rfl
theorem kdX9_runs : yX9_runs.cls ≠ "java/lang/invoke/MethodHandle" ∧ yX9_runs.cls ≠ "java/lang/invoke/VarHandle" ∧ (parseMethodDescriptor yX9_runs.desc).map (fun d => d.parameters.length) = some 0 := by decide +kernel
theorem kmX9_142 : Cond.methodLink RX9 142 yX9_flip ∈ allW := tm4 (List.mem_of_getElem? (i := 86) (by decide +kernel)) (by decide +kernel)
theorem kiX9_flip : Cond.instanceMethod yX9_flip ∈ allW := tm4 (List.mem_of_getElem? (i := 88) (by decide +kernel)) (by decide +kernel)
theorem kcX9_flip : Cond.code yX9_flip cX9_flip 3 none ∈ allW := tm4 (List.mem_of_getElem? (i := 89) rfl) rfl
theorem kdX9_flip : yX9_flip.cls ≠ "java/lang/invoke/MethodHandle" ∧ yX9_flip.cls ≠ "java/lang/invoke/VarHandle" ∧ (parseMethodDescriptor yX9_flip.desc).map (fun d => d.parameters.length) = some 1 := by decide +kernel
theorem kmX9_134 : Cond.methodLink RX9 134 yX9_bound ∈ allW := tm4 (List.mem_of_getElem? (i := 90) (by decide +kernel)) (by decide +kernel)
theorem ktX9_bound : Cond.static yX9_bound ∈ allW := tm4 (List.mem_of_getElem? (i := 91) (by decide +kernel)) (by decide +kernel)
theorem kcX9_bound : Cond.code yX9_bound cX9_bound 1 (some .int) ∈ allW := tm4 (List.mem_of_getElem? (i := 92) rfl) rfl
theorem kdX9_bound : yX9_bound.cls ≠ "java/lang/invoke/MethodHandle" ∧ yX9_bound.cls ≠ "java/lang/invoke/VarHandle" ∧ (parseMethodDescriptor yX9_bound.desc).map (fun d => d.parameters.length) = some 1 := by decide +kernel
theorem kmX9_138 : Cond.methodLink RX9 138 yX9_lands ∈ allW := tm4 (List.mem_of_getElem? (i := 93) (by decide +kernel)) (by decide +kernel)
theorem kiX9_lands : Cond.instanceMethod yX9_lands ∈ allW := tm4 (List.mem_of_getElem? (i := 95) (by decide +kernel)) (by decide +kernel)
theorem kcX9_lands : Cond.code yX9_lands cX9_lands 5 none ∈ allW := tm4 (List.mem_of_getElem? (i := 96) rfl) rfl
theorem kdX9_lands : yX9_lands.cls ≠ "java/lang/invoke/MethodHandle" ∧ yX9_lands.cls ≠ "java/lang/invoke/VarHandle" ∧ (parseMethodDescriptor yX9_lands.desc).map (fun d => d.parameters.length) = some 1 := by decide +kernel
theorem kmX9_172 : Cond.methodLink RX9 172 yX9_leastOf ∈ allW := tm4 (List.mem_of_getElem? (i := 97) (by decide +kernel)) (by decide +kernel)
theorem kiX9_leastOf : Cond.instanceMethod yX9_leastOf ∈ allW := tm4 (List.mem_of_getElem? (i := 99) (by decide +kernel)) (by decide +kernel)
theorem kcX9_leastOf : Cond.code yX9_leastOf cX9_leastOf 3 (some .int) ∈ allW := tm4 (List.mem_of_getElem? (i := 100) rfl) rfl
theorem kdX9_leastOf : yX9_leastOf.cls ≠ "java/lang/invoke/MethodHandle" ∧ yX9_leastOf.cls ≠ "java/lang/invoke/VarHandle" ∧ (parseMethodDescriptor yX9_leastOf.desc).map (fun d => d.parameters.length) = some 1 := by decide +kernel
theorem kmX9_160 : Cond.methodLink RX9 160 yX9_fewest ∈ allW := tm4 (List.mem_of_getElem? (i := 101) (by decide +kernel)) (by decide +kernel)
theorem kiX9_fewest : Cond.instanceMethod yX9_fewest ∈ allW := tm4 (List.mem_of_getElem? (i := 103) (by decide +kernel)) (by decide +kernel)
theorem kcX9_fewest : Cond.code yX9_fewest cX9_fewest 3 (some .int) ∈ allW := tm4 (List.mem_of_getElem? (i := 104) rfl) rfl
theorem kdX9_fewest : yX9_fewest.cls ≠ "java/lang/invoke/MethodHandle" ∧ yX9_fewest.cls ≠ "java/lang/invoke/VarHandle" ∧ (parseMethodDescriptor yX9_fewest.desc).map (fun d => d.parameters.length) = some 0 := by decide +kernel
theorem kmX9_156 : Cond.methodLink RX9 156 yX9_leastFrom ∈ allW := tm4 (List.mem_of_getElem? (i := 105) (by decide +kernel)) (by decide +kernel)
theorem kiX9_leastFrom : Cond.instanceMethod yX9_leastFrom ∈ allW := tm4 (List.mem_of_getElem? (i := 107) (by decide +kernel)) (by decide +kernel)
theorem kcX9_leastFrom : Cond.code yX9_leastFrom cX9_leastFrom 7 (some .int) ∈ allW := tm4 (List.mem_of_getElem? (i := 108) rfl) rfl
theorem kdX9_leastFrom : yX9_leastFrom.cls ≠ "java/lang/invoke/MethodHandle" ∧ yX9_leastFrom.cls ≠ "java/lang/invoke/VarHandle" ∧ (parseMethodDescriptor yX9_leastFrom.desc).map (fun d => d.parameters.length) = some 2 := by decide +kernel
theorem kkX9_152 : Cond.constant RX9 152 (99999) ∈ allW := tm4 (List.mem_of_getElem? (i := 109) (by decide +kernel)) (by decide +kernel)
theorem kmL_39 : Cond.methodLink RL 39 yX9_flips ∈ allW := tm4 (List.mem_of_getElem? (i := 110) (by decide +kernel)) (by decide +kernel)
theorem kiX9_flips : Cond.instanceMethod yX9_flips ∈ allW := tm4 (List.mem_of_getElem? (i := 111) (by decide +kernel)) (by decide +kernel)
theorem ksX9_flips : Cond.selects RX9 yX9_flips yX9_flips ∈ allW := tm4 (List.mem_of_getElem? (i := 112) (by decide +kernel)) (by decide +kernel)
theorem kcX9_flips : Cond.code yX9_flips cX9_flips 1 (some .int) ∈ allW := tm4 (List.mem_of_getElem? (i := 113) rfl) rfl
theorem kdX9_flips : yX9_flips.cls ≠ "java/lang/invoke/MethodHandle" ∧ yX9_flips.cls ≠ "java/lang/invoke/VarHandle" ∧ (parseMethodDescriptor yX9_flips.desc).map (fun d => d.parameters.length) = some 0 := by decide +kernel
theorem kmX9_175 : Cond.methodLink RX9 175 yX9_keepPast ∈ allW := tm4 (List.mem_of_getElem? (i := 114) (by decide +kernel)) (by decide +kernel)
theorem kiX9_keepPast : Cond.instanceMethod yX9_keepPast ∈ allW := tm4 (List.mem_of_getElem? (i := 116) (by decide +kernel)) (by decide +kernel)
theorem kcX9_keepPast : Cond.code yX9_keepPast cX9_keepPast 2 none ∈ allW := tm4 (List.mem_of_getElem? (i := 117) rfl) rfl
theorem kdX9_keepPast : yX9_keepPast.cls ≠ "java/lang/invoke/MethodHandle" ∧ yX9_keepPast.cls ≠ "java/lang/invoke/VarHandle" ∧ (parseMethodDescriptor yX9_keepPast.desc).map (fun d => d.parameters.length) = some 0 := by decide +kernel
theorem kmL_43 : Cond.methodLink RL 43 yX9_pushes ∈ allW := tm4 (List.mem_of_getElem? (i := 118) (by decide +kernel)) (by decide +kernel)
theorem kiX9_pushes : Cond.instanceMethod yX9_pushes ∈ allW := tm4 (List.mem_of_getElem? (i := 119) (by decide +kernel)) (by decide +kernel)
theorem ksX9_pushes : Cond.selects RX9 yX9_pushes yX9_pushes ∈ allW := tm4 (List.mem_of_getElem? (i := 120) (by decide +kernel)) (by decide +kernel)
theorem kcX9_pushes : Cond.code yX9_pushes cX9_pushes 2 (some .int) ∈ allW := tm4 (List.mem_of_getElem? (i := 121) rfl) rfl
theorem kdX9_pushes : yX9_pushes.cls ≠ "java/lang/invoke/MethodHandle" ∧ yX9_pushes.cls ≠ "java/lang/invoke/VarHandle" ∧ (parseMethodDescriptor yX9_pushes.desc).map (fun d => d.parameters.length) = some 1 := by decide +kernel
theorem kmL_47 : Cond.methodLink RL 47 yX9_lifts ∈ allW := tm4 (List.mem_of_getElem? (i := 122) (by decide +kernel)) (by decide +kernel)
theorem kiX9_lifts : Cond.instanceMethod yX9_lifts ∈ allW := tm4 (List.mem_of_getElem? (i := 123) (by decide +kernel)) (by decide +kernel)
theorem ksX9_lifts : Cond.selects RX9 yX9_lifts yX9_lifts ∈ allW := tm4 (List.mem_of_getElem? (i := 124) (by decide +kernel)) (by decide +kernel)
theorem kcX9_lifts : Cond.code yX9_lifts cX9_lifts 3 (some .int) ∈ allW := tm4 (List.mem_of_getElem? (i := 125) rfl) rfl
theorem kdX9_lifts : yX9_lifts.cls ≠ "java/lang/invoke/MethodHandle" ∧ yX9_lifts.cls ≠ "java/lang/invoke/VarHandle" ∧ (parseMethodDescriptor yX9_lifts.desc).map (fun d => d.parameters.length) = some 1 := by decide +kernel
theorem kmL_51 : Cond.methodLink RL 51 yX9_lays ∈ allW := tm4 (List.mem_of_getElem? (i := 126) (by decide +kernel)) (by decide +kernel)
theorem kiX9_lays : Cond.instanceMethod yX9_lays ∈ allW := tm4 (List.mem_of_getElem? (i := 127) (by decide +kernel)) (by decide +kernel)
theorem ksX9_lays : Cond.selects RX9 yX9_lays yX9_lays ∈ allW := tm4 (List.mem_of_getElem? (i := 128) (by decide +kernel)) (by decide +kernel)
theorem kcX9_lays : Cond.code yX9_lays cX9_lays 4 (some .int) ∈ allW := tm4 (List.mem_of_getElem? (i := 129) rfl) rfl
theorem kdX9_lays : yX9_lays.cls ≠ "java/lang/invoke/MethodHandle" ∧ yX9_lays.cls ≠ "java/lang/invoke/VarHandle" ∧ (parseMethodDescriptor yX9_lays.desc).map (fun d => d.parameters.length) = some 2 := by decide +kernel
theorem kmL_55 : Cond.methodLink RL 55 yX9_undo ∈ allW := tm4 (List.mem_of_getElem? (i := 130) (by decide +kernel)) (by decide +kernel)
theorem kiX9_undo : Cond.instanceMethod yX9_undo ∈ allW := tm4 (List.mem_of_getElem? (i := 131) (by decide +kernel)) (by decide +kernel)
theorem ksX9_undo : Cond.selects RX9 yX9_undo yX9_undo ∈ allW := tm4 (List.mem_of_getElem? (i := 132) (by decide +kernel)) (by decide +kernel)
theorem kcX9_undo : Cond.code yX9_undo cX9_undo 1 (some .int) ∈ allW := tm4 (List.mem_of_getElem? (i := 133) rfl) rfl
theorem kdX9_undo : yX9_undo.cls ≠ "java/lang/invoke/MethodHandle" ∧ yX9_undo.cls ≠ "java/lang/invoke/VarHandle" ∧ (parseMethodDescriptor yX9_undo.desc).map (fun d => d.parameters.length) = some 0 := by decide +kernel
theorem kmL_59 : Cond.methodLink RL 59 yX9_push ∈ allW := tm4 (List.mem_of_getElem? (i := 134) (by decide +kernel)) (by decide +kernel)
theorem kiX9_push : Cond.instanceMethod yX9_push ∈ allW := tm4 (List.mem_of_getElem? (i := 135) (by decide +kernel)) (by decide +kernel)
theorem ksX9_push : Cond.selects RX9 yX9_push yX9_push ∈ allW := tm4 (List.mem_of_getElem? (i := 136) (by decide +kernel)) (by decide +kernel)
theorem kcX9_push : Cond.code yX9_push cX9_push 3 (some .int) ∈ allW := tm4 (List.mem_of_getElem? (i := 137) rfl) rfl
theorem kdX9_push : yX9_push.cls ≠ "java/lang/invoke/MethodHandle" ∧ yX9_push.cls ≠ "java/lang/invoke/VarHandle" ∧ (parseMethodDescriptor yX9_push.desc).map (fun d => d.parameters.length) = some 1 := by decide +kernel
theorem kmL_63 : Cond.methodLink RL 63 yX9_mat ∈ allW := tm4 (List.mem_of_getElem? (i := 138) (by decide +kernel)) (by decide +kernel)
theorem kiX9_mat : Cond.instanceMethod yX9_mat ∈ allW := tm4 (List.mem_of_getElem? (i := 139) (by decide +kernel)) (by decide +kernel)
theorem ksX9_mat : Cond.selects RX9 yX9_mat yX9_mat ∈ allW := tm4 (List.mem_of_getElem? (i := 140) (by decide +kernel)) (by decide +kernel)
theorem kcX9_mat : Cond.code yX9_mat cX9_mat 4 (some .int) ∈ allW := tm4 (List.mem_of_getElem? (i := 141) rfl) rfl
theorem kdX9_mat : yX9_mat.cls ≠ "java/lang/invoke/MethodHandle" ∧ yX9_mat.cls ≠ "java/lang/invoke/VarHandle" ∧ (parseMethodDescriptor yX9_mat.desc).map (fun d => d.parameters.length) = some 2 := by decide +kernel
theorem kmL_67 : Cond.methodLink RL 67 yX9_odds ∈ allW := tm4 (List.mem_of_getElem? (i := 142) (by decide +kernel)) (by decide +kernel)
theorem kiX9_odds : Cond.instanceMethod yX9_odds ∈ allW := tm4 (List.mem_of_getElem? (i := 143) (by decide +kernel)) (by decide +kernel)
theorem ksX9_odds : Cond.selects RX9 yX9_odds yX9_odds ∈ allW := tm4 (List.mem_of_getElem? (i := 144) (by decide +kernel)) (by decide +kernel)
theorem kcX9_odds : Cond.code yX9_odds cX9_odds 13 (some .int) ∈ allW := tm4 (List.mem_of_getElem? (i := 145) rfl) rfl
theorem kdX9_odds : yX9_odds.cls ≠ "java/lang/invoke/MethodHandle" ∧ yX9_odds.cls ≠ "java/lang/invoke/VarHandle" ∧ (parseMethodDescriptor yX9_odds.desc).map (fun d => d.parameters.length) = some 2 := by decide +kernel
theorem kmL_72 : Cond.methodLink RL 72 yX9_sees ∈ allW := tm4 (List.mem_of_getElem? (i := 146) (by decide +kernel)) (by decide +kernel)
theorem kiX9_sees : Cond.instanceMethod yX9_sees ∈ allW := tm4 (List.mem_of_getElem? (i := 147) (by decide +kernel)) (by decide +kernel)
theorem ksX9_sees : Cond.selects RX9 yX9_sees yX9_sees ∈ allW := tm4 (List.mem_of_getElem? (i := 148) (by decide +kernel)) (by decide +kernel)
theorem kcX9_sees : Cond.code yX9_sees cX9_sees 4 (some .int) ∈ allW := tm4 (List.mem_of_getElem? (i := 149) rfl) rfl
theorem kdX9_sees : yX9_sees.cls ≠ "java/lang/invoke/MethodHandle" ∧ yX9_sees.cls ≠ "java/lang/invoke/VarHandle" ∧ (parseMethodDescriptor yX9_sees.desc).map (fun d => d.parameters.length) = some 3 := by decide +kernel
theorem kmL_76 : Cond.methodLink RL 76 yX9_forget ∈ allW := tm4 (List.mem_of_getElem? (i := 150) (by decide +kernel)) (by decide +kernel)
theorem kiX9_forget : Cond.instanceMethod yX9_forget ∈ allW := tm4 (List.mem_of_getElem? (i := 151) (by decide +kernel)) (by decide +kernel)
theorem ksX9_forget : Cond.selects RX9 yX9_forget yX9_forget ∈ allW := tm4 (List.mem_of_getElem? (i := 152) (by decide +kernel)) (by decide +kernel)
theorem kcX9_forget : Cond.code yX9_forget cX9_forget 2 (some .int) ∈ allW := tm4 (List.mem_of_getElem? (i := 153) rfl) rfl
theorem kdX9_forget : yX9_forget.cls ≠ "java/lang/invoke/MethodHandle" ∧ yX9_forget.cls ≠ "java/lang/invoke/VarHandle" ∧ (parseMethodDescriptor yX9_forget.desc).map (fun d => d.parameters.length) = some 0 := by decide +kernel
theorem kmL_80 : Cond.methodLink RL 80 yX9_ways ∈ allW := tm4 (List.mem_of_getElem? (i := 154) (by decide +kernel)) (by decide +kernel)
theorem kiX9_ways : Cond.instanceMethod yX9_ways ∈ allW := tm4 (List.mem_of_getElem? (i := 155) (by decide +kernel)) (by decide +kernel)
theorem ksX9_ways : Cond.selects RX9 yX9_ways yX9_ways ∈ allW := tm4 (List.mem_of_getElem? (i := 156) (by decide +kernel)) (by decide +kernel)
theorem kcX9_ways : Cond.code yX9_ways cX9_ways 2 (some .int) ∈ allW := tm4 (List.mem_of_getElem? (i := 157) rfl) rfl
theorem kdX9_ways : yX9_ways.cls ≠ "java/lang/invoke/MethodHandle" ∧ yX9_ways.cls ≠ "java/lang/invoke/VarHandle" ∧ (parseMethodDescriptor yX9_ways.desc).map (fun d => d.parameters.length) = some 1 := by decide +kernel
theorem kmX9_188 : Cond.methodLink RX9 188 yX9_layWays ∈ allW := tm4 (List.mem_of_getElem? (i := 158) (by decide +kernel)) (by decide +kernel)
theorem kiX9_layWays : Cond.instanceMethod yX9_layWays ∈ allW := tm4 (List.mem_of_getElem? (i := 160) (by decide +kernel)) (by decide +kernel)
theorem kcX9_layWays : Cond.code yX9_layWays cX9_layWays 2 none ∈ allW := tm4 (List.mem_of_getElem? (i := 161) rfl) rfl
theorem kdX9_layWays : yX9_layWays.cls ≠ "java/lang/invoke/MethodHandle" ∧ yX9_layWays.cls ≠ "java/lang/invoke/VarHandle" ∧ (parseMethodDescriptor yX9_layWays.desc).map (fun d => d.parameters.length) = some 0 := by decide +kernel
theorem kmX9_185 : Cond.methodLink RX9 185 yX9_isWay ∈ allW := tm4 (List.mem_of_getElem? (i := 162) (by decide +kernel)) (by decide +kernel)
theorem kiX9_isWay : Cond.instanceMethod yX9_isWay ∈ allW := tm4 (List.mem_of_getElem? (i := 164) (by decide +kernel)) (by decide +kernel)
theorem kcX9_isWay : Cond.code yX9_isWay cX9_isWay 5 (some .boolean) ∈ allW := tm4 (List.mem_of_getElem? (i := 165) rfl) rfl
theorem kdX9_isWay : yX9_isWay.cls ≠ "java/lang/invoke/MethodHandle" ∧ yX9_isWay.cls ≠ "java/lang/invoke/VarHandle" ∧ (parseMethodDescriptor yX9_isWay.desc).map (fun d => d.parameters.length) = some 2 := by decide +kernel
theorem kmX9_178 : Cond.methodLink RX9 178 yX9_restsAt ∈ allW := tm4 (List.mem_of_getElem? (i := 166) (by decide +kernel)) (by decide +kernel)
theorem kiX9_restsAt : Cond.instanceMethod yX9_restsAt ∈ allW := tm4 (List.mem_of_getElem? (i := 168) (by decide +kernel)) (by decide +kernel)
theorem kcX9_restsAt : Cond.code yX9_restsAt cX9_restsAt 5 (some .int) ∈ allW := tm4 (List.mem_of_getElem? (i := 169) rfl) rfl
theorem kdX9_restsAt : yX9_restsAt.cls ≠ "java/lang/invoke/MethodHandle" ∧ yX9_restsAt.cls ≠ "java/lang/invoke/VarHandle" ∧ (parseMethodDescriptor yX9_restsAt.desc).map (fun d => d.parameters.length) = some 4 := by decide +kernel
theorem kmL_84 : Cond.methodLink RL 84 yX9_next ∈ allW := tm4 (List.mem_of_getElem? (i := 170) (by decide +kernel)) (by decide +kernel)
theorem kiX9_next : Cond.instanceMethod yX9_next ∈ allW := tm4 (List.mem_of_getElem? (i := 171) (by decide +kernel)) (by decide +kernel)
theorem ksX9_next : Cond.selects RX9 yX9_next yX9_next ∈ allW := tm4 (List.mem_of_getElem? (i := 172) (by decide +kernel)) (by decide +kernel)
theorem kcX9_next : Cond.code yX9_next cX9_next 8 (some .int) ∈ allW := tm4 (List.mem_of_getElem? (i := 173) rfl) rfl
theorem kdX9_next : yX9_next.cls ≠ "java/lang/invoke/MethodHandle" ∧ yX9_next.cls ≠ "java/lang/invoke/VarHandle" ∧ (parseMethodDescriptor yX9_next.desc).map (fun d => d.parameters.length) = some 1 := by decide +kernel
theorem kmL_88 : Cond.methodLink RL 88 yX9_rate ∈ allW := tm4 (List.mem_of_getElem? (i := 174) (by decide +kernel)) (by decide +kernel)
theorem kiX9_rate : Cond.instanceMethod yX9_rate ∈ allW := tm4 (List.mem_of_getElem? (i := 175) (by decide +kernel)) (by decide +kernel)
theorem ksX9_rate : Cond.selects RX9 yX9_rate yX9_rate ∈ allW := tm4 (List.mem_of_getElem? (i := 176) (by decide +kernel)) (by decide +kernel)
theorem kcX9_rate : Cond.code yX9_rate cX9_rate 3 (some .int) ∈ allW := tm4 (List.mem_of_getElem? (i := 177) rfl) rfl
theorem kdX9_rate : yX9_rate.cls ≠ "java/lang/invoke/MethodHandle" ∧ yX9_rate.cls ≠ "java/lang/invoke/VarHandle" ∧ (parseMethodDescriptor yX9_rate.desc).map (fun d => d.parameters.length) = some 2 := by decide +kernel
theorem kkX9_202 : Cond.constant RX9 202 (-1000000) ∈ allW := tm4 (List.mem_of_getElem? (i := 178) (by decide +kernel)) (by decide +kernel)
theorem kmX9_203 : Cond.methodLink RX9 203 yX9_brassRate ∈ allW := tm4 (List.mem_of_getElem? (i := 179) (by decide +kernel)) (by decide +kernel)
theorem kiX9_brassRate : Cond.instanceMethod yX9_brassRate ∈ allW := tm4 (List.mem_of_getElem? (i := 181) (by decide +kernel)) (by decide +kernel)
theorem kcX9_brassRate : Cond.code yX9_brassRate cX9_brassRate 2 (some .int) ∈ allW := tm4 (List.mem_of_getElem? (i := 182) rfl) rfl
theorem kdX9_brassRate : yX9_brassRate.cls ≠ "java/lang/invoke/MethodHandle" ∧ yX9_brassRate.cls ≠ "java/lang/invoke/VarHandle" ∧ (parseMethodDescriptor yX9_brassRate.desc).map (fun d => d.parameters.length) = some 1 := by decide +kernel
theorem kkX9_195 : Cond.constantLong RX9 195 (10) ∈ allW := tm4 (List.mem_of_getElem? (i := 183) (by decide +kernel)) (by decide +kernel)
theorem kmX9_197 : Cond.methodLink RX9 197 yX9_coilRate ∈ allW := tm4 (List.mem_of_getElem? (i := 184) (by decide +kernel)) (by decide +kernel)
theorem kiX9_coilRate : Cond.instanceMethod yX9_coilRate ∈ allW := tm4 (List.mem_of_getElem? (i := 186) (by decide +kernel)) (by decide +kernel)
theorem kcX9_coilRate : Cond.code yX9_coilRate cX9_coilRate 2 (some .int) ∈ allW := tm4 (List.mem_of_getElem? (i := 187) rfl) rfl
theorem kdX9_coilRate : yX9_coilRate.cls ≠ "java/lang/invoke/MethodHandle" ∧ yX9_coilRate.cls ≠ "java/lang/invoke/VarHandle" ∧ (parseMethodDescriptor yX9_coilRate.desc).map (fun d => d.parameters.length) = some 1 := by decide +kernel
theorem kmX9_206 : Cond.methodLink RX9 206 yX9_paperRate ∈ allW := tm4 (List.mem_of_getElem? (i := 188) (by decide +kernel)) (by decide +kernel)
theorem kiX9_paperRate : Cond.instanceMethod yX9_paperRate ∈ allW := tm4 (List.mem_of_getElem? (i := 190) (by decide +kernel)) (by decide +kernel)
theorem kcX9_paperRate : Cond.code yX9_paperRate cX9_paperRate 2 (some .int) ∈ allW := tm4 (List.mem_of_getElem? (i := 191) rfl) rfl
theorem kdX9_paperRate : yX9_paperRate.cls ≠ "java/lang/invoke/MethodHandle" ∧ yX9_paperRate.cls ≠ "java/lang/invoke/VarHandle" ∧ (parseMethodDescriptor yX9_paperRate.desc).map (fun d => d.parameters.length) = some 1 := by decide +kernel
theorem kkX9_200 : Cond.constantLong RX9 200 (100) ∈ allW := tm4 (List.mem_of_getElem? (i := 192) (by decide +kernel)) (by decide +kernel)
theorem kkX9_209 : Cond.constantLong RX9 209 (1000) ∈ allW := tm4 (List.mem_of_getElem? (i := 193) (by decide +kernel)) (by decide +kernel)
theorem kkX9_211 : Cond.constantLong RX9 211 (10000) ∈ allW := tm4 (List.mem_of_getElem? (i := 194) (by decide +kernel)) (by decide +kernel)
theorem kkX9_213 : Cond.constantLong RX9 213 (100000) ∈ allW := tm4 (List.mem_of_getElem? (i := 195) (by decide +kernel)) (by decide +kernel)
theorem kmL_92 : Cond.methodLink RL 92 yX9_keep ∈ allW := tm4 (List.mem_of_getElem? (i := 196) (by decide +kernel)) (by decide +kernel)
theorem kiX9_keep : Cond.instanceMethod yX9_keep ∈ allW := tm4 (List.mem_of_getElem? (i := 197) (by decide +kernel)) (by decide +kernel)
theorem ksX9_keep : Cond.selects RX9 yX9_keep yX9_keep ∈ allW := tm4 (List.mem_of_getElem? (i := 198) (by decide +kernel)) (by decide +kernel)
theorem kcX9_keep : Cond.code yX9_keep cX9_keep 2 (some .int) ∈ allW := tm4 (List.mem_of_getElem? (i := 199) rfl) rfl
theorem kdX9_keep : yX9_keep.cls ≠ "java/lang/invoke/MethodHandle" ∧ yX9_keep.cls ≠ "java/lang/invoke/VarHandle" ∧ (parseMethodDescriptor yX9_keep.desc).map (fun d => d.parameters.length) = some 1 := by decide +kernel
theorem kmL_96 : Cond.methodLink RL 96 yX9_back ∈ allW := tm4 (List.mem_of_getElem? (i := 200) (by decide +kernel)) (by decide +kernel)
theorem kiX9_back : Cond.instanceMethod yX9_back ∈ allW := tm4 (List.mem_of_getElem? (i := 201) (by decide +kernel)) (by decide +kernel)
theorem ksX9_back : Cond.selects RX9 yX9_back yX9_back ∈ allW := tm4 (List.mem_of_getElem? (i := 202) (by decide +kernel)) (by decide +kernel)
theorem kcX9_back : Cond.code yX9_back cX9_back 2 (some .int) ∈ allW := tm4 (List.mem_of_getElem? (i := 203) rfl) rfl
theorem kdX9_back : yX9_back.cls ≠ "java/lang/invoke/MethodHandle" ∧ yX9_back.cls ≠ "java/lang/invoke/VarHandle" ∧ (parseMethodDescriptor yX9_back.desc).map (fun d => d.parameters.length) = some 1 := by decide +kernel
theorem kmL_100 : Cond.methodLink RL 100 yX9_count ∈ allW := tm4 (List.mem_of_getElem? (i := 204) (by decide +kernel)) (by decide +kernel)
theorem kiX9_count : Cond.instanceMethod yX9_count ∈ allW := tm4 (List.mem_of_getElem? (i := 205) (by decide +kernel)) (by decide +kernel)
theorem ksX9_count : Cond.selects RX9 yX9_count yX9_count ∈ allW := tm4 (List.mem_of_getElem? (i := 206) (by decide +kernel)) (by decide +kernel)
theorem kcX9_count : Cond.code yX9_count cX9_count 2 (some .int) ∈ allW := tm4 (List.mem_of_getElem? (i := 207) rfl) rfl
theorem kdX9_count : yX9_count.cls ≠ "java/lang/invoke/MethodHandle" ∧ yX9_count.cls ≠ "java/lang/invoke/VarHandle" ∧ (parseMethodDescriptor yX9_count.desc).map (fun d => d.parameters.length) = some 1 := by decide +kernel
theorem kmL_105 : Cond.methodLink RL 105 yX9_trace ∈ allW := tm4 (List.mem_of_getElem? (i := 208) (by decide +kernel)) (by decide +kernel)
theorem kiX9_trace : Cond.instanceMethod yX9_trace ∈ allW := tm4 (List.mem_of_getElem? (i := 209) (by decide +kernel)) (by decide +kernel)
theorem ksX9_trace : Cond.selects RX9 yX9_trace yX9_trace ∈ allW := tm4 (List.mem_of_getElem? (i := 210) (by decide +kernel)) (by decide +kernel)
theorem kcX9_trace : Cond.code yX9_trace cX9_trace 1 (some .long) ∈ allW := tm4 (List.mem_of_getElem? (i := 211) rfl) rfl
theorem kdX9_trace : yX9_trace.cls ≠ "java/lang/invoke/MethodHandle" ∧ yX9_trace.cls ≠ "java/lang/invoke/VarHandle" ∧ (parseMethodDescriptor yX9_trace.desc).map (fun d => d.parameters.length) = some 0 := by decide +kernel
theorem ksX6_findToken : Cond.selects RX6 yX6_findToken yX6_findToken ∈ allW := tm0 (List.mem_of_getElem? (i := 0) (by decide +kernel)) (by decide +kernel)
theorem ksX6_readItem : Cond.selects RX6 yX6_readItem yX6_readItem ∈ allW := tm0 (List.mem_of_getElem? (i := 1) (by decide +kernel)) (by decide +kernel)
theorem ksX6_mayBegin : Cond.selects RX6 yX6_mayBegin yX6_mayBegin ∈ allW := tm0 (List.mem_of_getElem? (i := 2) (by decide +kernel)) (by decide +kernel)
theorem ksX6_readStep : Cond.selects RX6 yX6_readStep yX6_readStep ∈ allW := tm0 (List.mem_of_getElem? (i := 3) (by decide +kernel)) (by decide +kernel)
theorem ksX6_number : Cond.selects RX6 yX6_number yX6_number ∈ allW := tm0 (List.mem_of_getElem? (i := 4) (by decide +kernel)) (by decide +kernel)
theorem ksX6_endItem : Cond.selects RX6 yX6_endItem yX6_endItem ∈ allW := tm0 (List.mem_of_getElem? (i := 5) (by decide +kernel)) (by decide +kernel)
theorem ksX8_runFrom : Cond.selects RX8 yX8_runFrom yX8_runFrom ∈ allW := tm0 (List.mem_of_getElem? (i := 6) (by decide +kernel)) (by decide +kernel)
theorem ksX7_land : Cond.selects RX7 yX7_land yX7_land ∈ allW := tm0 (List.mem_of_getElem? (i := 7) (by decide +kernel)) (by decide +kernel)
theorem ksX3_fewest : Cond.selects RX3 yX3_fewest yX3_fewest ∈ allW := tm0 (List.mem_of_getElem? (i := 8) (by decide +kernel)) (by decide +kernel)
theorem ksX3_search : Cond.selects RX3 yX3_search yX3_search ∈ allW := tm0 (List.mem_of_getElem? (i := 9) (by decide +kernel)) (by decide +kernel)
theorem ksX8_runWithMat : Cond.selects RX8 yX8_runWithMat yX8_runWithMat ∈ allW := tm0 (List.mem_of_getElem? (i := 10) (by decide +kernel)) (by decide +kernel)
theorem ksX0_listMats : Cond.selects RX0 yX0_listMats yX0_listMats ∈ allW := tm0 (List.mem_of_getElem? (i := 11) (by decide +kernel)) (by decide +kernel)
theorem ksX0_weightOf : Cond.selects RX0 yX0_weightOf yX0_weightOf ∈ allW := tm0 (List.mem_of_getElem? (i := 12) (by decide +kernel)) (by decide +kernel)
theorem ksX0_reachesFloor : Cond.selects RX0 yX0_reachesFloor yX0_reachesFloor ∈ allW := tm0 (List.mem_of_getElem? (i := 13) (by decide +kernel)) (by decide +kernel)
theorem ksX0_reduce : Cond.selects RX0 yX0_reduce yX0_reduce ∈ allW := tm0 (List.mem_of_getElem? (i := 14) (by decide +kernel)) (by decide +kernel)
theorem ksX1_explains : Cond.selects RX1 yX1_explains yX1_explains ∈ allW := tm0 (List.mem_of_getElem? (i := 15) (by decide +kernel)) (by decide +kernel)
theorem ksX1_mostAtOnePlace : Cond.selects RX1 yX1_mostAtOnePlace yX1_mostAtOnePlace ∈ allW := tm0 (List.mem_of_getElem? (i := 16) (by decide +kernel)) (by decide +kernel)
theorem ksX8_asCoil : Cond.selects RX8 yX8_asCoil yX8_asCoil ∈ allW := tm0 (List.mem_of_getElem? (i := 17) (by decide +kernel)) (by decide +kernel)
theorem ksX8_asBrass : Cond.selects RX8 yX8_asBrass yX8_asBrass ∈ allW := tm0 (List.mem_of_getElem? (i := 18) (by decide +kernel)) (by decide +kernel)
theorem ksX8_asPaper : Cond.selects RX8 yX8_asPaper yX8_asPaper ∈ allW := tm0 (List.mem_of_getElem? (i := 19) (by decide +kernel)) (by decide +kernel)
theorem ksX8_asSilver : Cond.selects RX8 yX8_asSilver yX8_asSilver ∈ allW := tm0 (List.mem_of_getElem? (i := 20) (by decide +kernel)) (by decide +kernel)
theorem ksX8_asTwine : Cond.selects RX8 yX8_asTwine yX8_asTwine ∈ allW := tm0 (List.mem_of_getElem? (i := 21) (by decide +kernel)) (by decide +kernel)
theorem ksX8_asLead : Cond.selects RX8 yX8_asLead yX8_asLead ∈ allW := tm0 (List.mem_of_getElem? (i := 22) (by decide +kernel)) (by decide +kernel)
theorem ksX9_readItems : Cond.selects RX9 yX9_readItems yX9_readItems ∈ allW := tm0 (List.mem_of_getElem? (i := 23) (by decide +kernel)) (by decide +kernel)
theorem ksX9_nextToken : Cond.selects RX9 yX9_nextToken yX9_nextToken ∈ allW := tm0 (List.mem_of_getElem? (i := 24) (by decide +kernel)) (by decide +kernel)
theorem ksX9_isFigure : Cond.selects RX9 yX9_isFigure yX9_isFigure ∈ allW := tm0 (List.mem_of_getElem? (i := 25) (by decide +kernel)) (by decide +kernel)
theorem ksX9_readsItem : Cond.selects RX9 yX9_readsItem yX9_readsItem ∈ allW := tm0 (List.mem_of_getElem? (i := 26) (by decide +kernel)) (by decide +kernel)
theorem ksX9_isSign : Cond.selects RX9 yX9_isSign yX9_isSign ∈ allW := tm0 (List.mem_of_getElem? (i := 27) (by decide +kernel)) (by decide +kernel)
theorem ksX9_readsStep : Cond.selects RX9 yX9_readsStep yX9_readsStep ∈ allW := tm0 (List.mem_of_getElem? (i := 28) (by decide +kernel)) (by decide +kernel)
theorem ksX9_readsNumber : Cond.selects RX9 yX9_readsNumber yX9_readsNumber ∈ allW := tm0 (List.mem_of_getElem? (i := 29) (by decide +kernel)) (by decide +kernel)
theorem ksX9_readsCoil : Cond.selects RX9 yX9_readsCoil yX9_readsCoil ∈ allW := tm0 (List.mem_of_getElem? (i := 30) (by decide +kernel)) (by decide +kernel)
theorem ksX9_isStep : Cond.selects RX9 yX9_isStep yX9_isStep ∈ allW := tm0 (List.mem_of_getElem? (i := 31) (by decide +kernel)) (by decide +kernel)
theorem ksX9_tellRun : Cond.selects RX9 yX9_tellRun yX9_tellRun ∈ allW := tm0 (List.mem_of_getElem? (i := 32) (by decide +kernel)) (by decide +kernel)
theorem ksX9_layTried : Cond.selects RX9 yX9_layTried yX9_layTried ∈ allW := tm0 (List.mem_of_getElem? (i := 33) (by decide +kernel)) (by decide +kernel)
theorem ksX9_copyRow : Cond.selects RX9 yX9_copyRow yX9_copyRow ∈ allW := tm0 (List.mem_of_getElem? (i := 34) (by decide +kernel)) (by decide +kernel)
theorem ksX9_asItIs : Cond.selects RX9 yX9_asItIs yX9_asItIs ∈ allW := tm0 (List.mem_of_getElem? (i := 35) (by decide +kernel)) (by decide +kernel)
theorem ksX9_runs : Cond.selects RX9 yX9_runs yX9_runs ∈ allW := tm0 (List.mem_of_getElem? (i := 36) (by decide +kernel)) (by decide +kernel)
theorem ksX9_flip : Cond.selects RX9 yX9_flip yX9_flip ∈ allW := tm0 (List.mem_of_getElem? (i := 37) (by decide +kernel)) (by decide +kernel)
theorem ksX9_lands : Cond.selects RX9 yX9_lands yX9_lands ∈ allW := tm0 (List.mem_of_getElem? (i := 38) (by decide +kernel)) (by decide +kernel)
theorem ksX9_leastOf : Cond.selects RX9 yX9_leastOf yX9_leastOf ∈ allW := tm0 (List.mem_of_getElem? (i := 39) (by decide +kernel)) (by decide +kernel)
theorem ksX9_fewest : Cond.selects RX9 yX9_fewest yX9_fewest ∈ allW := tm0 (List.mem_of_getElem? (i := 40) (by decide +kernel)) (by decide +kernel)
theorem ksX9_leastFrom : Cond.selects RX9 yX9_leastFrom yX9_leastFrom ∈ allW := tm0 (List.mem_of_getElem? (i := 41) (by decide +kernel)) (by decide +kernel)
theorem ksX9_keepPast : Cond.selects RX9 yX9_keepPast yX9_keepPast ∈ allW := tm0 (List.mem_of_getElem? (i := 42) (by decide +kernel)) (by decide +kernel)
theorem ksX9_layWays : Cond.selects RX9 yX9_layWays yX9_layWays ∈ allW := tm0 (List.mem_of_getElem? (i := 43) (by decide +kernel)) (by decide +kernel)
theorem ksX9_isWay : Cond.selects RX9 yX9_isWay yX9_isWay ∈ allW := tm0 (List.mem_of_getElem? (i := 44) (by decide +kernel)) (by decide +kernel)
theorem ksX9_restsAt : Cond.selects RX9 yX9_restsAt yX9_restsAt ∈ allW := tm0 (List.mem_of_getElem? (i := 45) (by decide +kernel)) (by decide +kernel)
theorem ksX9_brassRate : Cond.selects RX9 yX9_brassRate yX9_brassRate ∈ allW := tm0 (List.mem_of_getElem? (i := 46) (by decide +kernel)) (by decide +kernel)
theorem ksX9_coilRate : Cond.selects RX9 yX9_coilRate yX9_coilRate ∈ allW := tm0 (List.mem_of_getElem? (i := 47) (by decide +kernel)) (by decide +kernel)
theorem ksX9_paperRate : Cond.selects RX9 yX9_paperRate yX9_paperRate ∈ allW := tm0 (List.mem_of_getElem? (i := 48) (by decide +kernel)) (by decide +kernel)
theorem kwX0 : ∀ w ∈ u_ws RX0 TX0 5, w ∈ allW := by
  intro w hw
  obtain ⟨j, hj, rfl⟩ := List.mem_map.mp hw
  have hj := List.mem_range.mp hj
  match j, hj with
  | 0, _ => exact tm2 (List.mem_of_getElem? (i := 32) (by decide +kernel)) (by decide +kernel)
  | 1, _ => exact tm2 (List.mem_of_getElem? (i := 34) (by decide +kernel)) (by decide +kernel)
  | 2, _ => exact tm2 (List.mem_of_getElem? (i := 36) (by decide +kernel)) (by decide +kernel)
  | 3, _ => exact tm2 (List.mem_of_getElem? (i := 38) (by decide +kernel)) (by decide +kernel)
  | 4, _ => exact tm2 (List.mem_of_getElem? (i := 40) (by decide +kernel)) (by decide +kernel)
  | j + 5, h => exact absurd h (by omega)
theorem kwX1 : ∀ w ∈ u_ws RX1 TX1 9, w ∈ allW := by
  intro w hw
  obtain ⟨j, hj, rfl⟩ := List.mem_map.mp hw
  have hj := List.mem_range.mp hj
  match j, hj with
  | 0, _ => exact tm2 (List.mem_of_getElem? (i := 0) (by decide +kernel)) (by decide +kernel)
  | 1, _ => exact tm2 (List.mem_of_getElem? (i := 2) (by decide +kernel)) (by decide +kernel)
  | 2, _ => exact tm2 (List.mem_of_getElem? (i := 4) (by decide +kernel)) (by decide +kernel)
  | 3, _ => exact tm2 (List.mem_of_getElem? (i := 6) (by decide +kernel)) (by decide +kernel)
  | 4, _ => exact tm2 (List.mem_of_getElem? (i := 8) (by decide +kernel)) (by decide +kernel)
  | 5, _ => exact tm2 (List.mem_of_getElem? (i := 10) (by decide +kernel)) (by decide +kernel)
  | 6, _ => exact tm2 (List.mem_of_getElem? (i := 12) (by decide +kernel)) (by decide +kernel)
  | 7, _ => exact tm2 (List.mem_of_getElem? (i := 14) (by decide +kernel)) (by decide +kernel)
  | 8, _ => exact tm2 (List.mem_of_getElem? (i := 16) (by decide +kernel)) (by decide +kernel)
  | j + 9, h => exact absurd h (by omega)
theorem kwX2 : ∀ w ∈ u_ws RX2 TX2 3, w ∈ allW := by
  intro w hw
  obtain ⟨j, hj, rfl⟩ := List.mem_map.mp hw
  have hj := List.mem_range.mp hj
  match j, hj with
  | 0, _ => exact tm1 (List.mem_of_getElem? (i := 156) (by decide +kernel)) (by decide +kernel)
  | 1, _ => exact tm1 (List.mem_of_getElem? (i := 158) (by decide +kernel)) (by decide +kernel)
  | 2, _ => exact tm1 (List.mem_of_getElem? (i := 160) (by decide +kernel)) (by decide +kernel)
  | j + 3, h => exact absurd h (by omega)
theorem kwX3 : ∀ w ∈ u_ws RX3 TX3 2, w ∈ allW := by
  intro w hw
  obtain ⟨j, hj, rfl⟩ := List.mem_map.mp hw
  have hj := List.mem_range.mp hj
  match j, hj with
  | 0, _ => exact tm1 (List.mem_of_getElem? (i := 216) (by decide +kernel)) (by decide +kernel)
  | 1, _ => exact tm1 (List.mem_of_getElem? (i := 218) (by decide +kernel)) (by decide +kernel)
  | j + 2, h => exact absurd h (by omega)
theorem kwX4 : ∀ w ∈ u_ws RX4 TX4 4, w ∈ allW := by
  intro w hw
  obtain ⟨j, hj, rfl⟩ := List.mem_map.mp hw
  have hj := List.mem_range.mp hj
  match j, hj with
  | 0, _ => exact tm1 (List.mem_of_getElem? (i := 134) (by decide +kernel)) (by decide +kernel)
  | 1, _ => exact tm1 (List.mem_of_getElem? (i := 136) (by decide +kernel)) (by decide +kernel)
  | 2, _ => exact tm1 (List.mem_of_getElem? (i := 138) (by decide +kernel)) (by decide +kernel)
  | 3, _ => exact tm1 (List.mem_of_getElem? (i := 140) (by decide +kernel)) (by decide +kernel)
  | j + 4, h => exact absurd h (by omega)
theorem kwX5 : ∀ w ∈ u_ws RX5 TX5 7, w ∈ allW := by
  intro w hw
  obtain ⟨j, hj, rfl⟩ := List.mem_map.mp hw
  have hj := List.mem_range.mp hj
  match j, hj with
  | 0, _ => exact tm1 (List.mem_of_getElem? (i := 57) (by decide +kernel)) (by decide +kernel)
  | 1, _ => exact tm1 (List.mem_of_getElem? (i := 59) (by decide +kernel)) (by decide +kernel)
  | 2, _ => exact tm1 (List.mem_of_getElem? (i := 61) (by decide +kernel)) (by decide +kernel)
  | 3, _ => exact tm1 (List.mem_of_getElem? (i := 63) (by decide +kernel)) (by decide +kernel)
  | 4, _ => exact tm1 (List.mem_of_getElem? (i := 65) (by decide +kernel)) (by decide +kernel)
  | 5, _ => exact tm1 (List.mem_of_getElem? (i := 67) (by decide +kernel)) (by decide +kernel)
  | 6, _ => exact tm1 (List.mem_of_getElem? (i := 69) (by decide +kernel)) (by decide +kernel)
  | j + 7, h => exact absurd h (by omega)
theorem kwX6 : ∀ w ∈ u_ws RX6 TX6 9, w ∈ allW := by
  intro w hw
  obtain ⟨j, hj, rfl⟩ := List.mem_map.mp hw
  have hj := List.mem_range.mp hj
  match j, hj with
  | 0, _ => exact tm1 (List.mem_of_getElem? (i := 94) (by decide +kernel)) (by decide +kernel)
  | 1, _ => exact tm1 (List.mem_of_getElem? (i := 96) (by decide +kernel)) (by decide +kernel)
  | 2, _ => exact tm1 (List.mem_of_getElem? (i := 98) (by decide +kernel)) (by decide +kernel)
  | 3, _ => exact tm1 (List.mem_of_getElem? (i := 100) (by decide +kernel)) (by decide +kernel)
  | 4, _ => exact tm1 (List.mem_of_getElem? (i := 102) (by decide +kernel)) (by decide +kernel)
  | 5, _ => exact tm1 (List.mem_of_getElem? (i := 104) (by decide +kernel)) (by decide +kernel)
  | 6, _ => exact tm1 (List.mem_of_getElem? (i := 106) (by decide +kernel)) (by decide +kernel)
  | 7, _ => exact tm1 (List.mem_of_getElem? (i := 108) (by decide +kernel)) (by decide +kernel)
  | 8, _ => exact tm1 (List.mem_of_getElem? (i := 110) (by decide +kernel)) (by decide +kernel)
  | j + 9, h => exact absurd h (by omega)
theorem kwX7 : ∀ w ∈ u_ws RX7 TX7 8, w ∈ allW := by
  intro w hw
  obtain ⟨j, hj, rfl⟩ := List.mem_map.mp hw
  have hj := List.mem_range.mp hj
  match j, hj with
  | 0, _ => exact tm1 (List.mem_of_getElem? (i := 190) (by decide +kernel)) (by decide +kernel)
  | 1, _ => exact tm1 (List.mem_of_getElem? (i := 192) (by decide +kernel)) (by decide +kernel)
  | 2, _ => exact tm1 (List.mem_of_getElem? (i := 194) (by decide +kernel)) (by decide +kernel)
  | 3, _ => exact tm1 (List.mem_of_getElem? (i := 196) (by decide +kernel)) (by decide +kernel)
  | 4, _ => exact tm1 (List.mem_of_getElem? (i := 198) (by decide +kernel)) (by decide +kernel)
  | 5, _ => exact tm1 (List.mem_of_getElem? (i := 200) (by decide +kernel)) (by decide +kernel)
  | 6, _ => exact tm1 (List.mem_of_getElem? (i := 202) (by decide +kernel)) (by decide +kernel)
  | 7, _ => exact tm1 (List.mem_of_getElem? (i := 204) (by decide +kernel)) (by decide +kernel)
  | j + 8, h => exact absurd h (by omega)
theorem kwX8 : ∀ w ∈ u_ws RX8 TX8 11, w ∈ allW := by
  intro w hw
  obtain ⟨j, hj, rfl⟩ := List.mem_map.mp hw
  have hj := List.mem_range.mp hj
  match j, hj with
  | 0, _ => exact tm2 (List.mem_of_getElem? (i := 54) (by decide +kernel)) (by decide +kernel)
  | 1, _ => exact tm2 (List.mem_of_getElem? (i := 56) (by decide +kernel)) (by decide +kernel)
  | 2, _ => exact tm2 (List.mem_of_getElem? (i := 58) (by decide +kernel)) (by decide +kernel)
  | 3, _ => exact tm2 (List.mem_of_getElem? (i := 60) (by decide +kernel)) (by decide +kernel)
  | 4, _ => exact tm2 (List.mem_of_getElem? (i := 62) (by decide +kernel)) (by decide +kernel)
  | 5, _ => exact tm2 (List.mem_of_getElem? (i := 64) (by decide +kernel)) (by decide +kernel)
  | 6, _ => exact tm2 (List.mem_of_getElem? (i := 66) (by decide +kernel)) (by decide +kernel)
  | 7, _ => exact tm2 (List.mem_of_getElem? (i := 68) (by decide +kernel)) (by decide +kernel)
  | 8, _ => exact tm2 (List.mem_of_getElem? (i := 70) (by decide +kernel)) (by decide +kernel)
  | 9, _ => exact tm2 (List.mem_of_getElem? (i := 72) (by decide +kernel)) (by decide +kernel)
  | 10, _ => exact tm2 (List.mem_of_getElem? (i := 74) (by decide +kernel)) (by decide +kernel)
  | j + 11, h => exact absurd h (by omega)
theorem kwX9 : ∀ w ∈ u_ws RX9 TX9 32, w ∈ allW := by
  intro w hw
  obtain ⟨j, hj, rfl⟩ := List.mem_map.mp hw
  have hj := List.mem_range.mp hj
  match j, hj with
  | 0, _ => exact tm3 (List.mem_of_getElem? (i := 182) (by decide +kernel)) (by decide +kernel)
  | 1, _ => exact tm3 (List.mem_of_getElem? (i := 184) (by decide +kernel)) (by decide +kernel)
  | 2, _ => exact tm3 (List.mem_of_getElem? (i := 186) (by decide +kernel)) (by decide +kernel)
  | 3, _ => exact tm3 (List.mem_of_getElem? (i := 188) (by decide +kernel)) (by decide +kernel)
  | 4, _ => exact tm3 (List.mem_of_getElem? (i := 190) (by decide +kernel)) (by decide +kernel)
  | 5, _ => exact tm3 (List.mem_of_getElem? (i := 192) (by decide +kernel)) (by decide +kernel)
  | 6, _ => exact tm3 (List.mem_of_getElem? (i := 194) (by decide +kernel)) (by decide +kernel)
  | 7, _ => exact tm3 (List.mem_of_getElem? (i := 196) (by decide +kernel)) (by decide +kernel)
  | 8, _ => exact tm3 (List.mem_of_getElem? (i := 198) (by decide +kernel)) (by decide +kernel)
  | 9, _ => exact tm3 (List.mem_of_getElem? (i := 200) (by decide +kernel)) (by decide +kernel)
  | 10, _ => exact tm3 (List.mem_of_getElem? (i := 202) (by decide +kernel)) (by decide +kernel)
  | 11, _ => exact tm3 (List.mem_of_getElem? (i := 204) (by decide +kernel)) (by decide +kernel)
  | 12, _ => exact tm3 (List.mem_of_getElem? (i := 206) (by decide +kernel)) (by decide +kernel)
  | 13, _ => exact tm3 (List.mem_of_getElem? (i := 208) (by decide +kernel)) (by decide +kernel)
  | 14, _ => exact tm3 (List.mem_of_getElem? (i := 210) (by decide +kernel)) (by decide +kernel)
  | 15, _ => exact tm3 (List.mem_of_getElem? (i := 212) (by decide +kernel)) (by decide +kernel)
  | 16, _ => exact tm3 (List.mem_of_getElem? (i := 214) (by decide +kernel)) (by decide +kernel)
  | 17, _ => exact tm3 (List.mem_of_getElem? (i := 216) (by decide +kernel)) (by decide +kernel)
  | 18, _ => exact tm3 (List.mem_of_getElem? (i := 218) (by decide +kernel)) (by decide +kernel)
  | 19, _ => exact tm3 (List.mem_of_getElem? (i := 220) (by decide +kernel)) (by decide +kernel)
  | 20, _ => exact tm3 (List.mem_of_getElem? (i := 222) (by decide +kernel)) (by decide +kernel)
  | 21, _ => exact tm3 (List.mem_of_getElem? (i := 224) (by decide +kernel)) (by decide +kernel)
  | 22, _ => exact tm3 (List.mem_of_getElem? (i := 226) (by decide +kernel)) (by decide +kernel)
  | 23, _ => exact tm3 (List.mem_of_getElem? (i := 228) (by decide +kernel)) (by decide +kernel)
  | 24, _ => exact tm3 (List.mem_of_getElem? (i := 230) (by decide +kernel)) (by decide +kernel)
  | 25, _ => exact tm3 (List.mem_of_getElem? (i := 232) (by decide +kernel)) (by decide +kernel)
  | 26, _ => exact tm3 (List.mem_of_getElem? (i := 234) (by decide +kernel)) (by decide +kernel)
  | 27, _ => exact tm3 (List.mem_of_getElem? (i := 236) (by decide +kernel)) (by decide +kernel)
  | 28, _ => exact tm3 (List.mem_of_getElem? (i := 238) (by decide +kernel)) (by decide +kernel)
  | 29, _ => exact tm4 (List.mem_of_getElem? (i := 0) (by decide +kernel)) (by decide +kernel)
  | 30, _ => exact tm4 (List.mem_of_getElem? (i := 2) (by decide +kernel)) (by decide +kernel)
  | 31, _ => exact tm4 (List.mem_of_getElem? (i := 4) (by decide +kernel)) (by decide +kernel)
  | j + 32, h => exact absurd h (by omega)
theorem kz_0 : (Cond.methodLinkNest "CoilStairs" (18 : Nat) ({ cls := "CoilStairs$Reader", name := "<init>", desc := "()V" } : Jvm.MethodName) "CoilStairs") ∈ lw_tbl := List.mem_append_right _ (List.mem_append_left _ (List.mem_of_getElem? (i := 75) (by decide +kernel)))
theorem kz_1 : (Cond.methodLinkNest "CoilStairs" (25 : Nat) ({ cls := "CoilStairs$Moment", name := "<init>", desc := "()V" } : Jvm.MethodName) "CoilStairs") ∈ lw_tbl := List.mem_append_right _ (List.mem_append_left _ (List.mem_of_getElem? (i := 116) (by decide +kernel)))
theorem kz_2 : (Cond.arrayOver (Jvm.ClassFile.FieldType.object "CoilStairs$Moment")) ∈ lw_tbl := List.mem_append_right _ (List.mem_append_left _ (List.mem_of_getElem? (i := 150) (by decide +kernel)))
theorem kz_3 : (Cond.methodLinkNest "CoilStairs$History" (17 : Nat) ({ cls := "CoilStairs$Moment", name := "<init>", desc := "()V" } : Jvm.MethodName) "CoilStairs") ∈ lw_tbl := List.mem_append_right _ (List.mem_append_left _ (List.mem_of_getElem? (i := 151) (by decide +kernel)))
theorem kz_4 : (Cond.methodLinkNest "CoilStairs$Reader" (85 : Nat) ({ cls := "CoilStairs", name := "within", desc := "(III)Z" } : Jvm.MethodName) "CoilStairs") ∈ lw_tbl := List.mem_append_right _ (List.mem_append_right _ (List.mem_append_left _ (List.mem_of_getElem? (i := 121) (by decide +kernel))))
theorem kz_5 : (Cond.methodLinkNest "CoilStairs$Plan" (43 : Nat) ({ cls := "CoilStairs", name := "within", desc := "(III)Z" } : Jvm.MethodName) "CoilStairs") ∈ lw_tbl := List.mem_append_right _ (List.mem_append_right _ (List.mem_append_left _ (List.mem_of_getElem? (i := 153) (by decide +kernel))))
theorem kz_6 : (Cond.methodLinkNest "CoilStairs$Walk" (58 : Nat) ({ cls := "CoilStairs", name := "asVigour", desc := "(I)I" } : Jvm.MethodName) "CoilStairs") ∈ lw_tbl := List.mem_append_right _ (List.mem_append_right _ (List.mem_append_left _ (List.mem_of_getElem? (i := 180) (by decide +kernel))))
theorem kz_7 : (Cond.methodLinkNest "CoilStairs$LeastPushes" (57 : Nat) ({ cls := "CoilStairs", name := "asVigour", desc := "(I)I" } : Jvm.MethodName) "CoilStairs") ∈ lw_tbl := List.mem_append_right _ (List.mem_append_right _ (List.mem_append_left _ (List.mem_of_getElem? (i := 204) (by decide +kernel))))
theorem kz_8 : (Cond.methodLinkNest "CoilStairs$LeastPushes" (73 : Nat) ({ cls := "CoilStairs", name := "tenTimes", desc := "(II)I" } : Jvm.MethodName) "CoilStairs") ∈ lw_tbl := List.mem_append_right _ (List.mem_append_right _ (List.mem_append_left _ (List.mem_of_getElem? (i := 207) (by decide +kernel))))
end
section
/-! ===== a small logic over W: a state is pc, locals by place, stack, world ===== -/
abbrev EX : Type := va_G × ClassId × ClassId × ClassId × ClassId
abbrev ET (E : EX) : List (ClassId × FieldType) := [(E.2.1, .int), (E.2.2.1, .boolean), (E.2.2.2.1, .char), (E.2.2.2.2, .object "CoilStairs$Moment")]
abbrev aI (E : EX) (a n : Nat) (f : Nat → Int32) : Nat × va_E := (a, .inl (E.2.1, n, .inl f))
abbrev aZ (E : EX) (a n : Nat) (f : Nat → Int32) : Nat × va_E := (a, .inl (E.2.2.1, n, .inl f))
abbrev aC (E : EX) (a n : Nat) (f : Nat → Int32) : Nat × va_E := (a, .inl (E.2.2.2.1, n, .inl f))
abbrev aM (E : EX) (a n : Nat) (f : Nat → Option Nat) : Nat × va_E := (a, .inl (E.2.2.2.2, n, .inr (.inr (.inr (.inr f)))))
def nestL : List (String × Nat × MethodName × String) := [
  ("CoilStairs", 18, ⟨"CoilStairs$Reader", "<init>", "()V"⟩, "CoilStairs"), ("CoilStairs", 25, ⟨"CoilStairs$Moment", "<init>", "()V"⟩, "CoilStairs"),
  ("CoilStairs$History", 17, ⟨"CoilStairs$Moment", "<init>", "()V"⟩, "CoilStairs"), ("CoilStairs$LeastPushes", 57, ⟨"CoilStairs", "asVigour", "(I)I"⟩, "CoilStairs"),
  ("CoilStairs$LeastPushes", 73, ⟨"CoilStairs", "tenTimes", "(II)I"⟩, "CoilStairs"), ("CoilStairs$Plan", 43, ⟨"CoilStairs", "within", "(III)Z"⟩, "CoilStairs"),
  ("CoilStairs$Reader", 85, ⟨"CoilStairs", "within", "(III)Z"⟩, "CoilStairs"), ("CoilStairs$Walk", 58, ⟨"CoilStairs", "asVigour", "(I)I"⟩, "CoilStairs")]
/-- what isn't a word that moves by itself: links between nest mates, the class of rows of Moments -/
def NW (U : State) : Prop := (∀ q ∈ nestL, va_Nw (.methodLinkNest q.1 q.2.1 q.2.2.1 q.2.2.2) U) ∧ va_AO "CoilStairs$Moment" U
theorem NW.warm {s U : State} (hW : s.WarmedH U.vm) (h : NW s) : NW U := ⟨fun q hq => va_Nw.warmM hW (h.1 q hq), va_AO.moved hW.alike h.2⟩
theorem NW.same {s U : State} (hv : s.vm = U.vm) (h : NW s) : NW U := ⟨fun q hq => va_Nw.same rfl hv (h.1 q hq), va_AO.moved (by rw [hv]; exact Vm.Alike.refl _) h.2⟩
def LV (ls : Array Slot) (nL : Nat) (lv : List (Option Value)) : Prop := ls.size = nL ∧ lv_wf ls ∧ ∀ (i : Nat) (v : Value), lv[i]? = some (some v) → ls[i]? = some (.val v)
def lvA (lv : List (Option Value)) : List (Nat × Value) := (List.range lv.length).filterMap (fun j => match lv[j]? with | some (some v) => some (j, v) | _ => none)
theorem lvA_mem {lv : List (Option Value)} {q : Nat × Value} : q ∈ lvA lv ↔ lv[q.1]? = some (some q.2) := by
  unfold lvA
  rw [List.mem_filterMap]
  constructor
  · rintro ⟨j, hj, h⟩
    split at h
    · rename_i v hv
      cases h
      exact hv
    · cases h
  · intro h
    refine ⟨q.1, ?_, ?_⟩
    · have := (List.getElem?_eq_some_iff.mp h).1
      exact List.mem_range.mpr this
    · rw [h]
theorem LV.has {ls : Array Slot} {nL : Nat} {lv : List (Option Value)} (h : LV ls nL lv) : lv_has ls nL (lvA lv) := ⟨h.1, h.2.1, fun q hq => h.2.2 q.1 q.2 (lvA_mem.mp hq)⟩
/-- the place below isn't the first half of a long -/
def okst (lv : List (Option Value)) (i : Nat) : Bool := match i with
  | 0 => true
  | j + 1 => match lv[j]? with
    | some (some v) => !(v.category == 2)
    | _ => true
theorem okst_ok {lv : List (Option Value)} {i j : Nat} {v : Value} (h : okst lv i = true) (hj : j + 1 = i) (hv : lv[j]? = some (some v)) : (v.category == 2) = false := by
  subst hj
  simp only [okst, hv] at h
  simpa using h
theorem LV.store1 {ls : Array Slot} {nL i : Nat} {lv : List (Option Value)} {v : Value} (ho : okst lv i = true) (h : lv_has ls nL ((i, v) :: (lvA lv).filter (fun q => !(q.1 == i) && !(q.1 + 1 == i && q.2.category == 2)))) : LV ls nL (lv.set i (some v)) := by
  refine ⟨h.1, h.2.1, fun j w hj => ?_⟩
  by_cases hji : j = i
  · subst hji
    have hl : j < lv.length := by
      have := (List.getElem?_eq_some_iff.mp hj).1
      simpa using this
    rw [List.getElem?_set_self hl] at hj
    cases hj
    exact h.2.2 (j, v) List.mem_cons_self
  · rw [List.getElem?_set_ne (Ne.symm hji)] at hj
    refine h.2.2 (j, w) (List.mem_cons_of_mem _ (List.mem_filter.mpr ⟨lvA_mem.mpr hj, ?_⟩))
    by_cases hj1 : j + 1 = i
    · have := okst_ok ho hj1 hj
      simp [hji, this]
    · simp [hji, hj1]
theorem LV.store2 {ls : Array Slot} {nL i : Nat} {lv : List (Option Value)} {v : Value} (ho : okst lv i = true) (h : lv_has ls nL ((i, v) :: (lvA lv).filter (fun q => !(q.1 == i) && (!(q.1 == i + 1) && !(q.1 + 1 == i && q.2.category == 2))))) : LV ls nL ((lv.set i (some v)).set (i + 1) none) := by
  refine ⟨h.1, h.2.1, fun j w hj => ?_⟩
  have hj1 : ¬ j = i + 1 := by
    intro q
    subst q
    by_cases hl : i + 1 < (lv.set i (some v)).length
    · rw [List.getElem?_set_self hl] at hj
      cases hj
    · rw [List.getElem?_eq_none (by simp at hl ⊢; omega)] at hj
      cases hj
  rw [List.getElem?_set_ne (Ne.symm hj1)] at hj
  by_cases hji : j = i
  · subst hji
    have hl : j < lv.length := by
      have := (List.getElem?_eq_some_iff.mp hj).1
      simpa using this
    rw [List.getElem?_set_self hl] at hj
    cases hj
    exact h.2.2 (j, v) List.mem_cons_self
  · rw [List.getElem?_set_ne (Ne.symm hji)] at hj
    refine h.2.2 (j, w) (List.mem_cons_of_mem _ (List.mem_filter.mpr ⟨lvA_mem.mpr hj, ?_⟩))
    by_cases hj2 : j + 1 = i
    · have := okst_ok ho hj2 hj
      simp [hji, hj1, this]
    · simp [hji, hj1, hj2]
/-- the fixed things of a walk -/
abbrev KX : Type := (Program × Launch × Env × Room × State) × (MethodId × Array Value × List Frame × Method × Code) × ((Nat → Prop) × Nat × (State → Prop))
abbrev KX.p (k : KX) : Program := k.1.1
abbrev KX.l (k : KX) : Launch := k.1.2.1
abbrev KX.e (k : KX) : Env := k.1.2.2.1
abbrev KX.R (k : KX) : Room := k.1.2.2.2.1
abbrev KX.s (k : KX) : State := k.1.2.2.2.2
abbrev KX.m (k : KX) : MethodId := k.2.1.1
abbrev KX.args (k : KX) : Array Value := k.2.1.2.1
abbrev KX.below (k : KX) : List Frame := k.2.1.2.2.1
abbrev KX.meth (k : KX) : Method := k.2.1.2.2.2.1
abbrev KX.c (k : KX) : Code := k.2.1.2.2.2.2
abbrev KX.A (k : KX) : Nat → Prop := k.2.2.1
abbrev KX.nL (k : KX) : Nat := k.2.2.2.1
abbrev KX.Q (k : KX) : State → Prop := k.2.2.2.2
def G (k : KX) (E : EX) (n z pc : Nat) (lv : List (Option Value)) (st : List Value) (ws : va_W) : Prop :=
  ∀ (H : Heap) (locs : List Loc) (ls : Array Slot), va_P E.1 vwCl ws H → va_D k.A ws → va_S k.A k.s.heap H locs → LV ls k.nL lv → W k.p k.l k.e k.R k.s k.m k.args k.below k.meth k.c H locs n z k.Q (F0 k.m pc ls st)
/-- what a walk stands on -/
def Cx (k : KX) (E : EX) (cc : ByteArray) (own : String) (rm : Room) : Prop :=
  k.p.tables.exec = Jvm.exec ∧ k.c.code = cc ∧ k.c.maxLocals = k.nL ∧ k.s.vm.findClass own = some k.m.cls ∧ (∀ w ∈ allW, w.before k.args k.s = true) ∧ va_K E.1 vwCl (ET E) k.s ∧ (∀ q, k.s.heap.size ≤ q → k.A q) ∧ k.R = rm ∧ NW k.s ∧ k.meth.locks = false
/-- a method's end -/
def QcC (E : EX) (post : Option Value → va_W → Prop) (A : Nat → Prop) : Array Value → State → Outcome → State → Prop := fun _ st oc t =>
  (∃ (v : Option Value) (w : va_W), oc = .returned v ∧ post v w ∧ va_P E.1 vwCl w t.heap ∧ va_K E.1 vwCl (ET E) t ∧ va_D A w) ∧ va_F A st t
def PreC (E : EX) (av : List Value) (ws : va_W) (sz : Nat) : Array Value → State → Prop := va_Pc av (fun U => U.heap.size = sz ∧ va_P E.1 vwCl ws U.heap ∧ va_K E.1 vwCl (ET E) U ∧ va_D (fun _ => True) ws ∧ NW U)
/-- a method's contract -/
def Ct (l : Launch) (E : EX) (y : MethodName) (cc : ByteArray) (nL : Nat) (ret : Option FieldType) (rm : Room) (av : List Value) (ws : va_W) (post : Option Value → va_W → Prop) (mc ms : Nat) : Prop :=
  ∀ sz : Nat, Met l y (Cond.code y cc nL ret :: allW) rm (PreC E av ws sz) (QcC E post (va_A ws sz)) mc ms (va_A ws sz)
def Rt (k : KX) (E : EX) (post : Option Value → va_W → Prop) (mc ms : Nat) (ret : Option FieldType) : Prop :=
  k.Q = MQ k.below (QcC E post k.A) k.args k.s mc ms k.A ∧ k.meth.sig.returnType = ret
/-- the locals at a method's entry -/
def lvE : Nat → List Value → List (Option Value)
  | n, [] => List.replicate n none
  | n, v :: vs => if v.category = 2 then some v :: none :: lvE (n - 2) vs else some v :: lvE (n - 1) vs
theorem lvE_args : ∀ (vs : List Value) (n off i : Nat) (v : Value), (lvE n vs)[i]? = some (some v) → (off + i, v) ∈ lv_args off vs
  | [], n, off, i, v, h => by
    unfold lvE at h
    rw [List.getElem?_replicate] at h
    split at h <;> cases h
  | w :: vs, n, off, i, v, h => by
    unfold lvE at h
    unfold lv_args
    by_cases hc : w.category = 2
    · simp only [hc, if_true] at h ⊢
      match i, h with
      | 0, h => cases h; exact List.mem_cons_self
      | 1, h => cases h
      | i + 2, h =>
        have := lvE_args vs (n - 2) (off + 2) i v (by simpa using h)
        refine List.mem_cons_of_mem _ ?_
        rw [show off + (i + 2) = off + 2 + i by omega]
        exact this
    · simp only [hc, if_false] at h ⊢
      match i, h with
      | 0, h => cases h; exact List.mem_cons_self
      | i + 1, h =>
        have := lvE_args vs (n - 1) (off + 1) i v (by simpa using h)
        refine List.mem_cons_of_mem _ ?_
        rw [show off + (i + 1) = off + 1 + i by omega]
        exact this
set_option maxHeartbeats 1000000 in
theorem Ct_of {l : Launch} {E : EX} {y : MethodName} {rm : Room} {av : List Value} {ws : va_W} {post : Option Value → va_W → Prop} {mc ms : Nat} {cc : ByteArray} {nL : Nat} {ret : Option FieldType}
    (hy : plainName y.cls = true) (hlen : (lg_sl av).length ≤ nL)
    (body : ∀ k : KX, k.l = l → (∀ j : Nat, j < nL → j < k.nL) → Cx k E cc y.cls rm → Rt k E post mc ms ret → k.meth.name = y.name → G k E 0 0 0 (lvE nL av) [] ws) : Ct l E y cc nL ret rm av ws post mc ms := by
  intro sz
  refine Met.ofW (cc := cc) (maxL := nL) (ret := ret) hy rfl ?_
  intro p e s m args below meth c s₁ B hml hv
  obtain ⟨rfl, hsz, hP, hK, hD0, hN⟩ := hv
  subst hsz
  have hD := hD0.self (sz := s.heap.size)
  have hl := lv_entry av (n := nL) hlen
  rw [lg_entry_eq]
  have hlv : LV ((lg_sl av ++ List.replicate (nL - (lg_sl av).length) Slot.unset).toArray) nL (lvE nL av) := ⟨hl.1, hl.2.1, fun i v h => hl.2.2 (i, v) (by have := lvE_args av nL 0 i v h; rwa [Nat.zero_add] at this)⟩
  exact body ((p, l, e, (headSpec (Cond.code y cc nL ret :: allW) rm).room, s), (m, av.toArray, below, meth, c), (va_A ws s.heap.size, nL, MQ below (QcC E post (va_A ws s.heap.size)) av.toArray s mc ms (va_A ws s.heap.size))) rfl (fun _ h => h)
    ⟨B.exec, B.bytes, hml, findClass_of_methodNamed B.named, fun w hw => atoms_spec (ws := Cond.code y cc nL ret :: allW) B.pre w (List.mem_cons_of_mem _ hw), hK, fun q h => Or.inr h, rfl, hN, B.notSynchronized⟩ ⟨rfl, B.returns⟩ (name_of_methodNamed B.named B.method).1 s.heap [] _ hP hD va_S.rf hlv
theorem allW_good {w : Cond} (h : w ∈ allW) : w ∈ allW ∧ ((w.onTables && w.keeps) = true ∨ ∃ ty, w = .arrayClass ty) := ⟨h, good_of_word (List.mem_filter.mp h).2⟩
theorem goodC {y : MethodName} {cc : ByteArray} {nL : Nat} {ret : Option FieldType} (h5 : Cond.code y cc nL ret ∈ allW) : GoodIn allW (Cond.code y cc nL ret :: allW) := fun w h => by
  rcases List.mem_cons.mp h with rfl | h
  · exact allW_good h5
  · exact allW_good h
theorem goodW {own C : String} {i : Nat} {y : MethodName} {cc : ByteArray} {nL : Nat} {ret : Option FieldType} (h1 : Cond.methodLink own i y ∈ allW) (h2 : Cond.instanceMethod y ∈ allW) (h3 : Cond.selects C y y ∈ allW) (h4 : Cond.initialized C ∈ allW) (h5 : Cond.code y cc nL ret ∈ allW) : GoodIn allW (wsV own i C y (Cond.code y cc nL ret :: allW)) := fun w h => by
  unfold wsV at h
  rcases List.mem_append.mp h with h | h
  · simp only [List.mem_cons, List.not_mem_nil, or_false] at h
    rcases h with rfl | rfl | rfl | rfl
    · exact allW_good h1
    · exact allW_good h2
    · exact allW_good h3
    · exact allW_good h4
  · exact goodC h5 w h
theorem goodS {own : String} {i : Nat} {y : MethodName} {cc : ByteArray} {nL : Nat} {ret : Option FieldType} (h1 : Cond.methodLink own i y ∈ allW) (h2 : Cond.static y ∈ allW) (h4 : Cond.initialized y.cls ∈ allW) (h5 : Cond.code y cc nL ret ∈ allW) : GoodIn allW (va_wsS own i y (Cond.code y cc nL ret :: allW)) := fun w h => by
  unfold va_wsS at h
  rcases List.mem_append.mp h with h | h
  · simp only [List.mem_cons, List.not_mem_nil, or_false] at h
    rcases h with rfl | rfl | rfl
    · exact allW_good h1
    · exact allW_good h2
    · exact allW_good h4
  · exact goodC h5 w h
section GL
variable {k : KX} {E : EX} {cc : ByteArray} {own : String} {rm : Room} {n z pc : Nat} {lv : List (Option Value)} {st : List Value} {ws : va_W}
theorem g_perm (is : List Nat) {ws' : va_W} (hn : va_nd is = true) (hs : is.map (fun i => ws[i]?) = ws'.map some) (h : G k E n z pc lv st ws') : G k E n z pc lv st ws := by
  intro H locs ls hP hD hS hl
  have hs2 : is.filterMap (fun i => ws[i]?) = ws' := by
    have e1 : is.filterMap (fun i => ws[i]?) = (is.map (fun i => ws[i]?)).filterMap id := by rw [List.filterMap_map]; rfl
    rw [e1, hs, List.filterMap_map]
    show ws'.filterMap some = ws'
    simp
  exact h H locs ls (hP.sub is hs2) (hD.sub is hn hs) hS hl
theorem g_lv {lv' : List (Option Value)} (hs : ∀ (i : Nat) (v : Value), lv'[i]? = some (some v) → lv[i]? = some (some v)) (h : G k E n z pc lv' st ws) : G k E n z pc lv st ws :=
  fun H locs ls hP hD hS hl => h H locs ls hP hD hS ⟨hl.1, hl.2.1, fun i v hi => hl.2.2 i v (hs i v hi)⟩
/-- a local that nobody reads again -/
theorem g_kill (i : Nat) {lv' : List (Option Value)} (hv : lv.set i none = lv') (h : G k E n z pc lv' st ws) : G k E n z pc lv st ws := by
  subst hv
  refine g_lv (fun j v hj => ?_) h
  by_cases hji : j = i
  · subst hji
    by_cases hl : j < lv.length
    · rw [List.getElem?_set_self hl] at hj; cases hj
    · rw [List.getElem?_eq_none (by simpa using hl)] at hj; cases hj
  · rwa [List.getElem?_set_ne (Ne.symm hji)] at hj
theorem g_widen {n' z' : Nat} (h1 : n ≤ n') (h2 : z ≤ z') (h : G k E n' z' pc lv st ws) : G k E n z pc lv st ws :=
  fun H locs ls hP hD hS hl => W.widen h1 h2 (h H locs ls hP hD hS hl)
theorem g_topi {x v : Int32} (e : x = v) (h : G k E n z pc lv (.int v :: st) ws) : G k E n z pc lv (.int x :: st) ws := by subst e; exact h
theorem g_topl {x v : Int64} (e : x = v) (h : G k E n z pc lv (.long v :: st) ws) : G k E n z pc lv (.long x :: st) ws := by subst e; exact h
theorem g_ws {ws' : va_W} (e : ws = ws') (h : G k E n z pc lv st ws') : G k E n z pc lv st ws := by subst e; exact h
theorem g_eq {ws' : va_W} {lv' : List (Option Value)} {st' : List Value} (e1 : lv = lv') (e2 : st = st') (e3 : ws = ws') (h : G k E n z pc lv' st' ws') : G k E n z pc lv st ws := by subst e1; subst e2; subst e3; exact h
theorem g_iconst (C : Cx k E cc own rm) {i : Int} {v : Int32} (d : decode cc pc = .ok (.iconst i, 1)) (hv : Int32.ofInt i = v) (h : G k E n z (pc + 1) lv (.int v :: st) ws) : G k E n z pc lv (st) ws :=
  fun H locs ls hP hD hS hl => lv_iconst C.1 C.2.1 d hv (h H locs ls hP hD hS hl)
theorem g_bipush (C : Cx k E cc own rm) {i : Int} {v : Int32} (d : decode cc pc = .ok (.bipush i, 2)) (hv : (Int8.ofInt i).toInt32 = v) (h : G k E n z (pc + 2) lv (.int v :: st) ws) : G k E n z pc lv (st) ws :=
  fun H locs ls hP hD hS hl => lv_bipush C.1 C.2.1 d hv (h H locs ls hP hD hS hl)
theorem g_sipush (C : Cx k E cc own rm) {i : Int} {v : Int32} (d : decode cc pc = .ok (.sipush i, 3)) (hv : (Int16.ofInt i).toInt32 = v) (h : G k E n z (pc + 3) lv (.int v :: st) ws) : G k E n z pc lv (st) ws :=
  fun H locs ls hP hD hS hl => lv_sipush C.1 C.2.1 d hv (h H locs ls hP hD hS hl)
theorem g_lconst (C : Cx k E cc own rm) {i : Fin 2} {v : Int64} (d : decode cc pc = .ok (.lconst i, 1)) (hv : Int64.ofNat (i : Nat) = v) (h : G k E n z (pc + 1) lv (.long v :: st) ws) : G k E n z pc lv (st) ws :=
  fun H locs ls hP hD hS hl => lv_lconst C.1 C.2.1 d hv (h H locs ls hP hD hS hl)
theorem g_ldc (C : Cx k E cc own rm) {i : Nat} {v : Int32} (d : decode cc pc = .ok (.ldc i, 2)) (hw : Cond.constant own i v ∈ allW) (h : G k E n z (pc + 2) lv (.int v :: st) ws) : G k E n z pc lv (st) ws :=
  fun H locs ls hP hD hS hl => lv_ldc C.1 C.2.1 C.2.2.2.1 (C.2.2.2.2.1 _ hw) d (h H locs ls hP hD hS hl)
theorem g_ldc2 (C : Cx k E cc own rm) {i : Nat} {v : Int64} (d : decode cc pc = .ok (.ldc2_w i, 3)) (hw : Cond.constantLong own i v ∈ allW) (h : G k E n z (pc + 3) lv (.long v :: st) ws) : G k E n z pc lv (st) ws :=
  fun H locs ls hP hD hS hl => lv_ldc2 C.1 C.2.1 C.2.2.2.1 (C.2.2.2.2.1 _ hw) d (h H locs ls hP hD hS hl)
theorem g_iload_n (C : Cx k E cc own rm) {j : Fin 4} {x : Int32} (d : decode cc pc = .ok (.iload_n j, 1)) (hi : lv[(j : Nat)]? = some (some (.int x))) (h : G k E n z (pc + 1) lv (.int x :: st) ws) : G k E n z pc lv (st) ws :=
  fun H locs ls hP hD hS hl => lv_iload_n C.1 C.2.1 d rfl (hl.2.2 _ _ hi) (h H locs ls hP hD hS hl)
theorem g_iload (C : Cx k E cc own rm) {j : Nat} {x : Int32} (d : decode cc pc = .ok (.iload j, 2)) (hi : lv[j]? = some (some (.int x))) (h : G k E n z (pc + 2) lv (.int x :: st) ws) : G k E n z pc lv (st) ws :=
  fun H locs ls hP hD hS hl => lv_iload C.1 C.2.1 d (hl.2.2 _ _ hi) (h H locs ls hP hD hS hl)
theorem g_aload_n (C : Cx k E cc own rm) {j : Fin 4} {x : Nat} (d : decode cc pc = .ok (.aload_n j, 1)) (hi : lv[(j : Nat)]? = some (some (.ref x))) (h : G k E n z (pc + 1) lv (.ref x :: st) ws) : G k E n z pc lv (st) ws :=
  fun H locs ls hP hD hS hl => lv_aload_n C.1 C.2.1 d rfl (hl.2.2 _ _ hi) (h H locs ls hP hD hS hl)
theorem g_aload (C : Cx k E cc own rm) {j : Nat} {x : Nat} (d : decode cc pc = .ok (.aload j, 2)) (hi : lv[j]? = some (some (.ref x))) (h : G k E n z (pc + 2) lv (.ref x :: st) ws) : G k E n z pc lv (st) ws :=
  fun H locs ls hP hD hS hl => lv_aload C.1 C.2.1 d (hl.2.2 _ _ hi) (h H locs ls hP hD hS hl)
theorem g_lload_n (C : Cx k E cc own rm) {j : Fin 4} {x : Int64} (d : decode cc pc = .ok (.lload_n j, 1)) (hi : lv[(j : Nat)]? = some (some (.long x))) (h : G k E n z (pc + 1) lv (.long x :: st) ws) : G k E n z pc lv (st) ws :=
  fun H locs ls hP hD hS hl => lv_lload_n C.1 C.2.1 d rfl (hl.2.2 _ _ hi) (h H locs ls hP hD hS hl)
theorem g_lload (C : Cx k E cc own rm) {j : Nat} {x : Int64} (d : decode cc pc = .ok (.lload j, 2)) (hi : lv[j]? = some (some (.long x))) (h : G k E n z (pc + 2) lv (.long x :: st) ws) : G k E n z pc lv (st) ws :=
  fun H locs ls hP hD hS hl => lv_lload C.1 C.2.1 d (hl.2.2 _ _ hi) (h H locs ls hP hD hS hl)
theorem g_iadd (C : Cx k E cc own rm) {x y : Int32} (d : decode cc pc = .ok (.iadd, 1)) (h : G k E n z (pc + 1) lv (.int (x + y) :: st) ws) : G k E n z pc lv (.int y :: .int x :: st) ws :=
  fun H locs ls hP hD hS hl => lv_iadd C.1 C.2.1 d (h H locs ls hP hD hS hl)
theorem g_isub (C : Cx k E cc own rm) {x y : Int32} (d : decode cc pc = .ok (.isub, 1)) (h : G k E n z (pc + 1) lv (.int (x - y) :: st) ws) : G k E n z pc lv (.int y :: .int x :: st) ws :=
  fun H locs ls hP hD hS hl => lv_isub C.1 C.2.1 d (h H locs ls hP hD hS hl)
theorem g_imul (C : Cx k E cc own rm) {x y : Int32} (d : decode cc pc = .ok (.imul, 1)) (h : G k E n z (pc + 1) lv (.int (x * y) :: st) ws) : G k E n z pc lv (.int y :: .int x :: st) ws :=
  fun H locs ls hP hD hS hl => lv_imul C.1 C.2.1 d (h H locs ls hP hD hS hl)
theorem g_iand (C : Cx k E cc own rm) {x y : Int32} (d : decode cc pc = .ok (.iand, 1)) (h : G k E n z (pc + 1) lv (.int (x &&& y) :: st) ws) : G k E n z pc lv (.int y :: .int x :: st) ws :=
  fun H locs ls hP hD hS hl => lv_iand C.1 C.2.1 d (h H locs ls hP hD hS hl)
theorem g_ior (C : Cx k E cc own rm) {x y : Int32} (d : decode cc pc = .ok (.ior, 1)) (h : G k E n z (pc + 1) lv (.int (x ||| y) :: st) ws) : G k E n z pc lv (.int y :: .int x :: st) ws :=
  fun H locs ls hP hD hS hl => lv_ior C.1 C.2.1 d (h H locs ls hP hD hS hl)
theorem g_ishl (C : Cx k E cc own rm) {x y : Int32} (d : decode cc pc = .ok (.ishl, 1)) (h : G k E n z (pc + 1) lv (.int (x <<< (y &&& 31)) :: st) ws) : G k E n z pc lv (.int y :: .int x :: st) ws :=
  fun H locs ls hP hD hS hl => lv_ishl C.1 C.2.1 d (h H locs ls hP hD hS hl)
theorem g_ishr (C : Cx k E cc own rm) {x y : Int32} (d : decode cc pc = .ok (.ishr, 1)) (h : G k E n z (pc + 1) lv (.int (x >>> (y &&& 31)) :: st) ws) : G k E n z pc lv (.int y :: .int x :: st) ws :=
  fun H locs ls hP hD hS hl => lv_ishr C.1 C.2.1 d (h H locs ls hP hD hS hl)
theorem g_idiv (C : Cx k E cc own rm) {x y : Int32} (d : decode cc pc = .ok (.idiv, 1)) (hne : ¬ y = 0) (h : G k E n z (pc + 1) lv (.int (x / y) :: st) ws) : G k E n z pc lv (.int y :: .int x :: st) ws :=
  fun H locs ls hP hD hS hl => lv_idiv C.1 C.2.1 d hne (h H locs ls hP hD hS hl)
theorem g_irem (C : Cx k E cc own rm) {x y : Int32} (d : decode cc pc = .ok (.irem, 1)) (hne : ¬ y = 0) (h : G k E n z (pc + 1) lv (.int (x - x / y * y) :: st) ws) : G k E n z pc lv (.int y :: .int x :: st) ws :=
  fun H locs ls hP hD hS hl => lv_irem C.1 C.2.1 d hne (h H locs ls hP hD hS hl)
theorem g_ladd (C : Cx k E cc own rm) {x y : Int64} (d : decode cc pc = .ok (.ladd, 1)) (h : G k E n z (pc + 1) lv (.long (x + y) :: st) ws) : G k E n z pc lv (.long y :: .long x :: st) ws :=
  fun H locs ls hP hD hS hl => lv_ladd C.1 C.2.1 d (h H locs ls hP hD hS hl)
theorem g_lsub (C : Cx k E cc own rm) {x y : Int64} (d : decode cc pc = .ok (.lsub, 1)) (h : G k E n z (pc + 1) lv (.long (x - y) :: st) ws) : G k E n z pc lv (.long y :: .long x :: st) ws :=
  fun H locs ls hP hD hS hl => lv_lsub C.1 C.2.1 d (h H locs ls hP hD hS hl)
theorem g_lmul (C : Cx k E cc own rm) {x y : Int64} (d : decode cc pc = .ok (.lmul, 1)) (h : G k E n z (pc + 1) lv (.long (x * y) :: st) ws) : G k E n z pc lv (.long y :: .long x :: st) ws :=
  fun H locs ls hP hD hS hl => lv_lmul C.1 C.2.1 d (h H locs ls hP hD hS hl)
theorem g_ldiv (C : Cx k E cc own rm) {x y : Int64} (d : decode cc pc = .ok (.ldiv, 1)) (hne : ¬ y = 0) (h : G k E n z (pc + 1) lv (.long (x / y) :: st) ws) : G k E n z pc lv (.long y :: .long x :: st) ws :=
  fun H locs ls hP hD hS hl => lv_ldiv C.1 C.2.1 d hne (h H locs ls hP hD hS hl)
theorem g_lrem (C : Cx k E cc own rm) {x y : Int64} (d : decode cc pc = .ok (.lrem, 1)) (hne : ¬ y = 0) (h : G k E n z (pc + 1) lv (.long (x - x / y * y) :: st) ws) : G k E n z pc lv (.long y :: .long x :: st) ws :=
  fun H locs ls hP hD hS hl => lv_lrem C.1 C.2.1 d hne (h H locs ls hP hD hS hl)
theorem g_i2l (C : Cx k E cc own rm) {x : Int32} {v : Int64} (d : decode cc pc = .ok (.i2l, 1)) (hv : x.toInt64 = v) (h : G k E n z (pc + 1) lv (.long v :: st) ws) : G k E n z pc lv (.int x :: st) ws :=
  fun H locs ls hP hD hS hl => lv_i2l C.1 C.2.1 d hv (h H locs ls hP hD hS hl)
theorem g_l2i (C : Cx k E cc own rm) {x : Int64} {v : Int32} (d : decode cc pc = .ok (.l2i, 1)) (hv : x.toInt32 = v) (h : G k E n z (pc + 1) lv (.int v :: st) ws) : G k E n z pc lv (.long x :: st) ws :=
  fun H locs ls hP hD hS hl => lv_l2i C.1 C.2.1 d hv (h H locs ls hP hD hS hl)
theorem g_i2c (C : Cx k E cc own rm) {x v : Int32} (d : decode cc pc = .ok (.i2c, 1)) (hv : (x.toUInt32 % 65536).toInt32 = v) (h : G k E n z (pc + 1) lv (.int v :: st) ws) : G k E n z pc lv (.int x :: st) ws :=
  fun H locs ls hP hD hS hl => lv_i2c C.1 C.2.1 d hv (h H locs ls hP hD hS hl)
theorem g_dup (C : Cx k E cc own rm) {va : Value} (d : decode cc pc = .ok (.dup, 1)) (hva : va.category = 1) (h : G k E n z (pc + 1) lv (va :: va :: st) ws) : G k E n z pc lv (va :: st) ws :=
  fun H locs ls hP hD hS hl => lv_dup C.1 C.2.1 d hva (h H locs ls hP hD hS hl)
theorem g_pop (C : Cx k E cc own rm) {va : Value} (d : decode cc pc = .ok (.pop, 1)) (hva : va.category = 1) (h : G k E n z (pc + 1) lv (st) ws) : G k E n z pc lv (va :: st) ws :=
  fun H locs ls hP hD hS hl => lv_pop C.1 C.2.1 d hva (h H locs ls hP hD hS hl)
theorem g_dup_x1 (C : Cx k E cc own rm) {va vb : Value} (d : decode cc pc = .ok (.dup_x1, 1)) (hva : va.category = 1) (hvb : vb.category = 1) (h : G k E n z (pc + 1) lv (va :: vb :: va :: st) ws) : G k E n z pc lv (va :: vb :: st) ws :=
  fun H locs ls hP hD hS hl => lv_dup_x1 C.1 C.2.1 d hva hvb (h H locs ls hP hD hS hl)
theorem g_goto (C : Cx k E cc own rm) {off : Int} {tgt : Nat} (d : decode cc pc = .ok (.goto off, 3)) (ht : (pc : Int) + off = (tgt : Int)) (h : G k E n z tgt lv st ws) : G k E n z pc lv st ws :=
  fun H locs ls hP hD hS hl => lv_goto C.1 C.2.1 d ht (h H locs ls hP hD hS hl)
theorem g_icmp_eq (C : Cx k E cc own rm) {x y : Int32} {off : Int} {tgt : Nat} (d : decode cc pc = .ok (.if_icmp .eq off, 3)) (ht : (pc : Int) + off = (tgt : Int)) (kt : x = y → G k E n z tgt lv st ws) (kf : ¬ (x = y) → G k E n z (pc + 3) lv st ws) : G k E n z pc lv (.int y :: .int x :: st) ws :=
  fun H locs ls hP hD hS hl => lv_icmp_eq C.1 C.2.1 d ht (fun c => kt c H locs ls hP hD hS hl) (fun c => kf c H locs ls hP hD hS hl)
theorem g_if_eq (C : Cx k E cc own rm) {x : Int32} {off : Int} {tgt : Nat} (d : decode cc pc = .ok (.ifCond .eq off, 3)) (ht : (pc : Int) + off = (tgt : Int)) (kt : x = 0 → G k E n z tgt lv st ws) (kf : ¬ (x = 0) → G k E n z (pc + 3) lv st ws) : G k E n z pc lv (.int x :: st) ws :=
  fun H locs ls hP hD hS hl => lv_if_eq C.1 C.2.1 d ht (fun c => kt c H locs ls hP hD hS hl) (fun c => kf c H locs ls hP hD hS hl)
theorem g_icmp_ne (C : Cx k E cc own rm) {x y : Int32} {off : Int} {tgt : Nat} (d : decode cc pc = .ok (.if_icmp .ne off, 3)) (ht : (pc : Int) + off = (tgt : Int)) (kt : ¬ x = y → G k E n z tgt lv st ws) (kf : x = y → G k E n z (pc + 3) lv st ws) : G k E n z pc lv (.int y :: .int x :: st) ws :=
  fun H locs ls hP hD hS hl => lv_icmp_ne C.1 C.2.1 d ht (fun c => kt c H locs ls hP hD hS hl) (fun c => kf c H locs ls hP hD hS hl)
theorem g_if_ne (C : Cx k E cc own rm) {x : Int32} {off : Int} {tgt : Nat} (d : decode cc pc = .ok (.ifCond .ne off, 3)) (ht : (pc : Int) + off = (tgt : Int)) (kt : ¬ x = 0 → G k E n z tgt lv st ws) (kf : x = 0 → G k E n z (pc + 3) lv st ws) : G k E n z pc lv (.int x :: st) ws :=
  fun H locs ls hP hD hS hl => lv_if_ne C.1 C.2.1 d ht (fun c => kt c H locs ls hP hD hS hl) (fun c => kf c H locs ls hP hD hS hl)
theorem g_icmp_lt (C : Cx k E cc own rm) {x y : Int32} {off : Int} {tgt : Nat} (d : decode cc pc = .ok (.if_icmp .lt off, 3)) (ht : (pc : Int) + off = (tgt : Int)) (kt : x < y → G k E n z tgt lv st ws) (kf : ¬ (x < y) → G k E n z (pc + 3) lv st ws) : G k E n z pc lv (.int y :: .int x :: st) ws :=
  fun H locs ls hP hD hS hl => lv_icmp_lt C.1 C.2.1 d ht (fun c => kt c H locs ls hP hD hS hl) (fun c => kf c H locs ls hP hD hS hl)
theorem g_if_lt (C : Cx k E cc own rm) {x : Int32} {off : Int} {tgt : Nat} (d : decode cc pc = .ok (.ifCond .lt off, 3)) (ht : (pc : Int) + off = (tgt : Int)) (kt : x < 0 → G k E n z tgt lv st ws) (kf : ¬ (x < 0) → G k E n z (pc + 3) lv st ws) : G k E n z pc lv (.int x :: st) ws :=
  fun H locs ls hP hD hS hl => lv_if_lt C.1 C.2.1 d ht (fun c => kt c H locs ls hP hD hS hl) (fun c => kf c H locs ls hP hD hS hl)
theorem g_icmp_ge (C : Cx k E cc own rm) {x y : Int32} {off : Int} {tgt : Nat} (d : decode cc pc = .ok (.if_icmp .ge off, 3)) (ht : (pc : Int) + off = (tgt : Int)) (kt : y ≤ x → G k E n z tgt lv st ws) (kf : ¬ (y ≤ x) → G k E n z (pc + 3) lv st ws) : G k E n z pc lv (.int y :: .int x :: st) ws :=
  fun H locs ls hP hD hS hl => lv_icmp_ge C.1 C.2.1 d ht (fun c => kt c H locs ls hP hD hS hl) (fun c => kf c H locs ls hP hD hS hl)
theorem g_if_ge (C : Cx k E cc own rm) {x : Int32} {off : Int} {tgt : Nat} (d : decode cc pc = .ok (.ifCond .ge off, 3)) (ht : (pc : Int) + off = (tgt : Int)) (kt : 0 ≤ x → G k E n z tgt lv st ws) (kf : ¬ (0 ≤ x) → G k E n z (pc + 3) lv st ws) : G k E n z pc lv (.int x :: st) ws :=
  fun H locs ls hP hD hS hl => lv_if_ge C.1 C.2.1 d ht (fun c => kt c H locs ls hP hD hS hl) (fun c => kf c H locs ls hP hD hS hl)
theorem g_icmp_gt (C : Cx k E cc own rm) {x y : Int32} {off : Int} {tgt : Nat} (d : decode cc pc = .ok (.if_icmp .gt off, 3)) (ht : (pc : Int) + off = (tgt : Int)) (kt : y < x → G k E n z tgt lv st ws) (kf : ¬ (y < x) → G k E n z (pc + 3) lv st ws) : G k E n z pc lv (.int y :: .int x :: st) ws :=
  fun H locs ls hP hD hS hl => lv_icmp_gt C.1 C.2.1 d ht (fun c => kt c H locs ls hP hD hS hl) (fun c => kf c H locs ls hP hD hS hl)
theorem g_if_gt (C : Cx k E cc own rm) {x : Int32} {off : Int} {tgt : Nat} (d : decode cc pc = .ok (.ifCond .gt off, 3)) (ht : (pc : Int) + off = (tgt : Int)) (kt : 0 < x → G k E n z tgt lv st ws) (kf : ¬ (0 < x) → G k E n z (pc + 3) lv st ws) : G k E n z pc lv (.int x :: st) ws :=
  fun H locs ls hP hD hS hl => lv_if_gt C.1 C.2.1 d ht (fun c => kt c H locs ls hP hD hS hl) (fun c => kf c H locs ls hP hD hS hl)
theorem g_icmp_le (C : Cx k E cc own rm) {x y : Int32} {off : Int} {tgt : Nat} (d : decode cc pc = .ok (.if_icmp .le off, 3)) (ht : (pc : Int) + off = (tgt : Int)) (kt : x ≤ y → G k E n z tgt lv st ws) (kf : ¬ (x ≤ y) → G k E n z (pc + 3) lv st ws) : G k E n z pc lv (.int y :: .int x :: st) ws :=
  fun H locs ls hP hD hS hl => lv_icmp_le C.1 C.2.1 d ht (fun c => kt c H locs ls hP hD hS hl) (fun c => kf c H locs ls hP hD hS hl)
theorem g_if_le (C : Cx k E cc own rm) {x : Int32} {off : Int} {tgt : Nat} (d : decode cc pc = .ok (.ifCond .le off, 3)) (ht : (pc : Int) + off = (tgt : Int)) (kt : x ≤ 0 → G k E n z tgt lv st ws) (kf : ¬ (x ≤ 0) → G k E n z (pc + 3) lv st ws) : G k E n z pc lv (.int x :: st) ws :=
  fun H locs ls hP hD hS hl => lv_if_le C.1 C.2.1 d ht (fun c => kt c H locs ls hP hD hS hl) (fun c => kf c H locs ls hP hD hS hl)
theorem g_istore_n (C : Cx k E cc own rm) {j : Fin 4} {x : Int32} {lv' : List (Option Value)} (d : decode cc pc = .ok (.istore_n j, 1)) (hn : (j : Nat) < k.nL) (ho : okst lv (j : Nat) = true) (hv : lv.set (j : Nat) (some (.int x)) = lv') (h : G k E n z (pc + 1) lv' st ws) : G k E n z pc lv (.int x :: st) ws := by
  subst hv
  exact fun H locs ls hP hD hS hl => lv_istore_n C.1 C.2.1 d rfl hl.has hn rfl (fun ls' h' => h H locs ls' hP hD hS (LV.store1 ho h'))
theorem g_istore (C : Cx k E cc own rm) {j : Nat} {x : Int32} {lv' : List (Option Value)} (d : decode cc pc = .ok (.istore j, 2)) (hn : j < k.nL) (ho : okst lv j = true) (hv : lv.set j (some (.int x)) = lv') (h : G k E n z (pc + 2) lv' st ws) : G k E n z pc lv (.int x :: st) ws := by
  subst hv
  exact fun H locs ls hP hD hS hl => lv_istore C.1 C.2.1 d hl.has hn rfl (fun ls' h' => h H locs ls' hP hD hS (LV.store1 ho h'))
theorem g_astore_n (C : Cx k E cc own rm) {j : Fin 4} {x : Nat} {lv' : List (Option Value)} (d : decode cc pc = .ok (.astore_n j, 1)) (hn : (j : Nat) < k.nL) (ho : okst lv (j : Nat) = true) (hv : lv.set (j : Nat) (some (.ref x)) = lv') (h : G k E n z (pc + 1) lv' st ws) : G k E n z pc lv (.ref x :: st) ws := by
  subst hv
  exact fun H locs ls hP hD hS hl => lv_astore_n C.1 C.2.1 d rfl hl.has hn rfl (fun ls' h' => h H locs ls' hP hD hS (LV.store1 ho h'))
theorem g_astore (C : Cx k E cc own rm) {j : Nat} {x : Nat} {lv' : List (Option Value)} (d : decode cc pc = .ok (.astore j, 2)) (hn : j < k.nL) (ho : okst lv j = true) (hv : lv.set j (some (.ref x)) = lv') (h : G k E n z (pc + 2) lv' st ws) : G k E n z pc lv (.ref x :: st) ws := by
  subst hv
  exact fun H locs ls hP hD hS hl => lv_astore C.1 C.2.1 d hl.has hn rfl (fun ls' h' => h H locs ls' hP hD hS (LV.store1 ho h'))
theorem g_lstore_n (C : Cx k E cc own rm) {j : Fin 4} {x : Int64} {lv' : List (Option Value)} (d : decode cc pc = .ok (.lstore_n j, 1)) (hn : (j : Nat) + 1 < k.nL) (ho : okst lv (j : Nat) = true) (hv : (lv.set (j : Nat) (some (.long x))).set ((j : Nat) + 1) none = lv') (h : G k E n z (pc + 1) lv' st ws) : G k E n z pc lv (.long x :: st) ws := by
  subst hv
  exact fun H locs ls hP hD hS hl => lv_lstore_n C.1 C.2.1 d rfl hl.has hn rfl (fun ls' h' => h H locs ls' hP hD hS (LV.store2 ho h'))
theorem g_lstore (C : Cx k E cc own rm) {j : Nat} {x : Int64} {lv' : List (Option Value)} (d : decode cc pc = .ok (.lstore j, 2)) (hn : j + 1 < k.nL) (ho : okst lv j = true) (hv : (lv.set j (some (.long x))).set (j + 1) none = lv') (h : G k E n z (pc + 2) lv' st ws) : G k E n z pc lv (.long x :: st) ws := by
  subst hv
  exact fun H locs ls hP hD hS hl => lv_lstore C.1 C.2.1 d hl.has hn rfl (fun ls' h' => h H locs ls' hP hD hS (LV.store2 ho h'))
theorem g_iinc (C : Cx k E cc own rm) {j : Nat} {i : Int} {x v : Int32} {lv' : List (Option Value)} (d : decode cc pc = .ok (.iinc j i, 3)) (hi : lv[j]? = some (some (.int x))) (hx : x + Int32.ofInt i = v) (hn : j < k.nL) (ho : okst lv j = true) (hv : lv.set j (some (.int v)) = lv') (h : G k E n z (pc + 3) lv' st ws) : G k E n z pc lv st ws := by
  subst hv
  intro H locs ls hP hD hS hl
  obtain ⟨q, hq⟩ := List.getElem?_of_mem (lvA_mem (q := (j, .int x)).mpr hi)
  exact lv_iinc C.1 C.2.1 d hl.has hq hx hn rfl (fun ls' h' => h H locs ls' hP hD hS (LV.store1 ho h'))
theorem g_get (C : Cx k E cc own rm) {Cn : String} {T : u_T} {N ci i : Nat} (hin : ∀ w ∈ u_ws Cn T N, w ∈ allW) (q0 : Nat) {a : Nat} {fs : List Value} (he : ws[q0]? = some (a, .inr (ci, fs))) (hc : vwCl[ci]? = some (Cn, T, N)) (j : Nat) (hj : j < N) (hw : Cond.fieldLink own i (T j).1 (T j).2.1 (T j).2.2.1 ∈ allW) {v : Value} (hv : fs[j]? = some v) (d : decode cc pc = .ok (.getfield i, 3)) (h : G k E n z (pc + 3) lv (v :: st) ws) : G k E n z pc lv (.ref a :: st) ws :=
  fun H locs ls hP hD hS hl => va_get C.1 C.2.1 C.2.2.2.2.1 hin C.2.2.2.1 C.2.2.2.2.2.1 hP q0 he hc j hj (C.2.2.2.2.1 _ hw) (fun _ h9 => h9) hv d (h H locs ls hP hD hS hl)
theorem g_put (C : Cx k E cc own rm) {Cn : String} {T : u_T} {N ci i : Nat} (hin : ∀ w ∈ u_ws Cn T N, w ∈ allW) (ty0 : Nat → FieldType) (hty : ∀ k, k < N → parseFieldDescriptor (T k).2.2.1 = some (ty0 k)) (hnm : ∀ a, a < N → ∀ b, b < N → a ≠ b → (T a).2.1 ≠ (T b).2.1) (q0 : Nat) {a : Nat} {fs : List Value} (he : ws[q0]? = some (a, .inr (ci, fs))) (hc : vwCl[ci]? = some (Cn, T, N)) (j : Nat) (hj : j < N) (hw : Cond.fieldLink own i (T j).1 (T j).2.1 (T j).2.2.1 ∈ allW) (hfin : (T j).2.2.2 = false) {v : Value} {ws' : va_W} (hn : narrow (ty0 j) v = v) (hfit : fits (ty0 j) v = true) (hl0 : j < fs.length) (hs : ws.set q0 (a, .inr (ci, fs.set j v)) = ws') (d : decode cc pc = .ok (.putfield i, 3)) (h : G k E n z (pc + 3) lv st ws') : G k E n z pc lv (v :: .ref a :: st) ws := by
  subst hs
  exact fun H locs ls hP hD hS hl => va_put C.1 C.2.1 C.2.2.2.2.1 hin ty0 hty hnm C.2.2.2.1 C.2.2.2.2.2.1 hP hD hS q0 he hc j hj (C.2.2.2.2.1 _ hw) (fun _ h9 => h9) hfin (hty j hj) hn hfit hl0 d (fun H1 locs1 hP hD hS => h H1 locs1 ls hP hD hS hl)
theorem g_putF (C : Cx k E cc own rm) (hm : k.meth.name = "<init>") {Cn : String} {T : u_T} {N ci i : Nat} (hin : ∀ w ∈ u_ws Cn T N, w ∈ allW) (ty0 : Nat → FieldType) (hty : ∀ k, k < N → parseFieldDescriptor (T k).2.2.1 = some (ty0 k)) (hnm : ∀ a, a < N → ∀ b, b < N → a ≠ b → (T a).2.1 ≠ (T b).2.1) (q0 : Nat) {a : Nat} {fs : List Value} (he : ws[q0]? = some (a, .inr (ci, fs))) (hc : vwCl[ci]? = some (Cn, T, N)) (j : Nat) (hj : j < N) (hw : Cond.fieldLink own i (T j).1 (T j).2.1 (T j).2.2.1 ∈ allW) (hfin : (T j).2.2.2 = true) (hdecl : (T j).1 = own) {v : Value} {ws' : va_W} (hn : narrow (ty0 j) v = v) (hfit : fits (ty0 j) v = true) (hl0 : j < fs.length) (hs : ws.set q0 (a, .inr (ci, fs.set j v)) = ws') (d : decode cc pc = .ok (.putfield i, 3)) (h : G k E n z (pc + 3) lv st ws') : G k E n z pc lv (v :: .ref a :: st) ws := by
  subst hs
  exact fun H locs ls hP hD hS hl => va_putF C.1 C.2.1 C.2.2.2.2.1 hin ty0 hty hnm C.2.2.2.1 C.2.2.2.2.2.1 hP hD hS q0 he hc j hj (C.2.2.2.2.1 _ hw) (fun _ h9 => h9) hfin hm hdecl (hty j hj) hn hfit hl0 d (fun H1 locs1 hP hD hS => h H1 locs1 ls hP hD hS hl)
theorem g_iald (C : Cx k E cc own rm) (q0 : Nat) {a N : Nat} {f : Nat → Int32} {i : Int32} (j : Nat) (he : ws[q0]? = some (aI E a N f)) (hi : i = nI j) (hj : j < N) (hN : N < 2 ^ 31) (d : decode cc pc = .ok (.iaload, 1)) (h : G k E n z (pc + 1) lv (.int (f j) :: st) ws) : G k E n z pc lv (.int i :: .ref a :: st) ws := by
  subst hi
  intro H locs ls hP hD hS hl
  have e := h H locs ls hP hD hS hl
  rw [← nI_clamp (show j < 2 ^ 31 by omega)] at e
  exact va_iald C.1 C.2.1 C.2.2.2.2.2.1 hP q0 0 he rfl (vp_in_nI hj hN) d e
theorem g_cald (C : Cx k E cc own rm) (q0 : Nat) {a N : Nat} {f : Nat → Int32} {i : Int32} (j : Nat) (he : ws[q0]? = some (aC E a N f)) (hi : i = nI j) (hj : j < N) (hN : N < 2 ^ 31) (d : decode cc pc = .ok (.caload, 1)) (h : G k E n z (pc + 1) lv (.int (f j) :: st) ws) : G k E n z pc lv (.int i :: .ref a :: st) ws := by
  subst hi
  intro H locs ls hP hD hS hl
  have e := h H locs ls hP hD hS hl
  rw [← nI_clamp (show j < 2 ^ 31 by omega)] at e
  exact va_cald C.1 C.2.1 C.2.2.2.2.2.1 hP q0 2 he rfl (vp_in_nI hj hN) d e
theorem g_zald (C : Cx k E cc own rm) (q0 : Nat) {a N : Nat} {f : Nat → Int32} {i : Int32} (j : Nat) (he : ws[q0]? = some (aZ E a N f)) (hi : i = nI j) (hj : j < N) (hN : N < 2 ^ 31) (d : decode cc pc = .ok (.baload, 1)) (h : G k E n z (pc + 1) lv (.int (f j) :: st) ws) : G k E n z pc lv (.int i :: .ref a :: st) ws := by
  subst hi
  intro H locs ls hP hD hS hl
  have e := h H locs ls hP hD hS hl
  rw [← nI_clamp (show j < 2 ^ 31 by omega)] at e
  exact va_zald C.1 C.2.1 C.2.2.2.2.2.1 hP q0 1 he rfl (vp_in_nI hj hN) d e
theorem g_aald (C : Cx k E cc own rm) (q0 : Nat) {a N : Nat} {f : Nat → Option Nat} {i : Int32} {b : Nat} (j : Nat) (he : ws[q0]? = some (aM E a N f)) (hi : i = nI j) (hj : j < N) (hN : N < 2 ^ 31) (hb : f j = some b) (d : decode cc pc = .ok (.aaload, 1)) (h : G k E n z (pc + 1) lv (.ref b :: st) ws) : G k E n z pc lv (.int i :: .ref a :: st) ws := by
  subst hi
  intro H locs ls hP hD hS hl
  have e : W k.p k.l k.e k.R k.s k.m k.args k.below k.meth k.c H locs n z k.Q (F0 k.m (pc + 1) ls (va_rf (f (nI j).toNatClampNeg) :: st)) := by
    rw [nI_clamp (show j < 2 ^ 31 by omega), hb]
    exact h H locs ls hP hD hS hl
  exact va_aldq C.1 C.2.1 C.2.2.2.2.2.1 hP q0 3 he rfl (vp_in_nI hj hN) d e
theorem g_iast (C : Cx k E cc own rm) (q0 : Nat) {a N : Nat} {f : Nat → Int32} {i x : Int32} (j : Nat) {ws' : va_W} (he : ws[q0]? = some (aI E a N f)) (hi : i = nI j) (hj : j < N) (hN : N < 2 ^ 31) (hs : ws.set q0 (aI E a N (upd f j x)) = ws') (d : decode cc pc = .ok (.iastore, 1)) (h : G k E n z (pc + 1) lv st ws') : G k E n z pc lv (.int x :: .int i :: .ref a :: st) ws := by
  subst hi
  subst hs
  intro H locs ls hP hD hS hl
  refine va_iast C.1 C.2.1 C.2.2.2.2.2.1 hP hD hS q0 0 he rfl (vp_in_nI hj hN) d (fun H1 locs1 hP hD hS => ?_)
  rw [nI_clamp (show j < 2 ^ 31 by omega)] at hP hD
  exact h H1 locs1 ls hP hD hS hl
theorem g_cast (C : Cx k E cc own rm) (q0 : Nat) {a N : Nat} {f : Nat → Int32} {i x : Int32} (j : Nat) {ws' : va_W} (he : ws[q0]? = some (aC E a N f)) (hi : i = nI j) (hj : j < N) (hN : N < 2 ^ 31) (hx : vp_nar .char x = x) (hs : ws.set q0 (aC E a N (upd f j x)) = ws') (d : decode cc pc = .ok (.castore, 1)) (h : G k E n z (pc + 1) lv st ws') : G k E n z pc lv (.int x :: .int i :: .ref a :: st) ws := by
  subst hi
  subst hs
  intro H locs ls hP hD hS hl
  refine va_cast C.1 C.2.1 C.2.2.2.2.2.1 hP hD hS q0 2 he rfl (vp_in_nI hj hN) d (fun H1 locs1 hP hD hS => ?_)
  rw [nI_clamp (show j < 2 ^ 31 by omega), hx] at hP hD
  exact h H1 locs1 ls hP hD hS hl
theorem g_zast (C : Cx k E cc own rm) (q0 : Nat) {a N : Nat} {f : Nat → Int32} {i x : Int32} (j : Nat) {ws' : va_W} (he : ws[q0]? = some (aZ E a N f)) (hi : i = nI j) (hj : j < N) (hN : N < 2 ^ 31) (hx : vp_nar .boolean x = x) (hs : ws.set q0 (aZ E a N (upd f j x)) = ws') (d : decode cc pc = .ok (.bastore, 1)) (h : G k E n z (pc + 1) lv st ws') : G k E n z pc lv (.int x :: .int i :: .ref a :: st) ws := by
  subst hi
  subst hs
  intro H locs ls hP hD hS hl
  refine va_zast C.1 C.2.1 C.2.2.2.2.2.1 hP hD hS q0 1 he rfl (vp_in_nI hj hN) d (fun H1 locs1 hP hD hS => ?_)
  rw [nI_clamp (show j < 2 ^ 31 by omega), hx] at hP hD
  exact h H1 locs1 ls hP hD hS hl
theorem g_aast (C : Cx k E cc own rm) (q0 qk : Nat) {a N v : Nat} {f : Nat → Option Nat} {vs : List Value} {i : Int32} (j : Nat) {ws' : va_W} (he : ws[q0]? = some (aM E a N f)) (hv : ws[qk]? = some (v, .inr (4, vs))) (hi : i = nI j) (hj : j < N) (hN : N < 2 ^ 31) (hs : ws.set q0 (aM E a N (va_up f j (some v))) = ws') (d : decode cc pc = .ok (.aastore, 1)) (h : G k E n z (pc + 1) lv st ws') : G k E n z pc lv (.ref v :: .int i :: .ref a :: st) ws := by
  subst hi
  subst hs
  intro H locs ls hP hD hS hl
  refine va_astq C.1 C.2.1 C.2.2.2.2.2.1 hP hD hS q0 3 qk 4 (r := (RX4, TX4, 4)) he rfl hv rfl (vp_in_nI hj hN) d (fun H1 locs1 hP hD hS => ?_)
  rw [nI_clamp (show j < 2 ^ 31 by omega)] at hP hD
  exact h H1 locs1 ls hP hD hS hl
theorem g_alen (C : Cx k E cc own rm) (q0 : Nat) {a N : Nat} {f : Nat → Int32} (he : ws[q0]? = some (aI E a N f)) (d : decode cc pc = .ok (.arraylength, 1)) (h : G k E n z (pc + 1) lv (.int (nI N) :: st) ws) : G k E n z pc lv (.ref a :: st) ws :=
  fun H locs ls hP hD hS hl => va_alen C.1 C.2.1 C.2.2.2.2.2.1 hP q0 0 he rfl rfl d (h H locs ls hP hD hS hl)
theorem g_iret (C : Cx k E cc own rm) {post : Option Value → va_W → Prop} (hR : Rt k E post n z (some .int)) {v : Int32} (hp : post (some (.int v)) ws) (d : decode cc pc = .ok (.ireturn, 1)) : G k E n z pc lv [.int v] ws := by
  intro H locs ls hP hD hS hl
  rw [hR.1]
  exact W.iret C.1 C.2.1 hR.2 (fun t ht hW => ⟨⟨_, ws, rfl, hp, by rw [ht]; exact hP, va_K.moved hW.alike C.2.2.2.2.2.1, hD⟩, hS.F ht⟩) hS.2.2 d C.2.2.2.2.2.2.2.2.2
theorem g_zret (C : Cx k E cc own rm) {post : Option Value → va_W → Prop} (hR : Rt k E post n z (some .boolean)) {v : Int32} (hv : v = 0 ∨ v = 1) (hp : post (some (.int v)) ws) (d : decode cc pc = .ok (.ireturn, 1)) : G k E n z pc lv [.int v] ws := by
  intro H locs ls hP hD hS hl
  rw [hR.1]
  exact W.zret C.1 C.2.1 hR.2 (by rcases hv with rfl | rfl <;> rfl) (fun t ht hW => ⟨⟨_, ws, rfl, hp, by rw [ht]; exact hP, va_K.moved hW.alike C.2.2.2.2.2.1, hD⟩, hS.F ht⟩) hS.2.2 d C.2.2.2.2.2.2.2.2.2
theorem g_lret (C : Cx k E cc own rm) {post : Option Value → va_W → Prop} (hR : Rt k E post n z (some .long)) {v : Int64} (hp : post (some (.long v)) ws) (d : decode cc pc = .ok (.lreturn, 1)) : G k E n z pc lv [.long v] ws := by
  intro H locs ls hP hD hS hl
  rw [hR.1]
  exact W.lret C.1 C.2.1 hR.2 (fun t ht hW => ⟨⟨_, ws, rfl, hp, by rw [ht]; exact hP, va_K.moved hW.alike C.2.2.2.2.2.1, hD⟩, hS.F ht⟩) hS.2.2 d C.2.2.2.2.2.2.2.2.2
theorem g_vret (C : Cx k E cc own rm) {post : Option Value → va_W → Prop} (hR : Rt k E post n z none) (hp : post none ws) (d : decode cc pc = .ok (.return_, 1)) : G k E n z pc lv [] ws := by
  intro H locs ls hP hD hS hl
  rw [hR.1]
  exact W.vret C.1 C.2.1 hR.2 (fun t ht hW => ⟨⟨_, ws, rfl, hp, by rw [ht]; exact hP, va_K.moved hW.alike C.2.2.2.2.2.1, hD⟩, hS.F ht⟩) hS.2.2 d C.2.2.2.2.2.2.2.2.2
theorem PreC_blind {av : List Value} {wc : va_W} {sz : Nat} : FrameBlind (PreC E av wc sz) := fun a U g mk q => by
  obtain ⟨q0, q1, qP, qK, qD, qN⟩ := q
  exact ⟨q0, q1, qP, va_K.moved (u := U) (U := U.calling g mk a) (Vm.Alike.refl U.vm) qK, qD, NW.same rfl qN⟩
/-- behind a call: what every kind of call shares -/
theorem g_back (C : Cx k E cc own rm) {wc wr : va_W} {st0 rest : List Value} {mc ms : Nat} {post : Option Value → va_W → Prop} {a : Array Value} (isC isR : List Nat) (hC : isC.map (fun i => ws[i]?) = wc.map some) (hR : isR.map (fun i => ws[i]?) = wr.map some) (hnd : va_nd isR = true) (hdis : ∀ i ∈ isR, i ∉ isC)
    (hrun : ∀ (H : Heap) (locs : List Loc) (ls : Array Slot), va_P E.1 vwCl ws H → va_P E.1 vwCl wc H → (∀ U : State, U.heap = H → k.s.WarmedH U.vm → ∀ av : List Value, PreC E av wc H.size av.toArray U) → LV ls k.nL lv → va_Run k.p k.l k.e k.R k.s k.m k.args k.below k.meth k.c H locs n z mc ms (F0 k.m pc ls st0) rest (QcC E post (va_A wc H.size) a) (va_A wc H.size))
    (hnc : va_nd isC = true) (kk : ∀ (v : Option Value) (w : va_W), post v w → G k E (n + mc) (z + ms) (pc + 3) lv (v.toList ++ rest) (wr ++ w)) : G k E n z pc lv st0 ws := by
  intro H locs ls hP hD hS hl
  have hs2 : isC.filterMap (fun i => ws[i]?) = wc := by
    have e1 : isC.filterMap (fun i => ws[i]?) = (isC.map (fun i => ws[i]?)).filterMap id := by rw [List.filterMap_map]; rfl
    rw [e1, hC, List.filterMap_map]
    show wc.filterMap some = wc
    simp
  have hPc := hP.sub isC hs2
  have hDc := hD.sub isC hnc hC
  have hKc := C.2.2.2.2.2.1
  have hFc := va_free (wc := wc) hD hS C.2.2.2.2.2.2.1 isC hC
  intro T hT X
  obtain ⟨v, st₀, t, T', L, h0, X', hL, e1, e2, ⟨⟨v', w, hv, hp, hP1, hK1, hD1⟩, hz, hk⟩, go⟩ := hrun H locs ls hP hPc (fun U hU hW av => ⟨rfl, by rw [hU], by rw [hU]; exact hPc, va_K.moved hW.alike hKc, hDc.weaken (fun _ _ _ _ => trivial), NW.warm hW C.2.2.2.2.2.2.2.2.1⟩) hl T hT X
  cases hv
  rw [h0] at hz hk
  have hk1 : ∀ q : Nat, q < H.size → ¬ va_A wc H.size q → T'.heap[q]? = H[q]? := fun q h1 h2 => by rw [e1]; exact hk q h1 h2
  obtain ⟨hP2, hD2⟩ := va_join (wr := wr) (w1 := w) hP hD isC isR hC hR hnd hdis hk1 hFc (by rw [e1]; exact hP1) hD1
  have hS2 : va_S k.A k.s.heap T'.heap (locs ++ L) := by
    refine ⟨Nat.le_trans hS.1 (by rw [e1]; exact hz), fun q h1 h2 => ?_, fun q hq => ?_⟩
    · rw [hk1 q (Nat.lt_of_lt_of_le h1 hS.1) (fun h => h2 (hFc q h))]
      exact hS.2.1 q h1 h2
    · rcases List.mem_append.mp hq with h | h
      · exact hS.2.2 q h
      · exact hFc _ (hL q h)
  obtain ⟨t2, a1, b1⟩ := kk v w hp T'.heap (locs ++ L) ls hP2 hD2 hS2 hl T' rfl X'
  exact ⟨t2, go t2 a1, b1⟩
theorem g_callV (C : Cx k E cc own rm) {Cn : String} {i maxL na : Nat} {y : MethodName} {bytes : ByteArray} {ret : Option FieldType} {ry : Room} {b : Nat} {As rest : List Value} {wc wr : va_W} {mc ms : Nat} {post : Option Value → va_W → Prop} (hM : Ct k.l E y bytes maxL ret ry (.ref b :: As) wc post mc ms) (h1 : Cond.methodLink own i y ∈ allW) (h2 : Cond.instanceMethod y ∈ allW) (h3 : Cond.selects Cn y y ∈ allW) (h4 : Cond.initialized Cn ∈ allW) (h5 : Cond.code y bytes maxL ret ∈ allW) (hry : ry.cells = mc ∧ ry.slots = ms) (hd : y.cls = Cn ∧ y.cls ≠ "java/lang/invoke/MethodHandle" ∧ y.cls ≠ "java/lang/invoke/VarHandle" ∧ (parseMethodDescriptor y.desc).map (fun d => d.parameters.length) = some na) (hroom : ry.frames + 1 ≤ rm.frames ∧ 8 + (maxL + 11) + ry.locals ≤ rm.locals) (hmc : n + mc ≤ rm.cells ∧ z + ms ≤ rm.slots) (isC isR : List Nat) (hC : isC.map (fun i => ws[i]?) = wc.map some) (hR : isR.map (fun i => ws[i]?) = wr.map some) (hnd : va_nd isR = true) (hnc : va_nd isC = true) (hdis : ∀ i ∈ isR, i ∉ isC) (q0 ci : Nat) {fs : List Value} {Tt : u_T} {N : Nat} (hq : ws[q0]? = some (b, .inr (ci, fs))) (hcl : vwCl[ci]? = some (Cn, Tt, N)) (hn : As.length = na) (hst : st = As.reverse ++ .ref b :: rest) (hwd : (rest.map fun v => v.category).sum ≤ 8) (d : decode cc pc = .ok (.invokevirtual i, 3))
    (kk : ∀ (v : Option Value) (w : va_W), post v w → G k E (n + mc) (z + ms) (pc + 3) lv (v.toList ++ rest) (wr ++ w)) : G k E n z pc lv st ws := by
  subst hst
  have hrm := C.2.2.2.2.2.2.2.1
  refine g_back (a := (Value.ref b :: As).toArray) C isC isR hC hR hnd hdis (fun H locs ls hP hPc hpre hl => ?_) hnc kk
  exact va_runV (As := As) (rest := rest) ⟨C.1, C.2.1, C.2.2.1, C.2.2.2.1, C.2.2.2.2.1⟩ (hM H.size) (cwV na C.2.2.2.2.1 (goodW h1 h2 h3 h4 h5) rfl hry.1 hry.2 hd (by rw [hrm]; exact hroom)) ⟨PreC_blind, va_recv C.2.2.2.2.2.1 hP hcl hq, fun U hU hW => hpre U hU hW _⟩ rfl hn hl.1 rfl (lv_room hwd) d (by rw [hrm]; exact hmc)
theorem g_callS (C : Cx k E cc own rm) {i maxL na : Nat} {y : MethodName} {bytes : ByteArray} {ret : Option FieldType} {ry : Room} {As rest : List Value} {wc wr : va_W} {mc ms : Nat} {post : Option Value → va_W → Prop} (hM : Ct k.l E y bytes maxL ret ry As wc post mc ms) (h1 : Cond.methodLink own i y ∈ allW) (h2 : Cond.static y ∈ allW) (h4 : Cond.initialized y.cls ∈ allW) (h5 : Cond.code y bytes maxL ret ∈ allW) (hry : ry.cells = mc ∧ ry.slots = ms) (hd : y.cls ≠ "java/lang/invoke/MethodHandle" ∧ y.cls ≠ "java/lang/invoke/VarHandle" ∧ (parseMethodDescriptor y.desc).map (fun d => d.parameters.length) = some na) (hroom : ry.frames + 1 ≤ rm.frames ∧ 8 + (maxL + 11) + ry.locals ≤ rm.locals) (hmc : n + mc ≤ rm.cells ∧ z + ms ≤ rm.slots) (isC isR : List Nat) (hC : isC.map (fun i => ws[i]?) = wc.map some) (hR : isR.map (fun i => ws[i]?) = wr.map some) (hnd : va_nd isR = true) (hnc : va_nd isC = true) (hdis : ∀ i ∈ isR, i ∉ isC) (hn : As.length = na) (hst : st = As.reverse ++ rest) (hwd : (rest.map fun v => v.category).sum ≤ 8) (d : decode cc pc = .ok (.invokestatic i, 3))
    (kk : ∀ (v : Option Value) (w : va_W), post v w → G k E (n + mc) (z + ms) (pc + 3) lv (v.toList ++ rest) (wr ++ w)) : G k E n z pc lv st ws := by
  subst hst
  have hrm := C.2.2.2.2.2.2.2.1
  refine g_back (a := As.toArray) C isC isR hC hR hnd hdis (fun H locs ls hP hPc hpre hl => ?_) hnc kk
  exact va_runS (As := As) (rest := rest) ⟨C.1, C.2.1, C.2.2.1, C.2.2.2.1, C.2.2.2.2.1⟩ (hM H.size) (va_cwS na C.2.2.2.2.1 (goodS h1 h2 h4 h5) rfl hry.1 hry.2 hd (by rw [hrm]; exact hroom)) ⟨PreC_blind, fun U hU hW => hpre U hU hW _⟩ rfl hn hl.1 rfl (lv_room hwd) d (by rw [hrm]; exact hmc)
theorem g_callSN (C : Cx k E cc own rm) {i maxL na : Nat} {y : MethodName} {bytes : ByteArray} {ret : Option FieldType} {ry : Room} {As rest : List Value} {wc wr : va_W} {mc ms : Nat} {post : Option Value → va_W → Prop} (hM : Ct k.l E y bytes maxL ret ry As wc post mc ms) (h5 : Cond.code y bytes maxL ret ∈ allW) (hnest : (own, i, y, "CoilStairs") ∈ nestL) (hini : Cond.initialized y.cls ∈ allW) (hstat : Cond.static y ∈ allW) (hry : ry.cells = mc ∧ ry.slots = ms) (hd : y.cls ≠ "java/lang/invoke/MethodHandle" ∧ y.cls ≠ "java/lang/invoke/VarHandle" ∧ (parseMethodDescriptor y.desc).map (fun d => d.parameters.length) = some na) (hroom : ry.frames + 1 ≤ rm.frames ∧ 8 + (maxL + 11) + ry.locals ≤ rm.locals) (hmc : n + mc ≤ rm.cells ∧ z + ms ≤ rm.slots) (isC isR : List Nat) (hC : isC.map (fun i => ws[i]?) = wc.map some) (hR : isR.map (fun i => ws[i]?) = wr.map some) (hnd : va_nd isR = true) (hnc : va_nd isC = true) (hdis : ∀ i ∈ isR, i ∉ isC) (hn : As.length = na) (hst : st = As.reverse ++ rest) (hwd : (rest.map fun v => v.category).sum ≤ 8) (d : decode cc pc = .ok (.invokestatic i, 3))
    (kk : ∀ (v : Option Value) (w : va_W), post v w → G k E (n + mc) (z + ms) (pc + 3) lv (v.toList ++ rest) (wr ++ w)) : G k E n z pc lv st ws := by
  subst hst
  have hrm := C.2.2.2.2.2.2.2.1
  refine g_back (a := As.toArray) C isC isR hC hR hnd hdis (fun H locs ls hP hPc hpre hl => ?_) hnc kk
  exact va_runSN (As := As) (rest := rest) ⟨C.1, C.2.1, C.2.2.1, C.2.2.2.1, C.2.2.2.2.1⟩ (hM H.size) ⟨va_cnB na C.2.2.2.2.1 (goodC h5) rfl hry.1 hry.2 (C.2.2.2.2.2.2.2.2.1.1 _ hnest) (C.2.2.2.2.1 _ hini) hd (by rw [hrm]; exact hroom), C.2.2.2.2.1 _ hstat, trivial⟩ ⟨PreC_blind, fun U hU hW => hpre U hU hW _⟩ rfl hn hl.1 rfl (lv_room hwd) d (by rw [hrm]; exact hmc)
theorem g_callI (C : Cx k E cc own rm) {i maxL na : Nat} {y : MethodName} {bytes : ByteArray} {ry : Room} {b : Nat} {As rest : List Value} {wc wr : va_W} {mc ms : Nat} {post : Option Value → va_W → Prop} (hM : Ct k.l E y bytes maxL none ry (.ref b :: As) wc post mc ms) (h5 : Cond.code y bytes maxL none ∈ allW) (hini : Cond.initialized y.cls ∈ allW) (hlink : Cond.methodLink own i y ∈ allW) (hinst : Cond.instanceMethod y ∈ allW) (hy1 : y.name = "<init>") (hry : ry.cells = mc ∧ ry.slots = ms) (hd : y.cls ≠ "java/lang/invoke/MethodHandle" ∧ y.cls ≠ "java/lang/invoke/VarHandle" ∧ (parseMethodDescriptor y.desc).map (fun d => d.parameters.length) = some na) (hroom : ry.frames + 1 ≤ rm.frames ∧ 8 + (maxL + 11) + ry.locals ≤ rm.locals) (hmc : n + mc ≤ rm.cells ∧ z + ms ≤ rm.slots) (isC isR : List Nat) (hC : isC.map (fun i => ws[i]?) = wc.map some) (hR : isR.map (fun i => ws[i]?) = wr.map some) (hnd : va_nd isR = true) (hnc : va_nd isC = true) (hdis : ∀ i ∈ isR, i ∉ isC) (hn : As.length = na) (hst : st = As.reverse ++ .ref b :: rest) (hwd : (rest.map fun v => v.category).sum ≤ 8) (d : decode cc pc = .ok (.invokespecial i, 3))
    (kk : ∀ (v : Option Value) (w : va_W), post v w → G k E (n + mc) (z + ms) (pc + 3) lv (v.toList ++ rest) (wr ++ w)) : G k E n z pc lv st ws := by
  subst hst
  have hrm := C.2.2.2.2.2.2.2.1
  refine g_back (a := (Value.ref b :: As).toArray) C isC isR hC hR hnd hdis (fun H locs ls hP hPc hpre hl => ?_) hnc kk
  exact va_runI (As := As) (rest := rest) ⟨C.1, C.2.1, C.2.2.1, C.2.2.2.1, C.2.2.2.2.1⟩ (hM H.size) (cwI na C.2.2.2.2.1 (goodC h5) rfl hry.1 hry.2 (C.2.2.2.2.1 _ hini) (C.2.2.2.2.1 _ hlink) (C.2.2.2.2.1 _ hinst) hy1 hd (by rw [hrm]; exact hroom)) ⟨PreC_blind, fun U hU hW => hpre U hU hW _⟩ rfl hn hl.1 rfl (lv_room hwd) d (by rw [hrm]; exact hmc)
theorem g_callIN (C : Cx k E cc own rm) {i maxL na : Nat} {y : MethodName} {bytes : ByteArray} {ry : Room} {b : Nat} {As rest : List Value} {wc wr : va_W} {mc ms : Nat} {post : Option Value → va_W → Prop} (hM : Ct k.l E y bytes maxL none ry (.ref b :: As) wc post mc ms) (h5 : Cond.code y bytes maxL none ∈ allW) (hnest : (own, i, y, "CoilStairs") ∈ nestL) (hini : Cond.initialized y.cls ∈ allW) (hinst : Cond.instanceMethod y ∈ allW) (hy1 : y.name = "<init>") (hry : ry.cells = mc ∧ ry.slots = ms) (hd : y.cls ≠ "java/lang/invoke/MethodHandle" ∧ y.cls ≠ "java/lang/invoke/VarHandle" ∧ (parseMethodDescriptor y.desc).map (fun d => d.parameters.length) = some na) (hroom : ry.frames + 1 ≤ rm.frames ∧ 8 + (maxL + 11) + ry.locals ≤ rm.locals) (hmc : n + mc ≤ rm.cells ∧ z + ms ≤ rm.slots) (isC isR : List Nat) (hC : isC.map (fun i => ws[i]?) = wc.map some) (hR : isR.map (fun i => ws[i]?) = wr.map some) (hnd : va_nd isR = true) (hnc : va_nd isC = true) (hdis : ∀ i ∈ isR, i ∉ isC) (hn : As.length = na) (hst : st = As.reverse ++ .ref b :: rest) (hwd : (rest.map fun v => v.category).sum ≤ 8) (d : decode cc pc = .ok (.invokespecial i, 3))
    (kk : ∀ (v : Option Value) (w : va_W), post v w → G k E (n + mc) (z + ms) (pc + 3) lv (v.toList ++ rest) (wr ++ w)) : G k E n z pc lv st ws := by
  subst hst
  have hrm := C.2.2.2.2.2.2.2.1
  refine g_back (a := (Value.ref b :: As).toArray) C isC isR hC hR hnd hdis (fun H locs ls hP hPc hpre hl => ?_) hnc kk
  exact va_runIN (As := As) (rest := rest) ⟨C.1, C.2.1, C.2.2.1, C.2.2.2.1, C.2.2.2.2.1⟩ (hM H.size) ⟨va_cnB na C.2.2.2.2.1 (goodC h5) rfl hry.1 hry.2 (C.2.2.2.2.2.2.2.2.1.1 _ hnest) (C.2.2.2.2.1 _ hini) hd (by rw [hrm]; exact hroom), hy1, C.2.2.2.2.1 _ hinst⟩ ⟨PreC_blind, fun U hU hW => hpre U hU hW _⟩ rfl hn hl.1 rfl (lv_room hwd) d (by rw [hrm]; exact hmc)
end GL
abbrev rmL (d c s : Nat) : Room := { frames := d, cells := c, slots := s, locals := 64 * d }
def bI (P : Prop) [Decidable P] : Int32 := if P then 1 else 0
theorem bI01 (P : Prop) [Decidable P] : bI P = 0 ∨ bI P = 1 := by unfold bI; split <;> simp
theorem bI_t {P : Prop} [Decidable P] (h : P) : bI P = 1 := if_pos h
theorem bI_f {P : Prop} [Decidable P] (h : ¬ P) : bI P = 0 := if_neg h
theorem bI_0 {P : Prop} [Decidable P] (h : bI P = 0) : ¬ P := fun q => by rw [bI_t q] at h; exact absurd h (by decide)
theorem bI_1 {P : Prop} [Decidable P] (h : ¬ bI P = 0) : P := Decidable.byContradiction fun q => h (bI_f q)
section GM
variable {k : KX} {E : EX} {cc : ByteArray} {own : String} {rm : Room} {n z pc : Nat} {lv : List (Option Value)} {st : List Value} {ws : va_W}
theorem g_re {ws' : va_W} {st' : List Value} {n' z' pc' : Nat} (e1 : ws = ws') (e2 : st = st') (e3 : (n, z) = (n', z')) (e4 : pc = pc') (h : G k E n' z' pc' lv st' ws') : G k E n z pc lv st ws := by
  subst e1; subst e2; subst e4
  cases e3
  exact h
theorem g_rep (is : List Nat) {ws' : va_W} {st' : List Value} {n' z' pc' : Nat} (e2 : st = st') (e3 : n = n') (e3' : z = z') (e4 : pc = pc') (hn : va_nd is = true) (hs : is.map (fun i => ws[i]?) = ws'.map some) (h : G k E n' z' pc' lv st' ws') : G k E n z pc lv st ws := by
  subst e2; subst e3; subst e3'; subst e4
  exact g_perm is hn hs h
theorem g_dup2 (C : Cx k E cc own rm) {va vb : Value} (d : decode cc pc = .ok (.dup2, 1)) (hva : va.category = 1) (hvb : vb.category = 1) (h : G k E n z (pc + 1) lv (va :: vb :: va :: vb :: st) ws) : G k E n z pc lv (va :: vb :: st) ws :=
  fun H locs ls hP hD hS hl => lv_dup2_11 C.1 C.2.1 d hva hvb (h H locs ls hP hD hS hl)
theorem g_lcmp (C : Cx k E cc own rm) {x y : Int64} (d : decode cc pc = .ok (.lcmp, 1)) (h : G k E n z (pc + 1) lv (.int (lg_cmp x y) :: st) ws) : G k E n z pc lv (.long y :: .long x :: st) ws :=
  fun H locs ls hP hD hS hl => W.lcmp C.1 C.2.1 d (h H locs ls hP hD hS hl)
theorem g_lookup (C : Cx k E cc own rm) {dflt : Int} {ps : Array (Int × Int)} {len : Nat} {x : Int32} {off : Int} {tgt : Nat} (d : decode cc pc = .ok (.lookupswitch dflt ps, len)) (hp : (ps.toList.zip (ps.toList.drop 1)).all (fun (a, next) => a.1 < next.1) = true) (ho : Op.lookupswitch.offset ps.toList dflt x.toInt = off) (ht : (pc : Int) + off = (tgt : Int)) (h : G k E n z tgt lv st ws) : G k E n z pc lv (.int x :: st) ws :=
  fun H locs ls hP hD hS hl => lv_lookup C.1 C.2.1 d hp ho ht (h H locs ls hP hD hS hl)
theorem g_tout (C : Cx k E cc own rm) {dflt lo hi : Int} {offs : Array Int} {len : Nat} {x : Int32} {tgt : Nat} (d : decode cc pc = .ok (.tableswitch dflt lo hi offs, len)) (hx : x.toInt < lo ∨ hi < x.toInt) (ht : (pc : Int) + dflt = (tgt : Int)) (h : G k E n z tgt lv st ws) : G k E n z pc lv (.int x :: st) ws :=
  fun H locs ls hP hD hS hl => lv_tableOut C.1 C.2.1 d hx ht (h H locs ls hP hD hS hl)
theorem g_tin (C : Cx k E cc own rm) {dflt lo hi : Int} {offs : Array Int} {len : Nat} {x : Int32} {off : Int} {tgt : Nat} (d : decode cc pc = .ok (.tableswitch dflt lo hi offs, len)) (h1 : ¬ x.toInt < lo) (h2 : ¬ hi < x.toInt) (ho : offs[(x.toInt - lo).toNat]? = some off) (ht : (pc : Int) + off = (tgt : Int)) (h : G k E n z tgt lv st ws) : G k E n z pc lv (.int x :: st) ws :=
  fun H locs ls hP hD hS hl => lv_tableIn C.1 C.2.1 d h1 h2 ho ht (h H locs ls hP hD hS hl)
theorem g_obj (C : Cx k E cc own rm) {i a : Nat} (h1 : Cond.methodLink own i objectInit ∈ allW) (hf : 1 ≤ rm.frames) (hlo : (st.map fun v => v.category).sum + 12 ≤ rm.locals) (d : decode cc pc = .ok (.invokespecial i, 3)) (h : G k E n z (pc + 3) lv st ws) : G k E n z pc lv (.ref a :: st) ws :=
  fun H locs ls hP hD hS hl => W.objInit C.1 C.2.1 C.2.2.2.1 (C.2.2.2.2.1 _ h1) (C.2.2.2.2.1 _ kiObj_init) (C.2.2.2.2.1 _ kcObj_init) rfl (by rw [C.2.2.1]; exact hl.1) rfl d (by rw [C.2.2.2.2.2.2.2.1]; exact hf) (by rw [C.2.2.2.2.2.2.2.1]; show 2 * 0 + _ + 12 ≤ _; omega) (h H locs ls hP hD hS hl)
theorem g_copy (C : Cx k E cc own rm) {i : Nat} (h1 : Cond.methodLink own i arraycopyName ∈ allW) (q0 q1 : Nat) {a0 a1 n0 n1 : Nat} {f g : Nat → Int32} {ws' : va_W} (he0 : ws[q0]? = some (aI E a0 n0 f)) (he1 : ws[q1]? = some (aI E a1 n1 g)) (c0 : Nat) {x : Int32} (hx : x = nI c0) (hc : c0 < 2 ^ 31) (hc0 : c0 ≤ n0) (hc1 : c0 ≤ n1) (hs : ws.set q1 (aI E a1 n1 (va_cpy f g 0 0 c0)) = ws') (hf : 1 ≤ rm.frames) (hlo : (st.map fun v => v.category).sum + (nativeFrameWords "java/lang/System" "arraycopy" 5 + 11) ≤ rm.locals) (d : decode cc pc = .ok (.invokestatic i, 3)) (h : G k E n z (pc + 3) lv st ws') : G k E n z pc lv (.int x :: .int 0 :: .ref a1 :: .int 0 :: .ref a0 :: st) ws := by
  subst hx
  subst hs
  intro H locs ls hP hD hS hl
  have hn : ¬ nI c0 < 0 := by
    rw [Int32.lt_iff_toInt_lt, nI_toInt hc]
    have h0 : (0 : Int32).toInt = 0 := by decide
    omega
  refine va_copyi (sp := 0) (dp := 0) (n := nI c0) (ty := .int) C.1 C.2.1 (by rw [C.2.2.1]; exact hl.1.symm) C.2.2.2.1 (C.2.2.2.2.1 _ h1) (C.2.2.2.2.1 _ kvSys_arraycopy) (C.2.2.2.2.1 _ ktSys_arraycopy) (C.2.2.2.2.1 _ knSys) C.2.2.2.2.2.1 hP hD hS q0 q1 0 0 he0 he1 rfl rfl rfl (by decide) (by decide) hn (by rw [nI_clamp hc]; show 0 + c0 ≤ n0; omega) (by rw [nI_clamp hc]; show 0 + c0 ≤ n1; omega) (fun _ _ => rfl) (by rw [C.2.2.2.2.2.2.2.1]; exact hf) (by rw [C.2.2.2.2.2.2.2.1]; exact hlo) d (fun H1 locs1 hP hD hS => ?_)
  rw [nI_clamp hc] at hP hD
  exact h H1 locs1 ls hP hD hS hl
theorem g_max (C : Cx k E cc own rm) {i : Nat} {x y : Int32} (h1 : Cond.methodLink own i Lib.Math.max.name ∈ allW) (hf : 1 ≤ rm.frames) (hlo : (st.map fun v => v.category).sum + 13 ≤ rm.locals) (hn : n ≤ rm.cells ∧ z ≤ rm.slots) (d : decode cc pc = .ok (.invokestatic i, 3)) (h : G k E n z (pc + 3) lv (.int (if x < y then y else x) :: st) ws) : G k E n z pc lv (.int y :: .int x :: st) ws := by
  intro H locs ls hP hD hS hl
  have hrm := C.2.2.2.2.2.2.2.1
  exact va_mmax C.1 C.2.1 (by rw [C.2.2.1]; exact hl.1.symm) C.2.2.2.1 (C.2.2.2.2.1 _ h1) (C.2.2.2.2.1 _ ktMath_max) (C.2.2.2.2.1 _ knMath) (C.2.2.2.2.1 _ kcMath_max) (by rw [hrm]; exact hf) (by rw [hrm]; exact hlo) (by rw [hrm]; exact hn.1) (by rw [hrm]; exact hn.2) d (h H locs ls hP hD hS hl)
theorem g_min (C : Cx k E cc own rm) {i : Nat} {x y : Int32} (h1 : Cond.methodLink own i Lib.Math.min.name ∈ allW) (hf : 1 ≤ rm.frames) (hlo : (st.map fun v => v.category).sum + 13 ≤ rm.locals) (hn : n ≤ rm.cells ∧ z ≤ rm.slots) (d : decode cc pc = .ok (.invokestatic i, 3)) (h : G k E n z (pc + 3) lv (.int (if y < x then y else x) :: st) ws) : G k E n z pc lv (.int y :: .int x :: st) ws := by
  intro H locs ls hP hD hS hl
  have hrm := C.2.2.2.2.2.2.2.1
  exact va_mmin C.1 C.2.1 (by rw [C.2.2.1]; exact hl.1.symm) C.2.2.2.1 (C.2.2.2.2.1 _ h1) (C.2.2.2.2.1 _ ktMath_min) (C.2.2.2.2.1 _ knMath) (C.2.2.2.2.1 _ kcMath_min) (by rw [hrm]; exact hf) (by rw [hrm]; exact hlo) (by rw [hrm]; exact hn.1) (by rw [hrm]; exact hn.2) d (h H locs ls hP hD hS hl)
theorem g_new (C : Cx k E cc own rm) {Cn : String} {T : u_T} {N ci i : Nat} (hin : ∀ w ∈ u_ws Cn T N, w ∈ allW) (ty : Nat → FieldType) (hty : ∀ k, k < N → parseFieldDescriptor (T k).2.2.1 = some (ty k)) (h1 : Cond.classLink own i Cn ∈ allW) (h2 : Cond.instantiable Cn N ∈ allW) (h3 : Cond.initialized Cn ∈ allW) (hc : vwCl[ci]? = some (Cn, T, N)) {fs : List Value} (hfs : ∀ j, j < N → defaultValue (ty j) = vp_V fs j) (hcells : n + 1 ≤ rm.cells) (hslots : z + N ≤ rm.slots) (d : decode cc pc = .ok (.new i, 3)) (h : ∀ q : Nat, G k E (n + 1) (z + N) (pc + 3) lv (.ref q :: st) (ws ++ [(q, .inr (ci, fs))])) : G k E n z pc lv st ws := by
  intro H locs ls hP hD hS hl
  have hrm := C.2.2.2.2.2.2.2.1
  exact va_new C.1 C.2.1 C.2.2.2.2.1 hin ty hty C.2.2.2.1 (C.2.2.2.2.1 _ h1) (C.2.2.2.2.1 _ h2) (C.2.2.2.2.1 _ h3) C.2.2.2.2.2.1 hP hD hS C.2.2.2.2.2.2.1 hc hfs (by rw [hrm]; exact hcells) (by rw [hrm]; exact hslots) d (fun q H1 hP hD hS => h q H1 locs ls hP hD hS hl)
theorem g_newI (C : Cx k E cc own rm) {x : Int32} (c0 : Nat) (hx : x = nI c0) (hc : c0 < 134217728) (hcells : n + 1 ≤ rm.cells) (hslots : z + c0 ≤ rm.slots) (d : decode cc pc = .ok (.newarray .int, 2)) (h : ∀ q : Nat, G k E (n + 1) (z + c0) (pc + 2) lv (.ref q :: st) (ws ++ [aI E q c0 (fun _ => 0)])) : G k E n z pc lv (.int x :: st) ws := by
  subst hx
  intro H locs ls hP hD hS hl
  have hrm := C.2.2.2.2.2.2.2.1
  have hn : ¬ nI c0 < 0 := by
    rw [Int32.lt_iff_toInt_lt, nI_toInt (by omega)]
    have h0 : (0 : Int32).toInt = 0 := by decide
    omega
  refine va_newa (atype := .int) (ty := .int) (N' := c0) (a0 := (c0, .inl (fun _ => 0))) C.1 C.2.1 (C.2.2.2.2.1 _ ka_int) rfl C.2.2.2.2.2.1 hP hD hS C.2.2.2.2.2.2.1 (fun _ => rfl) hn (nI_clamp (by omega)) (by show c0 * 4 ≤ 536870912; omega) (by rw [hrm]; exact hcells) (by rw [hrm]; exact hslots) d (fun q cA H1 hK hP hD hS => ?_)
  have e1 : k.s.vm.findClass ("[" ++ FieldType.int.toString) = some cA := (hK.2 4 _ rfl).2
  have e2 : k.s.vm.findClass ("[" ++ FieldType.int.toString) = some E.2.1 := (hK.2 0 _ rfl).2
  have e3 : cA = E.2.1 := Option.some.inj (e1.symm.trans e2)
  subst e3
  exact h q H1 locs ls hP hD hS hl
theorem g_newZ (C : Cx k E cc own rm) {x : Int32} (c0 : Nat) (hx : x = nI c0) (hc : c0 < 134217728) (hcells : n + 1 ≤ rm.cells) (hslots : z + c0 ≤ rm.slots) (d : decode cc pc = .ok (.newarray .boolean, 2)) (h : ∀ q : Nat, G k E (n + 1) (z + c0) (pc + 2) lv (.ref q :: st) (ws ++ [aZ E q c0 (fun _ => 0)])) : G k E n z pc lv (.int x :: st) ws := by
  subst hx
  intro H locs ls hP hD hS hl
  have hrm := C.2.2.2.2.2.2.2.1
  have hn : ¬ nI c0 < 0 := by
    rw [Int32.lt_iff_toInt_lt, nI_toInt (by omega)]
    have h0 : (0 : Int32).toInt = 0 := by decide
    omega
  refine va_newa (atype := .boolean) (ty := .boolean) (N' := c0) (a0 := (c0, .inl (fun _ => 0))) C.1 C.2.1 (C.2.2.2.2.1 _ ka_boolean) rfl C.2.2.2.2.2.1 hP hD hS C.2.2.2.2.2.2.1 (fun _ => rfl) hn (nI_clamp (by omega)) (by show c0 * 1 ≤ 536870912; omega) (by rw [hrm]; exact hcells) (by rw [hrm]; exact hslots) d (fun q cA H1 hK hP hD hS => ?_)
  have e1 : k.s.vm.findClass ("[" ++ FieldType.boolean.toString) = some cA := (hK.2 4 _ rfl).2
  have e2 : k.s.vm.findClass ("[" ++ FieldType.boolean.toString) = some E.2.2.1 := (hK.2 1 _ rfl).2
  have e3 : cA = E.2.2.1 := Option.some.inj (e1.symm.trans e2)
  subst e3
  exact h q H1 locs ls hP hD hS hl
theorem g_newC (C : Cx k E cc own rm) {x : Int32} (c0 : Nat) (hx : x = nI c0) (hc : c0 < 134217728) (hcells : n + 1 ≤ rm.cells) (hslots : z + c0 ≤ rm.slots) (d : decode cc pc = .ok (.newarray .char, 2)) (h : ∀ q : Nat, G k E (n + 1) (z + c0) (pc + 2) lv (.ref q :: st) (ws ++ [aC E q c0 (fun _ => 0)])) : G k E n z pc lv (.int x :: st) ws := by
  subst hx
  intro H locs ls hP hD hS hl
  have hrm := C.2.2.2.2.2.2.2.1
  have hn : ¬ nI c0 < 0 := by
    rw [Int32.lt_iff_toInt_lt, nI_toInt (by omega)]
    have h0 : (0 : Int32).toInt = 0 := by decide
    omega
  refine va_newa (atype := .char) (ty := .char) (N' := c0) (a0 := (c0, .inl (fun _ => 0))) C.1 C.2.1 (C.2.2.2.2.1 _ ka_char) rfl C.2.2.2.2.2.1 hP hD hS C.2.2.2.2.2.2.1 (fun _ => rfl) hn (nI_clamp (by omega)) (by show c0 * 2 ≤ 536870912; omega) (by rw [hrm]; exact hcells) (by rw [hrm]; exact hslots) d (fun q cA H1 hK hP hD hS => ?_)
  have e1 : k.s.vm.findClass ("[" ++ FieldType.char.toString) = some cA := (hK.2 4 _ rfl).2
  have e2 : k.s.vm.findClass ("[" ++ FieldType.char.toString) = some E.2.2.2.1 := (hK.2 2 _ rfl).2
  have e3 : cA = E.2.2.2.1 := Option.some.inj (e1.symm.trans e2)
  subst e3
  exact h q H1 locs ls hP hD hS hl
theorem g_newM (C : Cx k E cc own rm) {x : Int32} {i : Nat} (c0 : Nat) (hx : x = nI c0) (hc : c0 < 134217728) (h1 : Cond.classLink own i "CoilStairs$Moment" ∈ allW) (hcells : n + 1 ≤ rm.cells) (hslots : z + c0 ≤ rm.slots) (d : decode cc pc = .ok (.anewarray i, 3)) (h : ∀ q : Nat, G k E (n + 1) (z + c0) (pc + 3) lv (.ref q :: st) (ws ++ [aM E q c0 (fun _ => none)])) : G k E n z pc lv (.int x :: st) ws := by
  subst hx
  intro H locs ls hP hD hS hl
  have hrm := C.2.2.2.2.2.2.2.1
  have hn : ¬ nI c0 < 0 := by
    rw [Int32.lt_iff_toInt_lt, nI_toInt (by omega)]
    have h0 : (0 : Int32).toInt = 0 := by decide
    omega
  refine va_newq (C := "CoilStairs$Moment") (N' := c0) C.1 C.2.1 C.2.2.2.1 (C.2.2.2.2.1 _ h1) C.2.2.2.2.2.2.2.2.1.2 C.2.2.2.2.2.1 hP hD hS C.2.2.2.2.2.2.1 hn (nI_clamp (by omega)) (by omega) (by rw [hrm]; exact hcells) (by rw [hrm]; exact hslots) d (fun q cA H1 hK hP hD hS => ?_)
  obtain ⟨-, -, -, -, -, e1⟩ : va_RA k.s cA (.object "CoilStairs$Moment") := (hK.2 4 _ rfl).2
  obtain ⟨-, -, -, -, -, e2⟩ : va_RA k.s E.2.2.2.2 (.object "CoilStairs$Moment") := (hK.2 3 _ rfl).2
  have e3 : cA = E.2.2.2.2 := Option.some.inj (e1.symm.trans e2)
  subst e3
  exact h q H1 locs ls hP hD hS hl
end GM
end
section
/-! ===== numbers ===== -/
theorem i0_toInt : (0 : Int32).toInt = 0 := by decide
theorem nI_nonneg (a : Nat) (ha : a < 2 ^ 31) : (0 : Int32) ≤ nI a := by rw [Int32.le_iff_toInt_le, nI_toInt ha, i0_toInt]; omega
theorem nI_of_le {x : Int32} (h : 0 ≤ x) : ∃ j : Nat, j < 2 ^ 31 ∧ x = nI j := nI_of (fun q => by rw [Int32.le_iff_toInt_le, i0_toInt] at h; rw [Int32.lt_iff_toInt_lt, i0_toInt] at q; omega)
theorem nx_pred (a : Nat) : nI (a + 1) - 1 = nI a := by rw [nI_succ, Int32.add_sub_cancel]
theorem in_iff {x : Int32} {n : Nat} (hn : n < 2 ^ 31) : (0 ≤ x ∧ x ≤ nI n) ↔ ∃ j : Nat, j ≤ n ∧ x = nI j := by
  constructor
  · rintro ⟨h1, h2⟩
    obtain ⟨j, hj, rfl⟩ := nI_of_le h1
    exact ⟨j, (nI_leI hj hn).mp h2, rfl⟩
  · rintro ⟨j, hj, rfl⟩
    exact ⟨nI_nonneg j (by omega), (nI_leI (by omega) hn).mpr hj⟩
theorem has_iff {x : Int32} {n : Nat} (hn : n < 2 ^ 31) : (0 ≤ x ∧ x ≤ nI n - 1) ↔ ∃ j : Nat, j < n ∧ x = nI j := by
  cases n with
  | zero =>
    constructor
    · rintro ⟨h1, h2⟩
      rw [Int32.le_iff_toInt_le] at h1 h2
      have e1 : (nI 0 - 1).toInt = -1 := by decide
      rw [e1] at h2
      rw [i0_toInt] at h1
      omega
    · rintro ⟨j, hj, -⟩
      omega
  | succ m =>
    rw [nx_pred, in_iff (by omega)]
    constructor
    · rintro ⟨j, hj, e⟩
      exact ⟨j, by omega, e⟩
    · rintro ⟨j, hj, e⟩
      exact ⟨j, by omega, e⟩
theorem has_t {a n : Nat} (h : a < n) (hn : n < 2 ^ 31) : 0 ≤ nI a ∧ nI a ≤ nI n - 1 := (has_iff hn).mpr ⟨a, h, rfl⟩
theorem has_nat {a n : Nat} (ha : a < 2 ^ 31) (hn : n < 2 ^ 31) (h : 0 ≤ nI a ∧ nI a ≤ nI n - 1) : a < n := by
  obtain ⟨j, hj, e⟩ := (has_iff hn).mp h
  rw [nI_eq ha (by omega)] at e
  omega
theorem nx_ge {a b : Nat} (ha : a < 2 ^ 31) (hb : b < 2 ^ 31) (h : nI a ≤ nI b) : a ≤ b := (nI_leI ha hb).mp h
theorem nx_nge {a b : Nat} (ha : a < 2 ^ 31) (hb : b < 2 ^ 31) (h : ¬ nI a ≤ nI b) : b < a := Nat.not_le.mp fun q => h ((nI_leI ha hb).mpr q)
theorem nx_nlt {a b : Nat} (ha : a < 2 ^ 31) (hb : b < 2 ^ 31) (h : ¬ nI a < nI b) : b ≤ a := Nat.not_lt.mp fun q => h ((nI_ltI ha hb).mpr q)
theorem nx_succ_ne {a : Nat} (h : a + 1 < 2 ^ 31) : ¬ nI a + 1 = 0 := fun e => by
  rw [← nI_succ] at e
  have : nI (a + 1) = nI 0 := e
  rw [nI_eq h (by decide)] at this
  omega
theorem min10 {a : Nat} (h : a ≤ 10) : (if nI a + 1 < 10 then nI a + 1 else 10) = nI (if a + 1 < 10 then a + 1 else 10) := by
  have e : (nI a + 1 < 10) = (nI (a + 1) < nI 10) := by rw [nI_succ]; rfl
  have e2 : (nI (a + 1) < nI 10) ↔ a + 1 < 10 := nI_ltI (by omega) (by decide)
  by_cases h9 : a + 1 < 10
  · rw [if_pos h9, if_pos (by rw [e]; exact e2.mpr h9), nI_succ]
  · rw [if_neg h9, if_neg (by rw [e]; exact fun q => h9 (e2.mp q))]; rfl
/-! ===== the walk down ===== -/
def asV (x : Int32) : Int32 := if x < 0 then 0 else if 99 < x then 99 else x
def landF (hi de ma : Nat → Int32) (lg dr : Int32) : Nat → Nat → Int32 → Int32 → Nat × Int32 × Int32
  | 0, a, _, sl => (a, 0, sl)
  | f + 1, a, v, sl => if asV (v - ma a) ≤ lg + de a then (a, asV (v - ma a), sl) else landF hi de ma lg dr f (a + 1) (asV (asV (v - ma a) + hi a - 2 * dr - 1)) (sl ||| 1 <<< (nI a &&& 31))
def turnF (n : Nat) (hi de ma : Nat → Int32) (lg st dr : Int32) (a : Nat) (v sl : Int32) : Nat × Int32 × Int32 :=
  if st ≤ v then landF hi de ma lg dr (n - (a + 1)) (a + 1) (asV (v - st + hi a - dr)) sl else (a, 0, sl)
/-- place, vigour, slips, flips -/
def runF (n : Nat) (hi de ma : Nat → Int32) (lg st dr : Int32) : Nat → Nat → Int32 → Int32 → Int32 → Nat × Int32 × Int32 × Int32
  | 0, a, v, sl, c => (a, v, sl, c)
  | f + 1, a, v, sl, c => if 0 < v ∧ a < n then runF n hi de ma lg st dr f (turnF n hi de ma lg st dr a v sl).1 (turnF n hi de ma lg st dr a v sl).2.1 (turnF n hi de ma lg st dr a v sl).2.2 (c + 1) else (a, v, sl, c)
theorem landF_le {hi de ma : Nat → Int32} {lg dr : Int32} : ∀ (f a : Nat) (v sl : Int32), a ≤ (landF hi de ma lg dr f a v sl).1 ∧ (landF hi de ma lg dr f a v sl).1 ≤ a + f
  | 0, a, v, sl => ⟨Nat.le_refl _, Nat.le_refl _⟩
  | f + 1, a, v, sl => by
    unfold landF
    split
    · exact ⟨Nat.le_refl _, Nat.le_add_right _ _⟩
    · have := landF_le f (a + 1) (asV (asV (v - ma a) + hi a - 2 * dr - 1)) (sl ||| 1 <<< (nI a &&& 31)) (hi := hi) (de := de) (ma := ma) (lg := lg) (dr := dr)
      omega
theorem turnF_le {n : Nat} {hi de ma : Nat → Int32} {lg st dr : Int32} {a : Nat} {v sl : Int32} (h : a < n) : a ≤ (turnF n hi de ma lg st dr a v sl).1 ∧ (turnF n hi de ma lg st dr a v sl).1 ≤ n := by
  unfold turnF
  split
  · have := landF_le (n - (a + 1)) (a + 1) (asV (v - st + hi a - dr)) sl (hi := hi) (de := de) (ma := ma) (lg := lg) (dr := dr)
    omega
  · exact ⟨Nat.le_refl _, Nat.le_of_lt h⟩
theorem runF_le {n : Nat} {hi de ma : Nat → Int32} {lg st dr : Int32} : ∀ (f a : Nat) (v sl c : Int32), a ≤ n → (runF n hi de ma lg st dr f a v sl c).1 ≤ n
  | 0, a, v, sl, c, h => h
  | f + 1, a, v, sl, c, h => by
    unfold runF
    split
    · rename_i q
      exact runF_le f _ _ _ _ (turnF_le q.2).2
    · exact h
end
section
set_option maxHeartbeats 4000000 in
set_option maxRecDepth 100000 in
/-- lo <= x <= hh -/
theorem c_X8_within (l : Launch) (E : EX) (x : Int32) (lo : Int32) (hh : Int32) : Ct l E yX8_within cX8_within 3 (some .boolean) (rmL 1 0 0) [.int x, .int lo, .int hh] [] (fun (rv_ : Option Value) (rw_ : va_W) => rv_ = some (.int (bI (lo ≤ x ∧ x ≤ hh))) ∧ rw_ = []) 0 0 := by
  refine Ct_of (by decide) (Nat.le_of_ble_eq_true rfl) ?_
  intro k hkl hnl C hR hm
  subst hkl
  show G k E 0 0 0 [some (.int x), some (.int lo), some (.int hh)] [] []
  refine g_iload_n C dX8_within_0 rfl ?_
  refine g_iload_n C dX8_within_1 rfl ?_
  refine g_icmp_lt (tgt := 14) C dX8_within_2 (by decide) (fun c2 => ?_) (fun c2 => ?_)
  · skip
    refine g_iconst (v := 0) C dX8_within_14 (by decide) ?_
    exact g_zret C hR (by first | exact Or.inl rfl | exact Or.inr rfl | exact bI01 _) (⟨by first | (rw [bI_t ⟨Int32.not_lt.mp c2, Int32.not_lt.mp c7⟩]; done) | (rw [bI_f (fun q => Int32.not_le.mpr c2 q.1)]; done) | (rw [bI_f (fun q => Int32.not_le.mpr c7 q.2)]; done), rfl⟩) dX8_within_15
  · skip
    refine g_iload_n C dX8_within_5 rfl ?_
    refine g_iload_n C dX8_within_6 rfl ?_
    refine g_icmp_gt (tgt := 14) C dX8_within_7 (by decide) (fun c7 => ?_) (fun c7 => ?_)
    · skip
      refine g_iconst (v := 0) C dX8_within_14 (by decide) ?_
      exact g_zret C hR (by first | exact Or.inl rfl | exact Or.inr rfl | exact bI01 _) (⟨by first | (rw [bI_t ⟨Int32.not_lt.mp c2, Int32.not_lt.mp c7⟩]; done) | (rw [bI_f (fun q => Int32.not_le.mpr c2 q.1)]; done) | (rw [bI_f (fun q => Int32.not_le.mpr c7 q.2)]; done), rfl⟩) dX8_within_15
    · skip
      refine g_iconst (v := 1) C dX8_within_10 (by decide) ?_
      refine g_goto (tgt := 15) C dX8_within_11 (by decide) ?_
      exact g_zret C hR (by first | exact Or.inl rfl | exact Or.inr rfl | exact bI01 _) (⟨by first | (rw [bI_t ⟨Int32.not_lt.mp c2, Int32.not_lt.mp c7⟩]; done) | (rw [bI_f (fun q => Int32.not_le.mpr c2 q.1)]; done) | (rw [bI_f (fun q => Int32.not_le.mpr c7 q.2)]; done), rfl⟩) dX8_within_15

set_option maxHeartbeats 4000000 in
set_option maxRecDepth 100000 in
theorem c_X8_asVigour (l : Launch) (E : EX) (x : Int32) : Ct l E yX8_asVigour cX8_asVigour 1 (some .int) (rmL 1 0 0) [.int x] [] (fun (rv_ : Option Value) (rw_ : va_W) => rv_ = some (.int (asV x)) ∧ rw_ = []) 0 0 := by
  refine Ct_of (by decide) (Nat.le_of_ble_eq_true rfl) ?_
  intro k hkl hnl C hR hm
  subst hkl
  show G k E 0 0 0 [some (.int x)] [] []
  refine g_iload_n C dX8_asVigour_0 rfl ?_
  refine g_if_ge (tgt := 6) C dX8_asVigour_1 (by decide) (fun c1 => ?_) (fun c1 => ?_)
  · skip
    refine g_iload_n C dX8_asVigour_6 rfl ?_
    refine g_bipush (v := 99) C dX8_asVigour_7 (by decide) ?_
    refine g_icmp_le (tgt := 17) C dX8_asVigour_9 (by decide) (fun c9 => ?_) (fun c9 => ?_)
    · skip
      refine g_iload_n C dX8_asVigour_17 rfl ?_
      exact g_iret C hR (⟨by first | (rw [asV, if_neg (Int32.not_lt.mpr c1), if_neg (Int32.not_lt.mpr c9)]; done) | (rw [asV, if_neg (Int32.not_lt.mpr c1), if_pos (Int32.not_le.mp c9)]; done), rfl⟩) dX8_asVigour_18
    · skip
      refine g_bipush (v := 99) C dX8_asVigour_12 (by decide) ?_
      refine g_goto (tgt := 18) C dX8_asVigour_14 (by decide) ?_
      exact g_iret C hR (⟨by first | (rw [asV, if_neg (Int32.not_lt.mpr c1), if_neg (Int32.not_lt.mpr c9)]; done) | (rw [asV, if_neg (Int32.not_lt.mpr c1), if_pos (Int32.not_le.mp c9)]; done), rfl⟩) dX8_asVigour_18
  · skip
    refine g_iconst (v := 0) C dX8_asVigour_4 (by decide) ?_
    exact g_iret C hR (⟨by rw [asV, if_pos (Int32.not_le.mp c1)], rfl⟩) dX8_asVigour_5

set_option maxHeartbeats 4000000 in
set_option maxRecDepth 100000 in
theorem c_X8_tenTimes (l : Launch) (E : EX) (x : Int32) (y : Int32) : Ct l E yX8_tenTimes cX8_tenTimes 2 (some .int) (rmL 1 0 0) [.int x, .int y] [] (fun (rv_ : Option Value) (rw_ : va_W) => rv_ = some (.int (10 * x + y)) ∧ rw_ = []) 0 0 := by
  refine Ct_of (by decide) (Nat.le_of_ble_eq_true rfl) ?_
  intro k hkl hnl C hR hm
  subst hkl
  show G k E 0 0 0 [some (.int x), some (.int y)] [] []
  refine g_bipush (v := 10) C dX8_tenTimes_0 (by decide) ?_
  refine g_iload_n C dX8_tenTimes_2 rfl ?_
  refine g_imul C dX8_tenTimes_3 ?_
  refine g_iload_n C dX8_tenTimes_4 rfl ?_
  refine g_iadd C dX8_tenTimes_5 ?_
  exact g_iret C hR (⟨rfl, rfl⟩) dX8_tenTimes_6

set_option maxHeartbeats 4000000 in
set_option maxRecDepth 100000 in
theorem c_X5_has (l : Launch) (E : EX) (p : Nat) (ph : Nat) (pd : Nat) (pm : Nat) (n0 : Int32) (lg : Int32) (sf : Int32) (dg : Int32) (x : Int32) : Ct l E yX5_has cX5_has 2 (some .boolean) (rmL 2 0 0) [.ref p, .int x] [(p, .inr (5, [.ref ph, .ref pd, .ref pm, .int n0, .int lg, .int sf, .int dg]))] (fun (rv_ : Option Value) (rw_ : va_W) => rv_ = some (.int (bI (0 ≤ x ∧ x ≤ n0 - 1))) ∧ rw_ = [(p, .inr (5, [.ref ph, .ref pd, .ref pm, .int n0, .int lg, .int sf, .int dg]))]) 0 0 := by
  refine Ct_of (by decide) (Nat.le_of_ble_eq_true rfl) ?_
  intro k hkl hnl C hR hm
  subst hkl
  show G k E 0 0 0 [some (.ref p), some (.int x)] [] [(p, .inr (5, [.ref ph, .ref pd, .ref pm, .int n0, .int lg, .int sf, .int dg]))]
  refine g_iload_n C dX5_has_0 rfl ?_
  refine g_iconst (v := 0) C dX5_has_1 (by decide) ?_
  refine g_aload_n C dX5_has_2 rfl ?_
  refine g_get C kwX5 0 rfl rfl 3 (by decide) kfX5_24 rfl dX5_has_3 ?_
  refine g_iconst (v := 1) C dX5_has_6 (by decide) ?_
  refine g_isub C dX5_has_7 ?_
  refine g_callSN C (c_X8_within k.l E x 0 (n0 - 1)) kcX8_within (by decide) knX8 ktX8_within ⟨rfl, rfl⟩ kdX8_within ⟨by decide, by decide⟩ ⟨by decide, by decide⟩ [] [0] rfl (wr := [(p, .inr (5, [.ref ph, .ref pd, .ref pm, .int n0, .int lg, .int sf, .int dg]))]) rfl rfl rfl (by decide) rfl (As := [.int x, .int 0, .int (n0 - 1)]) (rest := []) rfl (Nat.le_of_ble_eq_true rfl) dX5_has_8 (fun rv_ rw_ hp_ => ?_)
  obtain ⟨rfl, rfl⟩ := hp_
  refine g_rep [0] (ws' := [(p, .inr (5, [.ref ph, .ref pd, .ref pm, .int n0, .int lg, .int sf, .int dg]))]) (st' := [.int (bI (0 ≤ x ∧ x ≤ (n0 - 1)))]) (n' := 0) (z' := 0) (pc' := 11) rfl rfl rfl rfl rfl rfl ?_
  exact g_zret C hR (by first | exact Or.inl rfl | exact Or.inr rfl | exact bI01 _) (⟨rfl, rfl⟩) dX5_has_11

set_option maxHeartbeats 4000000 in
set_option maxRecDepth 100000 in
theorem c_X5_hasPlace (l : Launch) (E : EX) (p : Nat) (ph : Nat) (pd : Nat) (pm : Nat) (n0 : Int32) (lg : Int32) (sf : Int32) (dg : Int32) (x : Int32) : Ct l E yX5_hasPlace cX5_hasPlace 2 (some .boolean) (rmL 2 0 0) [.ref p, .int x] [(p, .inr (5, [.ref ph, .ref pd, .ref pm, .int n0, .int lg, .int sf, .int dg]))] (fun (rv_ : Option Value) (rw_ : va_W) => rv_ = some (.int (bI (0 ≤ x ∧ x ≤ n0))) ∧ rw_ = [(p, .inr (5, [.ref ph, .ref pd, .ref pm, .int n0, .int lg, .int sf, .int dg]))]) 0 0 := by
  refine Ct_of (by decide) (Nat.le_of_ble_eq_true rfl) ?_
  intro k hkl hnl C hR hm
  subst hkl
  show G k E 0 0 0 [some (.ref p), some (.int x)] [] [(p, .inr (5, [.ref ph, .ref pd, .ref pm, .int n0, .int lg, .int sf, .int dg]))]
  refine g_iload_n C dX5_hasPlace_0 rfl ?_
  refine g_iconst (v := 0) C dX5_hasPlace_1 (by decide) ?_
  refine g_aload_n C dX5_hasPlace_2 rfl ?_
  refine g_get C kwX5 0 rfl rfl 3 (by decide) kfX5_24 rfl dX5_hasPlace_3 ?_
  refine g_callSN C (c_X8_within k.l E x 0 n0) kcX8_within (by decide) knX8 ktX8_within ⟨rfl, rfl⟩ kdX8_within ⟨by decide, by decide⟩ ⟨by decide, by decide⟩ [] [0] rfl (wr := [(p, .inr (5, [.ref ph, .ref pd, .ref pm, .int n0, .int lg, .int sf, .int dg]))]) rfl rfl rfl (by decide) rfl (As := [.int x, .int 0, .int n0]) (rest := []) rfl (Nat.le_of_ble_eq_true rfl) dX5_hasPlace_6 (fun rv_ rw_ hp_ => ?_)
  obtain ⟨rfl, rfl⟩ := hp_
  refine g_rep [0] (ws' := [(p, .inr (5, [.ref ph, .ref pd, .ref pm, .int n0, .int lg, .int sf, .int dg]))]) (st' := [.int (bI (0 ≤ x ∧ x ≤ n0))]) (n' := 0) (z' := 0) (pc' := 9) rfl rfl rfl rfl rfl rfl ?_
  exact g_zret C hR (by first | exact Or.inl rfl | exact Or.inr rfl | exact bI01 _) (⟨rfl, rfl⟩) dX5_hasPlace_9

set_option maxHeartbeats 4000000 in
set_option maxRecDepth 100000 in
theorem c_X5_empty (l : Launch) (E : EX) (p : Nat) (ph : Nat) (pd : Nat) (pm : Nat) (n0 : Int32) (lg : Int32) (sf : Int32) (dg : Int32) : Ct l E yX5_empty cX5_empty 1 none (rmL 1 0 0) [.ref p] [(p, .inr (5, [.ref ph, .ref pd, .ref pm, .int n0, .int lg, .int sf, .int dg]))] (fun (rv_ : Option Value) (rw_ : va_W) => rv_ = none ∧ rw_ = [(p, .inr (5, [.ref ph, .ref pd, .ref pm, .int 0, .int 4, .int 3, .int 1]))]) 0 0 := by
  refine Ct_of (by decide) (Nat.le_of_ble_eq_true rfl) ?_
  intro k hkl hnl C hR hm
  subst hkl
  show G k E 0 0 0 [some (.ref p)] [] [(p, .inr (5, [.ref ph, .ref pd, .ref pm, .int n0, .int lg, .int sf, .int dg]))]
  refine g_aload_n C dX5_empty_0 rfl ?_
  refine g_iconst (v := 0) C dX5_empty_1 (by decide) ?_
  refine g_put (ws' := [(p, .inr (5, [.ref ph, .ref pd, .ref pm, .int 0, .int lg, .int sf, .int dg]))]) C kwX5 tyX5 tyX5_ok nmX5 0 rfl rfl 3 (by decide) kfX5_24 rfl rfl rfl (Nat.le_of_ble_eq_true rfl) rfl dX5_empty_2 ?_
  refine g_aload_n C dX5_empty_5 rfl ?_
  refine g_iconst (v := 4) C dX5_empty_6 (by decide) ?_
  refine g_put (ws' := [(p, .inr (5, [.ref ph, .ref pd, .ref pm, .int 0, .int 4, .int sf, .int dg]))]) C kwX5 tyX5 tyX5_ok nmX5 0 rfl rfl 4 (by decide) kfX5_28 rfl rfl rfl (Nat.le_of_ble_eq_true rfl) rfl dX5_empty_7 ?_
  refine g_aload_n C dX5_empty_10 rfl ?_
  refine g_iconst (v := 3) C dX5_empty_11 (by decide) ?_
  refine g_put (ws' := [(p, .inr (5, [.ref ph, .ref pd, .ref pm, .int 0, .int 4, .int 3, .int dg]))]) C kwX5 tyX5 tyX5_ok nmX5 0 rfl rfl 5 (by decide) kfX5_31 rfl rfl rfl (Nat.le_of_ble_eq_true rfl) rfl dX5_empty_12 ?_
  refine g_aload_n C dX5_empty_15 rfl ?_
  refine g_iconst (v := 1) C dX5_empty_16 (by decide) ?_
  refine g_put (ws' := [(p, .inr (5, [.ref ph, .ref pd, .ref pm, .int 0, .int 4, .int 3, .int 1]))]) C kwX5 tyX5 tyX5_ok nmX5 0 rfl rfl 6 (by decide) kfX5_34 rfl rfl rfl (Nat.le_of_ble_eq_true rfl) rfl dX5_empty_17 ?_
  exact g_vret C hR (⟨rfl, rfl⟩) dX5_empty_20

set_option maxHeartbeats 4000000 in
set_option maxRecDepth 100000 in
theorem c_X5_addStep (l : Launch) (E : EX) (p : Nat) (ph : Nat) (pd : Nat) (pm : Nat) (n : Nat) (lg : Int32) (sf : Int32) (dg : Int32) (hi : Nat → Int32) (de : Nat → Int32) (pma : Nat → Int32) (x : Int32) (y : Int32) (z0 : Int32) (hn : n < 9) : Ct l E yX5_addStep cX5_addStep 4 none (rmL 1 0 0) [.ref p, .int x, .int y, .int z0] [(p, .inr (5, [.ref ph, .ref pd, .ref pm, .int (nI n), .int lg, .int sf, .int dg])), aI E ph 9 hi, aI E pd 9 de, aI E pm 9 pma] (fun (rv_ : Option Value) (rw_ : va_W) => rv_ = none ∧ rw_ = [(p, .inr (5, [.ref ph, .ref pd, .ref pm, .int (nI (n + 1)), .int lg, .int sf, .int dg])), aI E ph 9 (upd hi n x), aI E pd 9 (upd de n y), aI E pm 9 (upd pma n z0)]) 0 0 := by
  refine Ct_of (by decide) (Nat.le_of_ble_eq_true rfl) ?_
  intro k hkl hnl C hR hm
  subst hkl
  show G k E 0 0 0 [some (.ref p), some (.int x), some (.int y), some (.int z0)] [] [(p, .inr (5, [.ref ph, .ref pd, .ref pm, .int (nI n), .int lg, .int sf, .int dg])), aI E ph 9 hi, aI E pd 9 de, aI E pm 9 pma]
  refine g_aload_n C dX5_addStep_0 rfl ?_
  refine g_get C kwX5 0 rfl rfl 3 (by decide) kfX5_24 rfl dX5_addStep_1 ?_
  refine g_bipush (v := 9) C dX5_addStep_4 (by decide) ?_
  refine g_icmp_ge (tgt := 49) C dX5_addStep_6 (by decide) (fun c6 => ?_) (fun c6 => ?_)
  · skip
    exact absurd ((nI_leI (a := 9) (by decide) (by omega)).mp c6) (by omega)
  · skip
    refine g_aload_n C dX5_addStep_9 rfl ?_
    refine g_get C kwX5 0 rfl rfl 0 (by decide) kfX5_9 rfl dX5_addStep_10 ?_
    refine g_aload_n C dX5_addStep_13 rfl ?_
    refine g_get C kwX5 0 rfl rfl 3 (by decide) kfX5_24 rfl dX5_addStep_14 ?_
    refine g_iload_n C dX5_addStep_17 rfl ?_
    refine g_iast (ws' := [(p, .inr (5, [.ref ph, .ref pd, .ref pm, .int (nI n), .int lg, .int sf, .int dg])), aI E ph 9 (upd hi n x), aI E pd 9 de, aI E pm 9 pma]) C 1 n rfl (rfl) (by omega) (by decide) rfl dX5_addStep_18 ?_
    refine g_aload_n C dX5_addStep_19 rfl ?_
    refine g_get C kwX5 0 rfl rfl 1 (by decide) kfX5_15 rfl dX5_addStep_20 ?_
    refine g_aload_n C dX5_addStep_23 rfl ?_
    refine g_get C kwX5 0 rfl rfl 3 (by decide) kfX5_24 rfl dX5_addStep_24 ?_
    refine g_iload_n C dX5_addStep_27 rfl ?_
    refine g_iast (ws' := [(p, .inr (5, [.ref ph, .ref pd, .ref pm, .int (nI n), .int lg, .int sf, .int dg])), aI E ph 9 (upd hi n x), aI E pd 9 (upd de n y), aI E pm 9 pma]) C 2 n rfl (rfl) (by omega) (by decide) rfl dX5_addStep_28 ?_
    refine g_aload_n C dX5_addStep_29 rfl ?_
    refine g_get C kwX5 0 rfl rfl 2 (by decide) kfX5_18 rfl dX5_addStep_30 ?_
    refine g_aload_n C dX5_addStep_33 rfl ?_
    refine g_get C kwX5 0 rfl rfl 3 (by decide) kfX5_24 rfl dX5_addStep_34 ?_
    refine g_iload_n C dX5_addStep_37 rfl ?_
    refine g_iast (ws' := [(p, .inr (5, [.ref ph, .ref pd, .ref pm, .int (nI n), .int lg, .int sf, .int dg])), aI E ph 9 (upd hi n x), aI E pd 9 (upd de n y), aI E pm 9 (upd pma n z0)]) C 3 n rfl (rfl) (by omega) (by decide) rfl dX5_addStep_38 ?_
    refine g_aload_n C dX5_addStep_39 rfl ?_
    refine g_dup C dX5_addStep_40 rfl ?_
    refine g_get C kwX5 0 rfl rfl 3 (by decide) kfX5_24 rfl dX5_addStep_41 ?_
    refine g_iconst (v := 1) C dX5_addStep_44 (by decide) ?_
    refine g_iadd C dX5_addStep_45 ?_
    refine g_topi (v := nI (n + 1)) (nI_1 n) ?_
    refine g_put (ws' := [(p, .inr (5, [.ref ph, .ref pd, .ref pm, .int (nI (n + 1)), .int lg, .int sf, .int dg])), aI E ph 9 (upd hi n x), aI E pd 9 (upd de n y), aI E pm 9 (upd pma n z0)]) C kwX5 tyX5 tyX5_ok nmX5 0 rfl rfl 3 (by decide) kfX5_24 rfl rfl rfl (Nat.le_of_ble_eq_true rfl) rfl dX5_addStep_46 ?_
    exact g_vret C hR (⟨rfl, rfl⟩) dX5_addStep_49

set_option maxHeartbeats 4000000 in
set_option maxRecDepth 100000 in
theorem c_X5_copy (l : Launch) (E : EX) (p : Nat) (ph : Nat) (pd : Nat) (pm : Nat) (n0 : Int32) (lg : Int32) (sf : Int32) (dg : Int32) (hi : Nat → Int32) (de : Nat → Int32) (pma : Nat → Int32) (p2 : Nat) (ph2 : Nat) (pd2 : Nat) (pm2 : Nat) (n2 : Int32) (lg2 : Int32) (sf2 : Int32) (dg2 : Int32) (hi2 : Nat → Int32) (de2 : Nat → Int32) (pma2 : Nat → Int32) : Ct l E yX5_copy cX5_copy 2 none (rmL 1 0 0) [.ref p, .ref p2] [(p, .inr (5, [.ref ph, .ref pd, .ref pm, .int n0, .int lg, .int sf, .int dg])), aI E ph 9 hi, aI E pd 9 de, aI E pm 9 pma, (p2, .inr (5, [.ref ph2, .ref pd2, .ref pm2, .int n2, .int lg2, .int sf2, .int dg2])), aI E ph2 9 hi2, aI E pd2 9 de2, aI E pm2 9 pma2] (fun (rv_ : Option Value) (rw_ : va_W) => rv_ = none ∧ rw_ = [(p, .inr (5, [.ref ph, .ref pd, .ref pm, .int n2, .int lg2, .int sf2, .int dg2])), aI E ph 9 (va_cpy hi2 hi 0 0 9), aI E pd 9 (va_cpy de2 de 0 0 9), aI E pm 9 (va_cpy pma2 pma 0 0 9), (p2, .inr (5, [.ref ph2, .ref pd2, .ref pm2, .int n2, .int lg2, .int sf2, .int dg2])), aI E ph2 9 hi2, aI E pd2 9 de2, aI E pm2 9 pma2]) 0 0 := by
  refine Ct_of (by decide) (Nat.le_of_ble_eq_true rfl) ?_
  intro k hkl hnl C hR hm
  subst hkl
  show G k E 0 0 0 [some (.ref p), some (.ref p2)] [] [(p, .inr (5, [.ref ph, .ref pd, .ref pm, .int n0, .int lg, .int sf, .int dg])), aI E ph 9 hi, aI E pd 9 de, aI E pm 9 pma, (p2, .inr (5, [.ref ph2, .ref pd2, .ref pm2, .int n2, .int lg2, .int sf2, .int dg2])), aI E ph2 9 hi2, aI E pd2 9 de2, aI E pm2 9 pma2]
  refine g_aload_n C dX5_copy_0 rfl ?_
  refine g_get C kwX5 4 rfl rfl 0 (by decide) kfX5_9 rfl dX5_copy_1 ?_
  refine g_iconst (v := 0) C dX5_copy_4 (by decide) ?_
  refine g_aload_n C dX5_copy_5 rfl ?_
  refine g_get C kwX5 0 rfl rfl 0 (by decide) kfX5_9 rfl dX5_copy_6 ?_
  refine g_iconst (v := 0) C dX5_copy_9 (by decide) ?_
  refine g_bipush (v := 9) C dX5_copy_10 (by decide) ?_
  refine g_copy (ws' := [(p, .inr (5, [.ref ph, .ref pd, .ref pm, .int n0, .int lg, .int sf, .int dg])), aI E ph 9 (va_cpy hi2 hi 0 0 9), aI E pd 9 de, aI E pm 9 pma, (p2, .inr (5, [.ref ph2, .ref pd2, .ref pm2, .int n2, .int lg2, .int sf2, .int dg2])), aI E ph2 9 hi2, aI E pd2 9 de2, aI E pm2 9 pma2]) C kmX5_37 5 1 rfl rfl 9 rfl (by decide) (by decide) (by decide) rfl (by decide) (Nat.le_of_ble_eq_true rfl) dX5_copy_12 ?_
  refine g_aload_n C dX5_copy_15 rfl ?_
  refine g_get C kwX5 4 rfl rfl 1 (by decide) kfX5_15 rfl dX5_copy_16 ?_
  refine g_iconst (v := 0) C dX5_copy_19 (by decide) ?_
  refine g_aload_n C dX5_copy_20 rfl ?_
  refine g_get C kwX5 0 rfl rfl 1 (by decide) kfX5_15 rfl dX5_copy_21 ?_
  refine g_iconst (v := 0) C dX5_copy_24 (by decide) ?_
  refine g_bipush (v := 9) C dX5_copy_25 (by decide) ?_
  refine g_copy (ws' := [(p, .inr (5, [.ref ph, .ref pd, .ref pm, .int n0, .int lg, .int sf, .int dg])), aI E ph 9 (va_cpy hi2 hi 0 0 9), aI E pd 9 (va_cpy de2 de 0 0 9), aI E pm 9 pma, (p2, .inr (5, [.ref ph2, .ref pd2, .ref pm2, .int n2, .int lg2, .int sf2, .int dg2])), aI E ph2 9 hi2, aI E pd2 9 de2, aI E pm2 9 pma2]) C kmX5_37 6 2 rfl rfl 9 rfl (by decide) (by decide) (by decide) rfl (by decide) (Nat.le_of_ble_eq_true rfl) dX5_copy_27 ?_
  refine g_aload_n C dX5_copy_30 rfl ?_
  refine g_get C kwX5 4 rfl rfl 2 (by decide) kfX5_18 rfl dX5_copy_31 ?_
  refine g_iconst (v := 0) C dX5_copy_34 (by decide) ?_
  refine g_aload_n C dX5_copy_35 rfl ?_
  refine g_get C kwX5 0 rfl rfl 2 (by decide) kfX5_18 rfl dX5_copy_36 ?_
  refine g_iconst (v := 0) C dX5_copy_39 (by decide) ?_
  refine g_bipush (v := 9) C dX5_copy_40 (by decide) ?_
  refine g_copy (ws' := [(p, .inr (5, [.ref ph, .ref pd, .ref pm, .int n0, .int lg, .int sf, .int dg])), aI E ph 9 (va_cpy hi2 hi 0 0 9), aI E pd 9 (va_cpy de2 de 0 0 9), aI E pm 9 (va_cpy pma2 pma 0 0 9), (p2, .inr (5, [.ref ph2, .ref pd2, .ref pm2, .int n2, .int lg2, .int sf2, .int dg2])), aI E ph2 9 hi2, aI E pd2 9 de2, aI E pm2 9 pma2]) C kmX5_37 7 3 rfl rfl 9 rfl (by decide) (by decide) (by decide) rfl (by decide) (Nat.le_of_ble_eq_true rfl) dX5_copy_42 ?_
  refine g_aload_n C dX5_copy_45 rfl ?_
  refine g_aload_n C dX5_copy_46 rfl ?_
  refine g_get C kwX5 4 rfl rfl 3 (by decide) kfX5_24 rfl dX5_copy_47 ?_
  refine g_put (ws' := [(p, .inr (5, [.ref ph, .ref pd, .ref pm, .int n2, .int lg, .int sf, .int dg])), aI E ph 9 (va_cpy hi2 hi 0 0 9), aI E pd 9 (va_cpy de2 de 0 0 9), aI E pm 9 (va_cpy pma2 pma 0 0 9), (p2, .inr (5, [.ref ph2, .ref pd2, .ref pm2, .int n2, .int lg2, .int sf2, .int dg2])), aI E ph2 9 hi2, aI E pd2 9 de2, aI E pm2 9 pma2]) C kwX5 tyX5 tyX5_ok nmX5 0 rfl rfl 3 (by decide) kfX5_24 rfl rfl rfl (Nat.le_of_ble_eq_true rfl) rfl dX5_copy_50 ?_
  refine g_aload_n C dX5_copy_53 rfl ?_
  refine g_aload_n C dX5_copy_54 rfl ?_
  refine g_get C kwX5 4 rfl rfl 4 (by decide) kfX5_28 rfl dX5_copy_55 ?_
  refine g_put (ws' := [(p, .inr (5, [.ref ph, .ref pd, .ref pm, .int n2, .int lg2, .int sf, .int dg])), aI E ph 9 (va_cpy hi2 hi 0 0 9), aI E pd 9 (va_cpy de2 de 0 0 9), aI E pm 9 (va_cpy pma2 pma 0 0 9), (p2, .inr (5, [.ref ph2, .ref pd2, .ref pm2, .int n2, .int lg2, .int sf2, .int dg2])), aI E ph2 9 hi2, aI E pd2 9 de2, aI E pm2 9 pma2]) C kwX5 tyX5 tyX5_ok nmX5 0 rfl rfl 4 (by decide) kfX5_28 rfl rfl rfl (Nat.le_of_ble_eq_true rfl) rfl dX5_copy_58 ?_
  refine g_aload_n C dX5_copy_61 rfl ?_
  refine g_aload_n C dX5_copy_62 rfl ?_
  refine g_get C kwX5 4 rfl rfl 5 (by decide) kfX5_31 rfl dX5_copy_63 ?_
  refine g_put (ws' := [(p, .inr (5, [.ref ph, .ref pd, .ref pm, .int n2, .int lg2, .int sf2, .int dg])), aI E ph 9 (va_cpy hi2 hi 0 0 9), aI E pd 9 (va_cpy de2 de 0 0 9), aI E pm 9 (va_cpy pma2 pma 0 0 9), (p2, .inr (5, [.ref ph2, .ref pd2, .ref pm2, .int n2, .int lg2, .int sf2, .int dg2])), aI E ph2 9 hi2, aI E pd2 9 de2, aI E pm2 9 pma2]) C kwX5 tyX5 tyX5_ok nmX5 0 rfl rfl 5 (by decide) kfX5_31 rfl rfl rfl (Nat.le_of_ble_eq_true rfl) rfl dX5_copy_66 ?_
  refine g_aload_n C dX5_copy_69 rfl ?_
  refine g_aload_n C dX5_copy_70 rfl ?_
  refine g_get C kwX5 4 rfl rfl 6 (by decide) kfX5_34 rfl dX5_copy_71 ?_
  refine g_put (ws' := [(p, .inr (5, [.ref ph, .ref pd, .ref pm, .int n2, .int lg2, .int sf2, .int dg2])), aI E ph 9 (va_cpy hi2 hi 0 0 9), aI E pd 9 (va_cpy de2 de 0 0 9), aI E pm 9 (va_cpy pma2 pma 0 0 9), (p2, .inr (5, [.ref ph2, .ref pd2, .ref pm2, .int n2, .int lg2, .int sf2, .int dg2])), aI E ph2 9 hi2, aI E pd2 9 de2, aI E pm2 9 pma2]) C kwX5 tyX5 tyX5_ok nmX5 0 rfl rfl 6 (by decide) kfX5_34 rfl rfl rfl (Nat.le_of_ble_eq_true rfl) rfl dX5_copy_74 ?_
  exact g_vret C hR (⟨rfl, rfl⟩) dX5_copy_77

set_option maxHeartbeats 4000000 in
set_option maxRecDepth 100000 in
theorem c_X4_begin (l : Launch) (E : EX) (o : Nat) (om : Nat) (pl : Int32) (vg : Int32) (fp : Int32) (ma : Nat → Int32) (p : Nat) (ph : Nat) (pd : Nat) (pm : Nat) (n0 : Int32) (lg : Int32) (sf : Int32) (dg : Int32) (pma : Nat → Int32) : Ct l E yX4_begin cX4_begin 2 none (rmL 1 0 0) [.ref o, .ref p] [(o, .inr (4, [.ref om, .int pl, .int vg, .int fp])), aI E om 9 ma, (p, .inr (5, [.ref ph, .ref pd, .ref pm, .int n0, .int lg, .int sf, .int dg])), aI E pm 9 pma] (fun (rv_ : Option Value) (rw_ : va_W) => rv_ = none ∧ rw_ = [(o, .inr (4, [.ref om, .int 0, .int 0, .int 0])), aI E om 9 (va_cpy pma ma 0 0 9), (p, .inr (5, [.ref ph, .ref pd, .ref pm, .int n0, .int lg, .int sf, .int dg])), aI E pm 9 pma]) 0 0 := by
  refine Ct_of (by decide) (Nat.le_of_ble_eq_true rfl) ?_
  intro k hkl hnl C hR hm
  subst hkl
  show G k E 0 0 0 [some (.ref o), some (.ref p)] [] [(o, .inr (4, [.ref om, .int pl, .int vg, .int fp])), aI E om 9 ma, (p, .inr (5, [.ref ph, .ref pd, .ref pm, .int n0, .int lg, .int sf, .int dg])), aI E pm 9 pma]
  refine g_aload_n C dX4_begin_0 rfl ?_
  refine g_get C kwX5 2 rfl rfl 2 (by decide) kfX4_15 rfl dX4_begin_1 ?_
  refine g_iconst (v := 0) C dX4_begin_4 (by decide) ?_
  refine g_aload_n C dX4_begin_5 rfl ?_
  refine g_get C kwX4 0 rfl rfl 0 (by decide) kfX4_9 rfl dX4_begin_6 ?_
  refine g_iconst (v := 0) C dX4_begin_9 (by decide) ?_
  refine g_bipush (v := 9) C dX4_begin_10 (by decide) ?_
  refine g_copy (ws' := [(o, .inr (4, [.ref om, .int pl, .int vg, .int fp])), aI E om 9 (va_cpy pma ma 0 0 9), (p, .inr (5, [.ref ph, .ref pd, .ref pm, .int n0, .int lg, .int sf, .int dg])), aI E pm 9 pma]) C kmX4_18 3 1 rfl rfl 9 rfl (by decide) (by decide) (by decide) rfl (by decide) (Nat.le_of_ble_eq_true rfl) dX4_begin_12 ?_
  refine g_aload_n C dX4_begin_15 rfl ?_
  refine g_iconst (v := 0) C dX4_begin_16 (by decide) ?_
  refine g_put (ws' := [(o, .inr (4, [.ref om, .int 0, .int vg, .int fp])), aI E om 9 (va_cpy pma ma 0 0 9), (p, .inr (5, [.ref ph, .ref pd, .ref pm, .int n0, .int lg, .int sf, .int dg])), aI E pm 9 pma]) C kwX4 tyX4 tyX4_ok nmX4 0 rfl rfl 1 (by decide) kfX4_24 rfl rfl rfl (Nat.le_of_ble_eq_true rfl) rfl dX4_begin_17 ?_
  refine g_aload_n C dX4_begin_20 rfl ?_
  refine g_iconst (v := 0) C dX4_begin_21 (by decide) ?_
  refine g_put (ws' := [(o, .inr (4, [.ref om, .int 0, .int 0, .int fp])), aI E om 9 (va_cpy pma ma 0 0 9), (p, .inr (5, [.ref ph, .ref pd, .ref pm, .int n0, .int lg, .int sf, .int dg])), aI E pm 9 pma]) C kwX4 tyX4 tyX4_ok nmX4 0 rfl rfl 2 (by decide) kfX4_28 rfl rfl rfl (Nat.le_of_ble_eq_true rfl) rfl dX4_begin_22 ?_
  refine g_aload_n C dX4_begin_25 rfl ?_
  refine g_iconst (v := 0) C dX4_begin_26 (by decide) ?_
  refine g_put (ws' := [(o, .inr (4, [.ref om, .int 0, .int 0, .int 0])), aI E om 9 (va_cpy pma ma 0 0 9), (p, .inr (5, [.ref ph, .ref pd, .ref pm, .int n0, .int lg, .int sf, .int dg])), aI E pm 9 pma]) C kwX4 tyX4 tyX4_ok nmX4 0 rfl rfl 3 (by decide) kfX4_31 rfl rfl rfl (Nat.le_of_ble_eq_true rfl) rfl dX4_begin_27 ?_
  exact g_vret C hR (⟨rfl, rfl⟩) dX4_begin_30

set_option maxHeartbeats 4000000 in
set_option maxRecDepth 100000 in
theorem c_X4_copy (l : Launch) (E : EX) (o : Nat) (om : Nat) (pl : Int32) (vg : Int32) (fp : Int32) (ma : Nat → Int32) (o2 : Nat) (om2 : Nat) (pl2 : Int32) (vg2 : Int32) (fp2 : Int32) (ma2 : Nat → Int32) : Ct l E yX4_copy cX4_copy 2 none (rmL 1 0 0) [.ref o, .ref o2] [(o, .inr (4, [.ref om, .int pl, .int vg, .int fp])), aI E om 9 ma, (o2, .inr (4, [.ref om2, .int pl2, .int vg2, .int fp2])), aI E om2 9 ma2] (fun (rv_ : Option Value) (rw_ : va_W) => rv_ = none ∧ rw_ = [(o, .inr (4, [.ref om, .int pl2, .int vg2, .int fp2])), aI E om 9 (va_cpy ma2 ma 0 0 9), (o2, .inr (4, [.ref om2, .int pl2, .int vg2, .int fp2])), aI E om2 9 ma2]) 0 0 := by
  refine Ct_of (by decide) (Nat.le_of_ble_eq_true rfl) ?_
  intro k hkl hnl C hR hm
  subst hkl
  show G k E 0 0 0 [some (.ref o), some (.ref o2)] [] [(o, .inr (4, [.ref om, .int pl, .int vg, .int fp])), aI E om 9 ma, (o2, .inr (4, [.ref om2, .int pl2, .int vg2, .int fp2])), aI E om2 9 ma2]
  refine g_aload_n C dX4_copy_0 rfl ?_
  refine g_get C kwX4 2 rfl rfl 0 (by decide) kfX4_9 rfl dX4_copy_1 ?_
  refine g_iconst (v := 0) C dX4_copy_4 (by decide) ?_
  refine g_aload_n C dX4_copy_5 rfl ?_
  refine g_get C kwX4 0 rfl rfl 0 (by decide) kfX4_9 rfl dX4_copy_6 ?_
  refine g_iconst (v := 0) C dX4_copy_9 (by decide) ?_
  refine g_bipush (v := 9) C dX4_copy_10 (by decide) ?_
  refine g_copy (ws' := [(o, .inr (4, [.ref om, .int pl, .int vg, .int fp])), aI E om 9 (va_cpy ma2 ma 0 0 9), (o2, .inr (4, [.ref om2, .int pl2, .int vg2, .int fp2])), aI E om2 9 ma2]) C kmX4_18 3 1 rfl rfl 9 rfl (by decide) (by decide) (by decide) rfl (by decide) (Nat.le_of_ble_eq_true rfl) dX4_copy_12 ?_
  refine g_aload_n C dX4_copy_15 rfl ?_
  refine g_aload_n C dX4_copy_16 rfl ?_
  refine g_get C kwX4 2 rfl rfl 1 (by decide) kfX4_24 rfl dX4_copy_17 ?_
  refine g_put (ws' := [(o, .inr (4, [.ref om, .int pl2, .int vg, .int fp])), aI E om 9 (va_cpy ma2 ma 0 0 9), (o2, .inr (4, [.ref om2, .int pl2, .int vg2, .int fp2])), aI E om2 9 ma2]) C kwX4 tyX4 tyX4_ok nmX4 0 rfl rfl 1 (by decide) kfX4_24 rfl rfl rfl (Nat.le_of_ble_eq_true rfl) rfl dX4_copy_20 ?_
  refine g_aload_n C dX4_copy_23 rfl ?_
  refine g_aload_n C dX4_copy_24 rfl ?_
  refine g_get C kwX4 2 rfl rfl 2 (by decide) kfX4_28 rfl dX4_copy_25 ?_
  refine g_put (ws' := [(o, .inr (4, [.ref om, .int pl2, .int vg2, .int fp])), aI E om 9 (va_cpy ma2 ma 0 0 9), (o2, .inr (4, [.ref om2, .int pl2, .int vg2, .int fp2])), aI E om2 9 ma2]) C kwX4 tyX4 tyX4_ok nmX4 0 rfl rfl 2 (by decide) kfX4_28 rfl rfl rfl (Nat.le_of_ble_eq_true rfl) rfl dX4_copy_28 ?_
  refine g_aload_n C dX4_copy_31 rfl ?_
  refine g_aload_n C dX4_copy_32 rfl ?_
  refine g_get C kwX4 2 rfl rfl 3 (by decide) kfX4_31 rfl dX4_copy_33 ?_
  refine g_put (ws' := [(o, .inr (4, [.ref om, .int pl2, .int vg2, .int fp2])), aI E om 9 (va_cpy ma2 ma 0 0 9), (o2, .inr (4, [.ref om2, .int pl2, .int vg2, .int fp2])), aI E om2 9 ma2]) C kwX4 tyX4 tyX4_ok nmX4 0 rfl rfl 3 (by decide) kfX4_31 rfl rfl rfl (Nat.le_of_ble_eq_true rfl) rfl dX4_copy_36 ?_
  exact g_vret C hR (⟨rfl, rfl⟩) dX4_copy_39

set_option maxHeartbeats 4000000 in
set_option maxRecDepth 100000 in
theorem c_X7_prepare (l : Launch) (E : EX) (w : Nat) (p : Nat) (wm : Nat) (st : Int32) (dr : Int32) (a0 : Int32) (v : Int32) (fl : Int32) (sl : Int32) (ph : Nat) (pd : Nat) (pm : Nat) (n0 : Int32) (lg : Int32) (sf : Int32) (dg : Int32) (o : Nat) (om : Nat) (pl : Int32) (vg : Int32) (fp : Int32) (ma : Nat → Int32) (wma : Nat → Int32) : Ct l E yX7_prepare cX7_prepare 2 none (rmL 1 0 0) [.ref w, .ref o] [(w, .inr (7, [.ref p, .ref wm, .int st, .int dr, .int a0, .int v, .int fl, .int sl])), aI E wm 9 wma, (p, .inr (5, [.ref ph, .ref pd, .ref pm, .int n0, .int lg, .int sf, .int dg])), (o, .inr (4, [.ref om, .int pl, .int vg, .int fp])), aI E om 9 ma] (fun (rv_ : Option Value) (rw_ : va_W) => rv_ = none ∧ rw_ = [(w, .inr (7, [.ref p, .ref wm, .int sf, .int dg, .int a0, .int v, .int fl, .int sl])), aI E wm 9 (va_cpy ma wma 0 0 9), (p, .inr (5, [.ref ph, .ref pd, .ref pm, .int n0, .int lg, .int sf, .int dg])), (o, .inr (4, [.ref om, .int pl, .int vg, .int fp])), aI E om 9 ma]) 0 0 := by
  refine Ct_of (by decide) (Nat.le_of_ble_eq_true rfl) ?_
  intro k hkl hnl C hR hm
  subst hkl
  show G k E 0 0 0 [some (.ref w), some (.ref o)] [] [(w, .inr (7, [.ref p, .ref wm, .int st, .int dr, .int a0, .int v, .int fl, .int sl])), aI E wm 9 wma, (p, .inr (5, [.ref ph, .ref pd, .ref pm, .int n0, .int lg, .int sf, .int dg])), (o, .inr (4, [.ref om, .int pl, .int vg, .int fp])), aI E om 9 ma]
  refine g_aload_n C dX7_prepare_0 rfl ?_
  refine g_get C kwX4 3 rfl rfl 0 (by decide) kfX7_19 rfl dX7_prepare_1 ?_
  refine g_iconst (v := 0) C dX7_prepare_4 (by decide) ?_
  refine g_aload_n C dX7_prepare_5 rfl ?_
  refine g_get C kwX7 0 rfl rfl 1 (by decide) kfX7_9 rfl dX7_prepare_6 ?_
  refine g_iconst (v := 0) C dX7_prepare_9 (by decide) ?_
  refine g_bipush (v := 9) C dX7_prepare_10 (by decide) ?_
  refine g_copy (ws' := [(w, .inr (7, [.ref p, .ref wm, .int st, .int dr, .int a0, .int v, .int fl, .int sl])), aI E wm 9 (va_cpy ma wma 0 0 9), (p, .inr (5, [.ref ph, .ref pd, .ref pm, .int n0, .int lg, .int sf, .int dg])), (o, .inr (4, [.ref om, .int pl, .int vg, .int fp])), aI E om 9 ma]) C kmX7_22 4 1 rfl rfl 9 rfl (by decide) (by decide) (by decide) rfl (by decide) (Nat.le_of_ble_eq_true rfl) dX7_prepare_12 ?_
  refine g_aload_n C dX7_prepare_15 rfl ?_
  refine g_aload_n C dX7_prepare_16 rfl ?_
  refine g_get C kwX7 0 rfl rfl 0 (by decide) kfX7_15 rfl dX7_prepare_17 ?_
  refine g_get C kwX5 2 rfl rfl 5 (by decide) kfX7_28 rfl dX7_prepare_20 ?_
  refine g_put (ws' := [(w, .inr (7, [.ref p, .ref wm, .int sf, .int dr, .int a0, .int v, .int fl, .int sl])), aI E wm 9 (va_cpy ma wma 0 0 9), (p, .inr (5, [.ref ph, .ref pd, .ref pm, .int n0, .int lg, .int sf, .int dg])), (o, .inr (4, [.ref om, .int pl, .int vg, .int fp])), aI E om 9 ma]) C kwX7 tyX7 tyX7_ok nmX7 0 rfl rfl 2 (by decide) kfX7_34 rfl rfl rfl (Nat.le_of_ble_eq_true rfl) rfl dX7_prepare_23 ?_
  refine g_aload_n C dX7_prepare_26 rfl ?_
  refine g_aload_n C dX7_prepare_27 rfl ?_
  refine g_get C kwX7 0 rfl rfl 0 (by decide) kfX7_15 rfl dX7_prepare_28 ?_
  refine g_get C kwX5 2 rfl rfl 6 (by decide) kfX7_35 rfl dX7_prepare_31 ?_
  refine g_put (ws' := [(w, .inr (7, [.ref p, .ref wm, .int sf, .int dg, .int a0, .int v, .int fl, .int sl])), aI E wm 9 (va_cpy ma wma 0 0 9), (p, .inr (5, [.ref ph, .ref pd, .ref pm, .int n0, .int lg, .int sf, .int dg])), (o, .inr (4, [.ref om, .int pl, .int vg, .int fp])), aI E om 9 ma]) C kwX7 tyX7 tyX7_ok nmX7 0 rfl rfl 3 (by decide) kfX7_38 rfl rfl rfl (Nat.le_of_ble_eq_true rfl) rfl dX7_prepare_34 ?_
  exact g_vret C hR (⟨rfl, rfl⟩) dX7_prepare_37

set_option maxHeartbeats 4000000 in
set_option maxRecDepth 100000 in
theorem c_X7_stand (l : Launch) (E : EX) (w : Nat) (p : Nat) (wm : Nat) (st : Int32) (dr : Int32) (a0 : Int32) (v : Int32) (fl : Int32) (sl : Int32) (x : Int32) (y : Int32) : Ct l E yX7_stand cX7_stand 3 none (rmL 1 0 0) [.ref w, .int x, .int y] [(w, .inr (7, [.ref p, .ref wm, .int st, .int dr, .int a0, .int v, .int fl, .int sl]))] (fun (rv_ : Option Value) (rw_ : va_W) => rv_ = none ∧ rw_ = [(w, .inr (7, [.ref p, .ref wm, .int st, .int dr, .int x, .int y, .int 0, .int 0]))]) 0 0 := by
  refine Ct_of (by decide) (Nat.le_of_ble_eq_true rfl) ?_
  intro k hkl hnl C hR hm
  subst hkl
  show G k E 0 0 0 [some (.ref w), some (.int x), some (.int y)] [] [(w, .inr (7, [.ref p, .ref wm, .int st, .int dr, .int a0, .int v, .int fl, .int sl]))]
  refine g_aload_n C dX7_stand_0 rfl ?_
  refine g_iload_n C dX7_stand_1 rfl ?_
  refine g_put (ws' := [(w, .inr (7, [.ref p, .ref wm, .int st, .int dr, .int x, .int v, .int fl, .int sl]))]) C kwX7 tyX7 tyX7_ok nmX7 0 rfl rfl 4 (by decide) kfX7_39 rfl rfl rfl (Nat.le_of_ble_eq_true rfl) rfl dX7_stand_2 ?_
  refine g_aload_n C dX7_stand_5 rfl ?_
  refine g_iload_n C dX7_stand_6 rfl ?_
  refine g_put (ws' := [(w, .inr (7, [.ref p, .ref wm, .int st, .int dr, .int x, .int y, .int fl, .int sl]))]) C kwX7 tyX7 tyX7_ok nmX7 0 rfl rfl 5 (by decide) kfX7_42 rfl rfl rfl (Nat.le_of_ble_eq_true rfl) rfl dX7_stand_7 ?_
  refine g_aload_n C dX7_stand_10 rfl ?_
  refine g_iconst (v := 0) C dX7_stand_11 (by decide) ?_
  refine g_put (ws' := [(w, .inr (7, [.ref p, .ref wm, .int st, .int dr, .int x, .int y, .int 0, .int sl]))]) C kwX7 tyX7 tyX7_ok nmX7 0 rfl rfl 6 (by decide) kfX7_45 rfl rfl rfl (Nat.le_of_ble_eq_true rfl) rfl dX7_stand_12 ?_
  refine g_aload_n C dX7_stand_15 rfl ?_
  refine g_iconst (v := 0) C dX7_stand_16 (by decide) ?_
  refine g_put (ws' := [(w, .inr (7, [.ref p, .ref wm, .int st, .int dr, .int x, .int y, .int 0, .int 0]))]) C kwX7 tyX7 tyX7_ok nmX7 0 rfl rfl 7 (by decide) kfX7_48 rfl rfl rfl (Nat.le_of_ble_eq_true rfl) rfl dX7_stand_17 ?_
  exact g_vret C hR (⟨rfl, rfl⟩) dX7_stand_20

set_option maxHeartbeats 4000000 in
set_option maxRecDepth 100000 in
theorem lp_X7_land {k : KX} {E : EX} (C : Cx k E cX7_land RX7 (rmL 2 0 0)) (hnl : ∀ j : Nat, j < 2 → j < k.nL) {w : Nat} {p : Nat} {wm : Nat} {st : Int32} {dr : Int32} {fl : Int32} {ph : Nat} {pd : Nat} {pm : Nat} {n : Nat} {lg : Int32} {sf : Int32} {dg : Int32} {hi : Nat → Int32} {de : Nat → Int32} {ma : Nat → Int32} (hn : n ≤ 9) {t : Nat × Int32 × Int32} (hR : Rt k E (fun (rv_ : Option Value) (rw_ : va_W) => rv_ = none ∧ rw_ = [(w, .inr (7, [.ref p, .ref wm, .int st, .int dr, .int (nI (t).1), .int ((t).2.1), .int fl, .int ((t).2.2)])), (p, .inr (5, [.ref ph, .ref pd, .ref pm, .int (nI n), .int lg, .int sf, .int dg])), aI E ph 9 hi, aI E pd 9 de, aI E wm 9 ma]) 0 0 none) : ∀ (f a : Nat) (v sl : Int32), a + f = n → landF hi de ma lg dr f a v sl = t → G k E 0 0 5 [some (.ref w), some (.int (nI a))] [] [(w, .inr (7, [.ref p, .ref wm, .int st, .int dr, .int (nI a), .int v, .int fl, .int sl])), (p, .inr (5, [.ref ph, .ref pd, .ref pm, .int (nI n), .int lg, .int sf, .int dg])), aI E ph 9 hi, aI E pd 9 de, aI E wm 9 ma] := by
  intro f
  induction f with
  | zero =>
    intro a v sl hf ht
    refine g_iload_n C dX7_land_5 rfl ?_
    refine g_aload_n C dX7_land_6 rfl ?_
    refine g_get C kwX7 0 rfl rfl 0 (by decide) kfX7_15 rfl dX7_land_7 ?_
    refine g_get C kwX5 1 rfl rfl 3 (by decide) kfX7_65 rfl dX7_land_10 ?_
    refine g_icmp_ge (tgt := 114) C dX7_land_13 (by decide) (fun c13 => ?_) (fun c13 => ?_)
    · skip
      refine g_aload_n C dX7_land_114 rfl ?_
      refine g_iconst (v := 0) C dX7_land_115 (by decide) ?_
      refine g_put (ws' := [(w, .inr (7, [.ref p, .ref wm, .int st, .int dr, .int (nI a), .int 0, .int fl, .int sl])), (p, .inr (5, [.ref ph, .ref pd, .ref pm, .int (nI n), .int lg, .int sf, .int dg])), aI E ph 9 hi, aI E pd 9 de, aI E wm 9 ma]) C kwX7 tyX7 tyX7_ok nmX7 0 rfl rfl 5 (by decide) kfX7_42 rfl rfl rfl (Nat.le_of_ble_eq_true rfl) rfl dX7_land_116 ?_
      exact g_vret C hR (⟨rfl, by rw [← ht]; rfl⟩) dX7_land_119
    · skip
      exact absurd ((nI_leI (by omega) (by omega)).mpr (by omega)) c13
  | succ f ih =>
    intro a v sl hf ht
    unfold landF at ht
    refine g_iload_n C dX7_land_5 rfl ?_
    refine g_aload_n C dX7_land_6 rfl ?_
    refine g_get C kwX7 0 rfl rfl 0 (by decide) kfX7_15 rfl dX7_land_7 ?_
    refine g_get C kwX5 1 rfl rfl 3 (by decide) kfX7_65 rfl dX7_land_10 ?_
    refine g_icmp_ge (tgt := 114) C dX7_land_13 (by decide) (fun c13 => ?_) (fun c13 => ?_)
    · skip
      exact absurd (nx_ge (by omega) (by omega) c13) (by omega)
    · skip
      refine g_aload_n C dX7_land_16 rfl ?_
      refine g_aload_n C dX7_land_17 rfl ?_
      refine g_get C kwX7 0 rfl rfl 5 (by decide) kfX7_42 rfl dX7_land_18 ?_
      refine g_aload_n C dX7_land_21 rfl ?_
      refine g_get C kwX7 0 rfl rfl 1 (by decide) kfX7_9 rfl dX7_land_22 ?_
      refine g_iload_n C dX7_land_25 rfl ?_
      refine g_iald C 4 a rfl (rfl) (by omega) (by decide) dX7_land_26 ?_
      refine g_isub C dX7_land_27 ?_
      refine g_callSN C (c_X8_asVigour k.l E (v - (ma a))) kcX8_asVigour (by decide) knX8 ktX8_asVigour ⟨rfl, rfl⟩ kdX8_asVigour ⟨by decide, by decide⟩ ⟨by decide, by decide⟩ [] [0, 1, 2, 3, 4] rfl (wr := [(w, .inr (7, [.ref p, .ref wm, .int st, .int dr, .int (nI a), .int v, .int fl, .int sl])), (p, .inr (5, [.ref ph, .ref pd, .ref pm, .int (nI n), .int lg, .int sf, .int dg])), aI E ph 9 hi, aI E pd 9 de, aI E wm 9 ma]) rfl rfl rfl (by decide) rfl (As := [.int (v - (ma a))]) (rest := [.ref w]) rfl (Nat.le_of_ble_eq_true rfl) dX7_land_28 (fun rv_ rw_ hp_ => ?_)
      obtain ⟨rfl, rfl⟩ := hp_
      refine g_rep [0, 1, 2, 3, 4] (ws' := [(w, .inr (7, [.ref p, .ref wm, .int st, .int dr, .int (nI a), .int v, .int fl, .int sl])), (p, .inr (5, [.ref ph, .ref pd, .ref pm, .int (nI n), .int lg, .int sf, .int dg])), aI E ph 9 hi, aI E pd 9 de, aI E wm 9 ma]) (st' := [.int (asV (v - (ma a))), .ref w]) (n' := 0) (z' := 0) (pc' := 31) rfl rfl rfl rfl rfl rfl ?_
      refine g_put (ws' := [(w, .inr (7, [.ref p, .ref wm, .int st, .int dr, .int (nI a), .int (asV (v - (ma a))), .int fl, .int sl])), (p, .inr (5, [.ref ph, .ref pd, .ref pm, .int (nI n), .int lg, .int sf, .int dg])), aI E ph 9 hi, aI E pd 9 de, aI E wm 9 ma]) C kwX7 tyX7 tyX7_ok nmX7 0 rfl rfl 5 (by decide) kfX7_42 rfl rfl rfl (Nat.le_of_ble_eq_true rfl) rfl dX7_land_31 ?_
      refine g_aload_n C dX7_land_34 rfl ?_
      refine g_get C kwX7 0 rfl rfl 5 (by decide) kfX7_42 rfl dX7_land_35 ?_
      refine g_aload_n C dX7_land_38 rfl ?_
      refine g_get C kwX7 0 rfl rfl 0 (by decide) kfX7_15 rfl dX7_land_39 ?_
      refine g_get C kwX5 1 rfl rfl 4 (by decide) kfX7_68 rfl dX7_land_42 ?_
      refine g_aload_n C dX7_land_45 rfl ?_
      refine g_get C kwX7 0 rfl rfl 0 (by decide) kfX7_15 rfl dX7_land_46 ?_
      refine g_get C kwX5 1 rfl rfl 1 (by decide) kfX7_71 rfl dX7_land_49 ?_
      refine g_iload_n C dX7_land_52 rfl ?_
      refine g_iald C 3 a rfl (rfl) (by omega) (by decide) dX7_land_53 ?_
      refine g_iadd C dX7_land_54 ?_
      refine g_icmp_gt (tgt := 59) C dX7_land_55 (by decide) (fun c55 => ?_) (fun c55 => ?_)
      · skip
        refine g_aload_n C dX7_land_59 rfl ?_
        refine g_dup C dX7_land_60 rfl ?_
        refine g_get C kwX7 0 rfl rfl 7 (by decide) kfX7_48 rfl dX7_land_61 ?_
        refine g_iconst (v := 1) C dX7_land_64 (by decide) ?_
        refine g_iload_n C dX7_land_65 rfl ?_
        refine g_ishl C dX7_land_66 ?_
        refine g_ior C dX7_land_67 ?_
        refine g_put (ws' := [(w, .inr (7, [.ref p, .ref wm, .int st, .int dr, .int (nI a), .int (asV (v - (ma a))), .int fl, .int (sl ||| (1 <<< ((nI a) &&& 31)))])), (p, .inr (5, [.ref ph, .ref pd, .ref pm, .int (nI n), .int lg, .int sf, .int dg])), aI E ph 9 hi, aI E pd 9 de, aI E wm 9 ma]) C kwX7 tyX7 tyX7_ok nmX7 0 rfl rfl 7 (by decide) kfX7_48 rfl rfl rfl (Nat.le_of_ble_eq_true rfl) rfl dX7_land_68 ?_
        refine g_aload_n C dX7_land_71 rfl ?_
        refine g_aload_n C dX7_land_72 rfl ?_
        refine g_get C kwX7 0 rfl rfl 5 (by decide) kfX7_42 rfl dX7_land_73 ?_
        refine g_aload_n C dX7_land_76 rfl ?_
        refine g_get C kwX7 0 rfl rfl 0 (by decide) kfX7_15 rfl dX7_land_77 ?_
        refine g_get C kwX5 1 rfl rfl 0 (by decide) kfX7_55 rfl dX7_land_80 ?_
        refine g_iload_n C dX7_land_83 rfl ?_
        refine g_iald C 2 a rfl (rfl) (by omega) (by decide) dX7_land_84 ?_
        refine g_iadd C dX7_land_85 ?_
        refine g_iconst (v := 2) C dX7_land_86 (by decide) ?_
        refine g_aload_n C dX7_land_87 rfl ?_
        refine g_get C kwX7 0 rfl rfl 3 (by decide) kfX7_38 rfl dX7_land_88 ?_
        refine g_imul C dX7_land_91 ?_
        refine g_isub C dX7_land_92 ?_
        refine g_iconst (v := 1) C dX7_land_93 (by decide) ?_
        refine g_isub C dX7_land_94 ?_
        refine g_callSN C (c_X8_asVigour k.l E ((((asV (v - (ma a))) + (hi a)) - (2 * dr)) - 1)) kcX8_asVigour (by decide) knX8 ktX8_asVigour ⟨rfl, rfl⟩ kdX8_asVigour ⟨by decide, by decide⟩ ⟨by decide, by decide⟩ [] [0, 1, 2, 3, 4] rfl (wr := [(w, .inr (7, [.ref p, .ref wm, .int st, .int dr, .int (nI a), .int (asV (v - (ma a))), .int fl, .int (sl ||| (1 <<< ((nI a) &&& 31)))])), (p, .inr (5, [.ref ph, .ref pd, .ref pm, .int (nI n), .int lg, .int sf, .int dg])), aI E ph 9 hi, aI E pd 9 de, aI E wm 9 ma]) rfl rfl rfl (by decide) rfl (As := [.int ((((asV (v - (ma a))) + (hi a)) - (2 * dr)) - 1)]) (rest := [.ref w]) rfl (Nat.le_of_ble_eq_true rfl) dX7_land_95 (fun rv_ rw_ hp_ => ?_)
        obtain ⟨rfl, rfl⟩ := hp_
        refine g_rep [0, 1, 2, 3, 4] (ws' := [(w, .inr (7, [.ref p, .ref wm, .int st, .int dr, .int (nI a), .int (asV (v - (ma a))), .int fl, .int (sl ||| (1 <<< ((nI a) &&& 31)))])), (p, .inr (5, [.ref ph, .ref pd, .ref pm, .int (nI n), .int lg, .int sf, .int dg])), aI E ph 9 hi, aI E pd 9 de, aI E wm 9 ma]) (st' := [.int (asV ((((asV (v - (ma a))) + (hi a)) - (2 * dr)) - 1)), .ref w]) (n' := 0) (z' := 0) (pc' := 98) rfl rfl rfl rfl rfl rfl ?_
        refine g_put (ws' := [(w, .inr (7, [.ref p, .ref wm, .int st, .int dr, .int (nI a), .int (asV ((((asV (v - (ma a))) + (hi a)) - (2 * dr)) - 1)), .int fl, .int (sl ||| (1 <<< ((nI a) &&& 31)))])), (p, .inr (5, [.ref ph, .ref pd, .ref pm, .int (nI n), .int lg, .int sf, .int dg])), aI E ph 9 hi, aI E pd 9 de, aI E wm 9 ma]) C kwX7 tyX7 tyX7_ok nmX7 0 rfl rfl 5 (by decide) kfX7_42 rfl rfl rfl (Nat.le_of_ble_eq_true rfl) rfl dX7_land_98 ?_
        refine g_aload_n C dX7_land_101 rfl ?_
        refine g_iload_n C dX7_land_102 rfl ?_
        refine g_iconst (v := 1) C dX7_land_103 (by decide) ?_
        refine g_iadd C dX7_land_104 ?_
        refine g_topi (v := nI (a + 1)) (nI_1 a) ?_
        refine g_put (ws' := [(w, .inr (7, [.ref p, .ref wm, .int st, .int dr, .int (nI (a + 1)), .int (asV ((((asV (v - (ma a))) + (hi a)) - (2 * dr)) - 1)), .int fl, .int (sl ||| (1 <<< ((nI a) &&& 31)))])), (p, .inr (5, [.ref ph, .ref pd, .ref pm, .int (nI n), .int lg, .int sf, .int dg])), aI E ph 9 hi, aI E pd 9 de, aI E wm 9 ma]) C kwX7 tyX7 tyX7_ok nmX7 0 rfl rfl 4 (by decide) kfX7_39 rfl rfl rfl (Nat.le_of_ble_eq_true rfl) rfl dX7_land_105 ?_
        refine g_iinc (v := nI (a + 1)) (lv' := [some (.ref w), some (.int (nI (a + 1)))]) C dX7_land_108 rfl (nI_add _ 1) (hnl 1 (by decide)) rfl rfl ?_
        refine g_goto (tgt := 5) C dX7_land_111 (by decide) ?_
        refine ih (a + 1) _ _ (by omega) ?_
        rw [if_neg (Int32.not_le.mpr c55)] at ht
        exact ht
      · skip
        exact g_vret C hR (⟨rfl, by rw [← ht, if_pos (Int32.not_lt.mp c55)]⟩) dX7_land_58

set_option maxHeartbeats 4000000 in
set_option maxRecDepth 100000 in
/-- LANDS -/
theorem c_X7_land (l : Launch) (E : EX) (w : Nat) (p : Nat) (wm : Nat) (st : Int32) (dr : Int32) (a : Nat) (v : Int32) (fl : Int32) (sl : Int32) (ph : Nat) (pd : Nat) (pm : Nat) (n : Nat) (lg : Int32) (sf : Int32) (dg : Int32) (hi : Nat → Int32) (de : Nat → Int32) (ma : Nat → Int32) (hn : n ≤ 9) (ha : a ≤ n) : Ct l E yX7_land cX7_land 2 none (rmL 2 0 0) [.ref w] [(w, .inr (7, [.ref p, .ref wm, .int st, .int dr, .int (nI a), .int v, .int fl, .int sl])), (p, .inr (5, [.ref ph, .ref pd, .ref pm, .int (nI n), .int lg, .int sf, .int dg])), aI E ph 9 hi, aI E pd 9 de, aI E wm 9 ma] (fun (rv_ : Option Value) (rw_ : va_W) => rv_ = none ∧ rw_ = [(w, .inr (7, [.ref p, .ref wm, .int st, .int dr, .int (nI (landF hi de ma lg dr (n - a) a v sl).1), .int ((landF hi de ma lg dr (n - a) a v sl).2.1), .int fl, .int ((landF hi de ma lg dr (n - a) a v sl).2.2)])), (p, .inr (5, [.ref ph, .ref pd, .ref pm, .int (nI n), .int lg, .int sf, .int dg])), aI E ph 9 hi, aI E pd 9 de, aI E wm 9 ma]) 0 0 := by
  refine Ct_of (by decide) (Nat.le_of_ble_eq_true rfl) ?_
  intro k hkl hnl C hR hm
  subst hkl
  show G k E 0 0 0 [some (.ref w), none] [] [(w, .inr (7, [.ref p, .ref wm, .int st, .int dr, .int (nI a), .int v, .int fl, .int sl])), (p, .inr (5, [.ref ph, .ref pd, .ref pm, .int (nI n), .int lg, .int sf, .int dg])), aI E ph 9 hi, aI E pd 9 de, aI E wm 9 ma]
  refine g_aload_n C dX7_land_0 rfl ?_
  refine g_get C kwX7 0 rfl rfl 4 (by decide) kfX7_39 rfl dX7_land_1 ?_
  refine g_istore_n (lv' := [some (.ref w), some (.int (nI a))]) C dX7_land_4 (hnl 1 (by decide)) rfl rfl ?_
  exact lp_X7_land C hnl hn hR (n - a) a v sl (by omega) rfl

set_option maxHeartbeats 4000000 in
set_option maxRecDepth 100000 in
/-- a FLIP -/
theorem c_X7_turn (l : Launch) (E : EX) (w : Nat) (p : Nat) (wm : Nat) (st : Int32) (dr : Int32) (a : Nat) (v : Int32) (fl : Int32) (sl : Int32) (ph : Nat) (pd : Nat) (pm : Nat) (n : Nat) (lg : Int32) (sf : Int32) (dg : Int32) (hi : Nat → Int32) (de : Nat → Int32) (ma : Nat → Int32) (hn : n ≤ 9) (ha : a < n) : Ct l E yX7_turn cX7_turn 1 none (rmL 3 0 0) [.ref w] [(w, .inr (7, [.ref p, .ref wm, .int st, .int dr, .int (nI a), .int v, .int fl, .int sl])), (p, .inr (5, [.ref ph, .ref pd, .ref pm, .int (nI n), .int lg, .int sf, .int dg])), aI E ph 9 hi, aI E pd 9 de, aI E wm 9 ma] (fun (rv_ : Option Value) (rw_ : va_W) => rv_ = none ∧ rw_ = [(w, .inr (7, [.ref p, .ref wm, .int st, .int dr, .int (nI (turnF n hi de ma lg st dr a v sl).1), .int ((turnF n hi de ma lg st dr a v sl).2.1), .int (fl + 1), .int ((turnF n hi de ma lg st dr a v sl).2.2)])), (p, .inr (5, [.ref ph, .ref pd, .ref pm, .int (nI n), .int lg, .int sf, .int dg])), aI E ph 9 hi, aI E pd 9 de, aI E wm 9 ma]) 0 0 := by
  refine Ct_of (by decide) (Nat.le_of_ble_eq_true rfl) ?_
  intro k hkl hnl C hR hm
  subst hkl
  show G k E 0 0 0 [some (.ref w)] [] [(w, .inr (7, [.ref p, .ref wm, .int st, .int dr, .int (nI a), .int v, .int fl, .int sl])), (p, .inr (5, [.ref ph, .ref pd, .ref pm, .int (nI n), .int lg, .int sf, .int dg])), aI E ph 9 hi, aI E pd 9 de, aI E wm 9 ma]
  refine g_aload_n C dX7_turn_0 rfl ?_
  refine g_get C kwX7 0 rfl rfl 0 (by decide) kfX7_15 rfl dX7_turn_1 ?_
  refine g_aload_n C dX7_turn_4 rfl ?_
  refine g_get C kwX7 0 rfl rfl 4 (by decide) kfX7_39 rfl dX7_turn_5 ?_
  refine g_callV C (c_X5_has k.l E p ph pd pm (nI n) lg sf dg (nI a)) kmX7_51 kiX5_has ksX5_has knX5 kcX5_has ⟨rfl, rfl⟩ ⟨rfl, kdX5_has⟩ ⟨by decide, by decide⟩ ⟨by decide, by decide⟩ [1] [0, 2, 3, 4] rfl (wr := [(w, .inr (7, [.ref p, .ref wm, .int st, .int dr, .int (nI a), .int v, .int fl, .int sl])), aI E ph 9 hi, aI E pd 9 de, aI E wm 9 ma]) rfl rfl rfl (by decide) 1 5 rfl rfl rfl (As := [.int (nI a)]) (rest := []) rfl (Nat.le_of_ble_eq_true rfl) dX7_turn_8 (fun rv_ rw_ hp_ => ?_)
  obtain ⟨rfl, rfl⟩ := hp_
  refine g_rep [0, 4, 1, 2, 3] (ws' := [(w, .inr (7, [.ref p, .ref wm, .int st, .int dr, .int (nI a), .int v, .int fl, .int sl])), (p, .inr (5, [.ref ph, .ref pd, .ref pm, .int (nI n), .int lg, .int sf, .int dg])), aI E ph 9 hi, aI E pd 9 de, aI E wm 9 ma]) (st' := [.int (bI (0 ≤ (nI a) ∧ (nI a) ≤ (nI n) - 1))]) (n' := 0) (z' := 0) (pc' := 11) rfl rfl rfl rfl rfl rfl ?_
  refine g_if_ne (tgt := 15) C dX7_turn_11 (by decide) (fun c11 => ?_) (fun c11 => ?_)
  · skip
    refine g_aload_n C dX7_turn_15 rfl ?_
    refine g_dup C dX7_turn_16 rfl ?_
    refine g_get C kwX7 0 rfl rfl 6 (by decide) kfX7_45 rfl dX7_turn_17 ?_
    refine g_iconst (v := 1) C dX7_turn_20 (by decide) ?_
    refine g_iadd C dX7_turn_21 ?_
    refine g_put (ws' := [(w, .inr (7, [.ref p, .ref wm, .int st, .int dr, .int (nI a), .int v, .int (fl + 1), .int sl])), (p, .inr (5, [.ref ph, .ref pd, .ref pm, .int (nI n), .int lg, .int sf, .int dg])), aI E ph 9 hi, aI E pd 9 de, aI E wm 9 ma]) C kwX7 tyX7 tyX7_ok nmX7 0 rfl rfl 6 (by decide) kfX7_45 rfl rfl rfl (Nat.le_of_ble_eq_true rfl) rfl dX7_turn_22 ?_
    refine g_aload_n C dX7_turn_25 rfl ?_
    refine g_get C kwX7 0 rfl rfl 5 (by decide) kfX7_42 rfl dX7_turn_26 ?_
    refine g_aload_n C dX7_turn_29 rfl ?_
    refine g_get C kwX7 0 rfl rfl 2 (by decide) kfX7_34 rfl dX7_turn_30 ?_
    refine g_icmp_ge (tgt := 42) C dX7_turn_33 (by decide) (fun c33 => ?_) (fun c33 => ?_)
    · skip
      refine g_aload_n C dX7_turn_42 rfl ?_
      refine g_aload_n C dX7_turn_43 rfl ?_
      refine g_get C kwX7 0 rfl rfl 5 (by decide) kfX7_42 rfl dX7_turn_44 ?_
      refine g_aload_n C dX7_turn_47 rfl ?_
      refine g_get C kwX7 0 rfl rfl 2 (by decide) kfX7_34 rfl dX7_turn_48 ?_
      refine g_isub C dX7_turn_51 ?_
      refine g_aload_n C dX7_turn_52 rfl ?_
      refine g_get C kwX7 0 rfl rfl 0 (by decide) kfX7_15 rfl dX7_turn_53 ?_
      refine g_get C kwX5 1 rfl rfl 0 (by decide) kfX7_55 rfl dX7_turn_56 ?_
      refine g_aload_n C dX7_turn_59 rfl ?_
      refine g_get C kwX7 0 rfl rfl 4 (by decide) kfX7_39 rfl dX7_turn_60 ?_
      refine g_iald C 2 a rfl (rfl) (by omega) (by decide) dX7_turn_63 ?_
      refine g_iadd C dX7_turn_64 ?_
      refine g_aload_n C dX7_turn_65 rfl ?_
      refine g_get C kwX7 0 rfl rfl 3 (by decide) kfX7_38 rfl dX7_turn_66 ?_
      refine g_isub C dX7_turn_69 ?_
      refine g_callSN C (c_X8_asVigour k.l E (((v - st) + (hi a)) - dr)) kcX8_asVigour (by decide) knX8 ktX8_asVigour ⟨rfl, rfl⟩ kdX8_asVigour ⟨by decide, by decide⟩ ⟨by decide, by decide⟩ [] [0, 1, 2, 3, 4] rfl (wr := [(w, .inr (7, [.ref p, .ref wm, .int st, .int dr, .int (nI a), .int v, .int (fl + 1), .int sl])), (p, .inr (5, [.ref ph, .ref pd, .ref pm, .int (nI n), .int lg, .int sf, .int dg])), aI E ph 9 hi, aI E pd 9 de, aI E wm 9 ma]) rfl rfl rfl (by decide) rfl (As := [.int (((v - st) + (hi a)) - dr)]) (rest := [.ref w]) rfl (Nat.le_of_ble_eq_true rfl) dX7_turn_70 (fun rv_ rw_ hp_ => ?_)
      obtain ⟨rfl, rfl⟩ := hp_
      refine g_rep [0, 1, 2, 3, 4] (ws' := [(w, .inr (7, [.ref p, .ref wm, .int st, .int dr, .int (nI a), .int v, .int (fl + 1), .int sl])), (p, .inr (5, [.ref ph, .ref pd, .ref pm, .int (nI n), .int lg, .int sf, .int dg])), aI E ph 9 hi, aI E pd 9 de, aI E wm 9 ma]) (st' := [.int (asV (((v - st) + (hi a)) - dr)), .ref w]) (n' := 0) (z' := 0) (pc' := 73) rfl rfl rfl rfl rfl rfl ?_
      refine g_put (ws' := [(w, .inr (7, [.ref p, .ref wm, .int st, .int dr, .int (nI a), .int (asV (((v - st) + (hi a)) - dr)), .int (fl + 1), .int sl])), (p, .inr (5, [.ref ph, .ref pd, .ref pm, .int (nI n), .int lg, .int sf, .int dg])), aI E ph 9 hi, aI E pd 9 de, aI E wm 9 ma]) C kwX7 tyX7 tyX7_ok nmX7 0 rfl rfl 5 (by decide) kfX7_42 rfl rfl rfl (Nat.le_of_ble_eq_true rfl) rfl dX7_turn_73 ?_
      refine g_aload_n C dX7_turn_76 rfl ?_
      refine g_dup C dX7_turn_77 rfl ?_
      refine g_get C kwX7 0 rfl rfl 4 (by decide) kfX7_39 rfl dX7_turn_78 ?_
      refine g_iconst (v := 1) C dX7_turn_81 (by decide) ?_
      refine g_iadd C dX7_turn_82 ?_
      refine g_topi (v := nI (a + 1)) (nI_1 a) ?_
      refine g_put (ws' := [(w, .inr (7, [.ref p, .ref wm, .int st, .int dr, .int (nI (a + 1)), .int (asV (((v - st) + (hi a)) - dr)), .int (fl + 1), .int sl])), (p, .inr (5, [.ref ph, .ref pd, .ref pm, .int (nI n), .int lg, .int sf, .int dg])), aI E ph 9 hi, aI E pd 9 de, aI E wm 9 ma]) C kwX7 tyX7 tyX7_ok nmX7 0 rfl rfl 4 (by decide) kfX7_39 rfl rfl rfl (Nat.le_of_ble_eq_true rfl) rfl dX7_turn_83 ?_
      refine g_aload_n C dX7_turn_86 rfl ?_
      refine g_callV C (c_X7_land k.l E w p wm st dr (a + 1) (asV (((v - st) + (hi a)) - dr)) (fl + 1) sl ph pd pm n lg sf dg hi de ma (by first | assumption | omega) (by first | assumption | omega)) kmX7_62 kiX7_land ksX7_land knX7 kcX7_land ⟨rfl, rfl⟩ ⟨rfl, kdX7_land⟩ ⟨by decide, by decide⟩ ⟨by decide, by decide⟩ [0, 1, 2, 3, 4] [] rfl (wr := []) rfl rfl rfl (by decide) 0 7 rfl rfl rfl (As := []) (rest := []) rfl (Nat.le_of_ble_eq_true rfl) dX7_turn_87 (fun rv_ rw_ hp_ => ?_)
      obtain ⟨rfl, rfl⟩ := hp_
      refine g_rep [0, 1, 2, 3, 4] (ws' := [(w, .inr (7, [.ref p, .ref wm, .int st, .int dr, .int (nI (landF hi de ma lg dr (n - (a + 1)) (a + 1) (asV (((v - st) + (hi a)) - dr)) sl).1), .int ((landF hi de ma lg dr (n - (a + 1)) (a + 1) (asV (((v - st) + (hi a)) - dr)) sl).2.1), .int (fl + 1), .int ((landF hi de ma lg dr (n - (a + 1)) (a + 1) (asV (((v - st) + (hi a)) - dr)) sl).2.2)])), (p, .inr (5, [.ref ph, .ref pd, .ref pm, .int (nI n), .int lg, .int sf, .int dg])), aI E ph 9 hi, aI E pd 9 de, aI E wm 9 ma]) (st' := []) (n' := 0) (z' := 0) (pc' := 90) rfl rfl rfl rfl rfl rfl ?_
      exact g_vret C hR (⟨rfl, by simp only [turnF, if_pos c33]⟩) dX7_turn_90
    · skip
      refine g_aload_n C dX7_turn_36 rfl ?_
      refine g_iconst (v := 0) C dX7_turn_37 (by decide) ?_
      refine g_put (ws' := [(w, .inr (7, [.ref p, .ref wm, .int st, .int dr, .int (nI a), .int 0, .int (fl + 1), .int sl])), (p, .inr (5, [.ref ph, .ref pd, .ref pm, .int (nI n), .int lg, .int sf, .int dg])), aI E ph 9 hi, aI E pd 9 de, aI E wm 9 ma]) C kwX7 tyX7 tyX7_ok nmX7 0 rfl rfl 5 (by decide) kfX7_42 rfl rfl rfl (Nat.le_of_ble_eq_true rfl) rfl dX7_turn_38 ?_
      exact g_vret C hR (⟨rfl, by simp only [turnF, if_neg c33]⟩) dX7_turn_41
  · skip
    exact absurd (has_t ha (by omega)) (bI_0 c11)

set_option maxHeartbeats 4000000 in
set_option maxRecDepth 100000 in
theorem lp_X7_run {k : KX} {E : EX} (C : Cx k E cX7_run RX7 (rmL 4 0 0)) (hnl : ∀ j : Nat, j < 4 → j < k.nL) {w : Nat} {p : Nat} {wm : Nat} {st : Int32} {dr : Int32} {ph : Nat} {pd : Nat} {pm : Nat} {n : Nat} {lg : Int32} {sf : Int32} {dg : Int32} {hi : Nat → Int32} {de : Nat → Int32} {ma : Nat → Int32} {b : Nat} {y : Int32} (hn : n ≤ 9) {t : Nat × Int32 × Int32 × Int32} (hR : Rt k E (fun (rv_ : Option Value) (rw_ : va_W) => rv_ = some (.int (nI t.1)) ∧ rw_ = [(w, .inr (7, [.ref p, .ref wm, .int st, .int dr, .int (nI (t).1), .int ((t).2.1), .int ((t).2.2.2), .int ((t).2.2.1)])), (p, .inr (5, [.ref ph, .ref pd, .ref pm, .int (nI n), .int lg, .int sf, .int dg])), aI E ph 9 hi, aI E pd 9 de, aI E wm 9 ma]) 0 0 (some .int)) : ∀ (f i a : Nat) (v sl fl : Int32), i + f = 9 → a ≤ n → runF n hi de ma lg st dr f a v sl fl = t → G k E 0 0 8 [some (.ref w), some (.int (nI b)), some (.int y), some (.int (nI i))] [] [(w, .inr (7, [.ref p, .ref wm, .int st, .int dr, .int (nI a), .int v, .int fl, .int sl])), (p, .inr (5, [.ref ph, .ref pd, .ref pm, .int (nI n), .int lg, .int sf, .int dg])), aI E ph 9 hi, aI E pd 9 de, aI E wm 9 ma] := by
  intro f
  induction f with
  | zero =>
    intro i a v sl fl hi9 ha ht
    refine g_iload_n C dX7_run_8 rfl ?_
    refine g_bipush (v := 9) C dX7_run_9 (by decide) ?_
    refine g_icmp_ge (tgt := 45) C dX7_run_11 (by decide) (fun c11 => ?_) (fun c11 => ?_)
    · skip
      refine g_aload_n C dX7_run_45 rfl ?_
      refine g_get C kwX7 0 rfl rfl 4 (by decide) kfX7_39 rfl dX7_run_46 ?_
      exact g_iret C hR (⟨by rw [← ht]; rfl, by rw [← ht]; rfl⟩) dX7_run_49
    · skip
      exact absurd ((nI_leI (a := 9) (by decide) (by omega)).mpr (by omega)) c11
  | succ f ih =>
    intro i a v sl fl hi9 ha ht
    unfold runF at ht
    refine g_iload_n C dX7_run_8 rfl ?_
    refine g_bipush (v := 9) C dX7_run_9 (by decide) ?_
    refine g_icmp_ge (tgt := 45) C dX7_run_11 (by decide) (fun c11 => ?_) (fun c11 => ?_)
    · skip
      exact absurd ((nI_leI (a := 9) (by decide) (by omega)).mp c11) (by omega)
    · skip
      refine g_aload_n C dX7_run_14 rfl ?_
      refine g_get C kwX7 0 rfl rfl 5 (by decide) kfX7_42 rfl dX7_run_15 ?_
      refine g_if_le (tgt := 45) C dX7_run_18 (by decide) (fun c18 => ?_) (fun c18 => ?_)
      · skip
        rw [if_neg (fun q => Int32.not_le.mpr q.1 c18)] at ht
        refine g_aload_n C dX7_run_45 rfl ?_
        refine g_get C kwX7 0 rfl rfl 4 (by decide) kfX7_39 rfl dX7_run_46 ?_
        exact g_iret C hR (⟨by rw [← ht], by rw [← ht]⟩) dX7_run_49
      · skip
        refine g_aload_n C dX7_run_21 rfl ?_
        refine g_get C kwX7 0 rfl rfl 0 (by decide) kfX7_15 rfl dX7_run_22 ?_
        refine g_aload_n C dX7_run_25 rfl ?_
        refine g_get C kwX7 0 rfl rfl 4 (by decide) kfX7_39 rfl dX7_run_26 ?_
        refine g_callV C (c_X5_has k.l E p ph pd pm (nI n) lg sf dg (nI a)) kmX7_51 kiX5_has ksX5_has knX5 kcX5_has ⟨rfl, rfl⟩ ⟨rfl, kdX5_has⟩ ⟨by decide, by decide⟩ ⟨by decide, by decide⟩ [1] [0, 2, 3, 4] rfl (wr := [(w, .inr (7, [.ref p, .ref wm, .int st, .int dr, .int (nI a), .int v, .int fl, .int sl])), aI E ph 9 hi, aI E pd 9 de, aI E wm 9 ma]) rfl rfl rfl (by decide) 1 5 rfl rfl rfl (As := [.int (nI a)]) (rest := []) rfl (Nat.le_of_ble_eq_true rfl) dX7_run_29 (fun rv_ rw_ hp_ => ?_)
        obtain ⟨rfl, rfl⟩ := hp_
        refine g_rep [0, 4, 1, 2, 3] (ws' := [(w, .inr (7, [.ref p, .ref wm, .int st, .int dr, .int (nI a), .int v, .int fl, .int sl])), (p, .inr (5, [.ref ph, .ref pd, .ref pm, .int (nI n), .int lg, .int sf, .int dg])), aI E ph 9 hi, aI E pd 9 de, aI E wm 9 ma]) (st' := [.int (bI (0 ≤ (nI a) ∧ (nI a) ≤ (nI n) - 1))]) (n' := 0) (z' := 0) (pc' := 32) rfl rfl rfl rfl rfl rfl ?_
        refine g_if_eq (tgt := 45) C dX7_run_32 (by decide) (fun c32 => ?_) (fun c32 => ?_)
        · skip
          rw [if_neg (fun q => bI_0 c32 (has_t q.2 (by omega)))] at ht
          refine g_aload_n C dX7_run_45 rfl ?_
          refine g_get C kwX7 0 rfl rfl 4 (by decide) kfX7_39 rfl dX7_run_46 ?_
          exact g_iret C hR (⟨by rw [← ht], by rw [← ht]⟩) dX7_run_49
        · skip
          have ha2 := has_nat (by omega) (by omega) (bI_1 c32)
          rw [if_pos ⟨Int32.not_le.mp c18, ha2⟩] at ht
          refine g_aload_n C dX7_run_35 rfl ?_
          refine g_callV C (c_X7_turn k.l E w p wm st dr a v fl sl ph pd pm n lg sf dg hi de ma (by first | assumption | omega) (ha2)) kmX7_78 kiX7_turn ksX7_turn knX7 kcX7_turn ⟨rfl, rfl⟩ ⟨rfl, kdX7_turn⟩ ⟨by decide, by decide⟩ ⟨by decide, by decide⟩ [0, 1, 2, 3, 4] [] rfl (wr := []) rfl rfl rfl (by decide) 0 7 rfl rfl rfl (As := []) (rest := []) rfl (Nat.le_of_ble_eq_true rfl) dX7_run_36 (fun rv_ rw_ hp_ => ?_)
          obtain ⟨rfl, rfl⟩ := hp_
          refine g_rep [0, 1, 2, 3, 4] (ws' := [(w, .inr (7, [.ref p, .ref wm, .int st, .int dr, .int (nI (turnF n hi de ma lg st dr a v sl).1), .int ((turnF n hi de ma lg st dr a v sl).2.1), .int (fl + 1), .int ((turnF n hi de ma lg st dr a v sl).2.2)])), (p, .inr (5, [.ref ph, .ref pd, .ref pm, .int (nI n), .int lg, .int sf, .int dg])), aI E ph 9 hi, aI E pd 9 de, aI E wm 9 ma]) (st' := []) (n' := 0) (z' := 0) (pc' := 39) rfl rfl rfl rfl rfl rfl ?_
          refine g_iinc (v := nI (i + 1)) (lv' := [some (.ref w), some (.int (nI b)), some (.int y), some (.int (nI (i + 1)))]) C dX7_run_39 rfl (nI_add _ 1) (hnl 3 (by decide)) rfl rfl ?_
          refine g_goto (tgt := 8) C dX7_run_42 (by decide) ?_
          exact ih (i + 1) _ _ _ _ (by omega) (turnF_le ha2).2 ht

set_option maxHeartbeats 4000000 in
set_option maxRecDepth 100000 in
/-- RUN -/
theorem c_X7_run (l : Launch) (E : EX) (w : Nat) (p : Nat) (wm : Nat) (st : Int32) (dr : Int32) (a0 : Int32) (v : Int32) (fl : Int32) (sl : Int32) (ph : Nat) (pd : Nat) (pm : Nat) (n : Nat) (lg : Int32) (sf : Int32) (dg : Int32) (hi : Nat → Int32) (de : Nat → Int32) (ma : Nat → Int32) (b : Nat) (y : Int32) (hn : n ≤ 9) (hb : b ≤ n) : Ct l E yX7_run cX7_run 4 (some .int) (rmL 4 0 0) [.ref w, .int (nI b), .int y] [(w, .inr (7, [.ref p, .ref wm, .int st, .int dr, .int a0, .int v, .int fl, .int sl])), (p, .inr (5, [.ref ph, .ref pd, .ref pm, .int (nI n), .int lg, .int sf, .int dg])), aI E ph 9 hi, aI E pd 9 de, aI E wm 9 ma] (fun (rv_ : Option Value) (rw_ : va_W) => rv_ = some (.int (nI (runF n hi de ma lg st dr 9 b y 0 0).1)) ∧ rw_ = [(w, .inr (7, [.ref p, .ref wm, .int st, .int dr, .int (nI (runF n hi de ma lg st dr 9 b y 0 0).1), .int ((runF n hi de ma lg st dr 9 b y 0 0).2.1), .int ((runF n hi de ma lg st dr 9 b y 0 0).2.2.2), .int ((runF n hi de ma lg st dr 9 b y 0 0).2.2.1)])), (p, .inr (5, [.ref ph, .ref pd, .ref pm, .int (nI n), .int lg, .int sf, .int dg])), aI E ph 9 hi, aI E pd 9 de, aI E wm 9 ma]) 0 0 := by
  refine Ct_of (by decide) (Nat.le_of_ble_eq_true rfl) ?_
  intro k hkl hnl C hR hm
  subst hkl
  show G k E 0 0 0 [some (.ref w), some (.int (nI b)), some (.int y), none] [] [(w, .inr (7, [.ref p, .ref wm, .int st, .int dr, .int a0, .int v, .int fl, .int sl])), (p, .inr (5, [.ref ph, .ref pd, .ref pm, .int (nI n), .int lg, .int sf, .int dg])), aI E ph 9 hi, aI E pd 9 de, aI E wm 9 ma]
  refine g_aload_n C dX7_run_0 rfl ?_
  refine g_iload_n C dX7_run_1 rfl ?_
  refine g_iload_n C dX7_run_2 rfl ?_
  refine g_callV C (c_X7_stand k.l E w p wm st dr a0 v fl sl (nI b) y) kmX7_74 kiX7_stand ksX7_stand knX7 kcX7_stand ⟨rfl, rfl⟩ ⟨rfl, kdX7_stand⟩ ⟨by decide, by decide⟩ ⟨by decide, by decide⟩ [0] [1, 2, 3, 4] rfl (wr := [(p, .inr (5, [.ref ph, .ref pd, .ref pm, .int (nI n), .int lg, .int sf, .int dg])), aI E ph 9 hi, aI E pd 9 de, aI E wm 9 ma]) rfl rfl rfl (by decide) 0 7 rfl rfl rfl (As := [.int (nI b), .int y]) (rest := []) rfl (Nat.le_of_ble_eq_true rfl) dX7_run_3 (fun rv_ rw_ hp_ => ?_)
  obtain ⟨rfl, rfl⟩ := hp_
  refine g_rep [4, 0, 1, 2, 3] (ws' := [(w, .inr (7, [.ref p, .ref wm, .int st, .int dr, .int (nI b), .int y, .int 0, .int 0])), (p, .inr (5, [.ref ph, .ref pd, .ref pm, .int (nI n), .int lg, .int sf, .int dg])), aI E ph 9 hi, aI E pd 9 de, aI E wm 9 ma]) (st' := []) (n' := 0) (z' := 0) (pc' := 6) rfl rfl rfl rfl rfl rfl ?_
  refine g_iconst (v := 0) C dX7_run_6 (by decide) ?_
  refine g_istore_n (lv' := [some (.ref w), some (.int (nI b)), some (.int y), some (.int 0)]) C dX7_run_7 (hnl 3 (by decide)) rfl rfl ?_
  exact lp_X7_run C hnl hn hR 9 0 b y 0 0 (by omega) hb rfl
end
section
def fillF (f : Nat → Int32) (i : Nat) (x : Int32) : Nat → Int32 := fun j => if j < i then x else f j
theorem fillF_0 (f : Nat → Int32) (x : Int32) : fillF f 0 x = f := by funext j; simp [fillF]
theorem fillF_1 (f : Nat → Int32) (i : Nat) (x : Int32) : upd (fillF f i x) i x = fillF f (i + 1) x := by
  funext j
  unfold upd fillF
  by_cases h : j = i
  · subst h; simp
  · rw [if_neg h]
    by_cases h2 : j < i
    · rw [if_pos h2, if_pos (by omega)]
    · rw [if_neg h2, if_neg (by omega)]
def updA (f : Nat → Nat → Int32) (k : Nat) (x : Nat → Int32) : Nat → Nat → Int32 := fun j => if j = k then x else f j

set_option maxHeartbeats 4000000 in
set_option maxRecDepth 100000 in
theorem lp_J7_fill {k : KX} {E : EX} (C : Cx k E cJ7_fill_53178 RJ7 (rmL 1 0 0)) (hnl : ∀ j : Nat, j < 4 → j < k.nL) {a m : Nat} {f : Nat → Int32} {x : Int32} (hm2 : m < 2 ^ 31) (hR : Rt k E (fun (rv_ : Option Value) (rw_ : va_W) => rv_ = none ∧ rw_ = [aI E a m (fillF f m x)]) 0 0 none) : ∀ (g i : Nat), i + g = m → G k E 0 0 5 [some (.ref a), some (.int x), some (.int (nI i)), some (.int (nI m))] [] [aI E a m (fillF f i x)] := by
  intro g
  induction g with
  | zero =>
    intro i hi
    refine g_iload_n C dJ7_fill_53178_5 rfl ?_
    refine g_iload_n C dJ7_fill_53178_6 rfl ?_
    refine g_icmp_ge (tgt := 20) C dJ7_fill_53178_7 (by decide) (fun c7 => ?_) (fun c7 => ?_)
    · skip
      have e : i = m := by omega
      subst e
      exact g_vret C hR (⟨rfl, rfl⟩) dJ7_fill_53178_20
    · skip
      exact absurd ((nI_leI hm2 (by omega)).mpr (by omega)) c7
  | succ g ih =>
    intro i hi
    refine g_iload_n C dJ7_fill_53178_5 rfl ?_
    refine g_iload_n C dJ7_fill_53178_6 rfl ?_
    refine g_icmp_ge (tgt := 20) C dJ7_fill_53178_7 (by decide) (fun c7 => ?_) (fun c7 => ?_)
    · skip
      exact absurd ((nI_leI hm2 (by omega)).mp c7) (by omega)
    · skip
      refine g_aload_n C dJ7_fill_53178_10 rfl ?_
      refine g_iload_n C dJ7_fill_53178_11 rfl ?_
      refine g_iload_n C dJ7_fill_53178_12 rfl ?_
      refine g_iast (ws' := [aI E a m (fillF f (i + 1) x)]) C 0 i rfl (rfl) (by omega) hm2 (by rw [← fillF_1]; rfl) dJ7_fill_53178_13 ?_
      refine g_iinc (v := nI (i + 1)) (lv' := [some (.ref a), some (.int x), some (.int (nI (i + 1))), some (.int (nI m))]) C dJ7_fill_53178_14 rfl (nI_add _ 1) (hnl 2 (by decide)) rfl rfl ?_
      refine g_goto (tgt := 5) C dJ7_fill_53178_17 (by decide) ?_
      exact ih (i + 1) (by omega)

set_option maxHeartbeats 4000000 in
set_option maxRecDepth 100000 in
/-- Arrays.fill -/
theorem c_J7_fill (l : Launch) (E : EX) (a : Nat) (m : Nat) (f : Nat → Int32) (x : Int32) (hm2 : m < 2 ^ 31) : Ct l E yJ7_fill_53178 cJ7_fill_53178 4 none (rmL 1 0 0) [.ref a, .int x] [aI E a m f] (fun (rv_ : Option Value) (rw_ : va_W) => rv_ = none ∧ rw_ = [aI E a m (fillF f m x)]) 0 0 := by
  refine Ct_of (by decide) (Nat.le_of_ble_eq_true rfl) ?_
  intro k hkl hnl C hR hm
  subst hkl
  show G k E 0 0 0 [some (.ref a), some (.int x), none, none] [] [aI E a m f]
  refine g_iconst (v := 0) C dJ7_fill_53178_0 (by decide) ?_
  refine g_istore_n (lv' := [some (.ref a), some (.int x), some (.int 0), none]) C dJ7_fill_53178_1 (hnl 2 (by decide)) rfl rfl ?_
  refine g_aload_n C dJ7_fill_53178_2 rfl ?_
  refine g_alen C 0 rfl dJ7_fill_53178_3 ?_
  refine g_istore_n (lv' := [some (.ref a), some (.int x), some (.int 0), some (.int (nI m))]) C dJ7_fill_53178_4 (hnl 3 (by decide)) rfl rfl ?_
  have h0 := lp_J7_fill (f := f) C hnl hm2 hR m 0 (by omega)
  rw [fillF_0] at h0
  exact h0

set_option maxHeartbeats 4000000 in
set_option maxRecDepth 100000 in
/-- Plan() -/
theorem c_X5_init (l : Launch) (E : EX) (p : Nat) : Ct l E yX5_init cX5_init 1 none (rmL 2 3 27) [.ref p] [(p, .inr (5, [.null, .null, .null, .int 0, .int 0, .int 0, .int 0]))] (fun (rv_ : Option Value) (rw_ : va_W) => ∃ (ph : Nat) (pd : Nat) (pm : Nat), rv_ = none ∧ rw_ = [(p, .inr (5, [.ref ph, .ref pd, .ref pm, .int 0, .int 4, .int 3, .int 1])), aI E ph 9 (fun _ => 0), aI E pd 9 (fun _ => 0), aI E pm 9 (fun _ => 0)]) 3 27 := by
  refine Ct_of (by decide) (Nat.le_of_ble_eq_true rfl) ?_
  intro k hkl hnl C hR hm
  subst hkl
  show G k E 0 0 0 [some (.ref p)] [] [(p, .inr (5, [.null, .null, .null, .int 0, .int 0, .int 0, .int 0]))]
  refine g_aload_n C dX5_init_0 rfl ?_
  refine g_obj C kmX5_3 (by decide) (Nat.le_of_ble_eq_true rfl) dX5_init_1 ?_
  refine g_aload_n C dX5_init_4 rfl ?_
  refine g_bipush (v := 9) C dX5_init_5 (by decide) ?_
  refine g_newI C 9 rfl (by decide) (by decide) (by decide) dX5_init_7 (fun ph => ?_)
  refine g_re (ws' := [(p, .inr (5, [.null, .null, .null, .int 0, .int 0, .int 0, .int 0])), aI E ph 9 (fun _ => 0)]) (st' := [.ref ph, .ref p]) (n' := 1) (z' := 9) (pc' := 9) rfl rfl rfl rfl ?_
  refine g_putF (ws' := [(p, .inr (5, [.ref ph, .null, .null, .int 0, .int 0, .int 0, .int 0])), aI E ph 9 (fun _ => 0)]) C hm kwX5 tyX5 tyX5_ok nmX5 0 rfl rfl 0 (by decide) kfX5_9 rfl rfl rfl rfl (Nat.le_of_ble_eq_true rfl) rfl dX5_init_9 ?_
  refine g_aload_n C dX5_init_12 rfl ?_
  refine g_bipush (v := 9) C dX5_init_13 (by decide) ?_
  refine g_newI C 9 rfl (by decide) (by decide) (by decide) dX5_init_15 (fun pd => ?_)
  refine g_re (ws' := [(p, .inr (5, [.ref ph, .null, .null, .int 0, .int 0, .int 0, .int 0])), aI E ph 9 (fun _ => 0), aI E pd 9 (fun _ => 0)]) (st' := [.ref pd, .ref p]) (n' := 2) (z' := 18) (pc' := 17) rfl rfl rfl rfl ?_
  refine g_putF (ws' := [(p, .inr (5, [.ref ph, .ref pd, .null, .int 0, .int 0, .int 0, .int 0])), aI E ph 9 (fun _ => 0), aI E pd 9 (fun _ => 0)]) C hm kwX5 tyX5 tyX5_ok nmX5 0 rfl rfl 1 (by decide) kfX5_15 rfl rfl rfl rfl (Nat.le_of_ble_eq_true rfl) rfl dX5_init_17 ?_
  refine g_aload_n C dX5_init_20 rfl ?_
  refine g_bipush (v := 9) C dX5_init_21 (by decide) ?_
  refine g_newI C 9 rfl (by decide) (by decide) (by decide) dX5_init_23 (fun pm => ?_)
  refine g_re (ws' := [(p, .inr (5, [.ref ph, .ref pd, .null, .int 0, .int 0, .int 0, .int 0])), aI E ph 9 (fun _ => 0), aI E pd 9 (fun _ => 0), aI E pm 9 (fun _ => 0)]) (st' := [.ref pm, .ref p]) (n' := 3) (z' := 27) (pc' := 25) rfl rfl rfl rfl ?_
  refine g_putF (ws' := [(p, .inr (5, [.ref ph, .ref pd, .ref pm, .int 0, .int 0, .int 0, .int 0])), aI E ph 9 (fun _ => 0), aI E pd 9 (fun _ => 0), aI E pm 9 (fun _ => 0)]) C hm kwX5 tyX5 tyX5_ok nmX5 0 rfl rfl 2 (by decide) kfX5_18 rfl rfl rfl rfl (Nat.le_of_ble_eq_true rfl) rfl dX5_init_25 ?_
  refine g_aload_n C dX5_init_28 rfl ?_
  refine g_callV C (c_X5_empty k.l E p ph pd pm 0 0 0 0) kmX5_21 kiX5_empty ksX5_empty knX5 kcX5_empty ⟨rfl, rfl⟩ ⟨rfl, kdX5_empty⟩ ⟨by decide, by decide⟩ ⟨by decide, by decide⟩ [0] [1, 2, 3] rfl (wr := [aI E ph 9 (fun _ => 0), aI E pd 9 (fun _ => 0), aI E pm 9 (fun _ => 0)]) rfl rfl rfl (by decide) 0 5 rfl rfl rfl (As := []) (rest := []) rfl (Nat.le_of_ble_eq_true rfl) dX5_init_29 (fun rv_ rw_ hp_ => ?_)
  obtain ⟨rfl, rfl⟩ := hp_
  refine g_rep [3, 0, 1, 2] (ws' := [(p, .inr (5, [.ref ph, .ref pd, .ref pm, .int 0, .int 4, .int 3, .int 1])), aI E ph 9 (fun _ => 0), aI E pd 9 (fun _ => 0), aI E pm 9 (fun _ => 0)]) (st' := []) (n' := 3) (z' := 27) (pc' := 32) rfl rfl rfl rfl rfl rfl ?_
  exact g_vret C hR (⟨ph, pd, pm, rfl, rfl⟩) dX5_init_32

set_option maxHeartbeats 4000000 in
set_option maxRecDepth 100000 in
/-- Moment() -/
theorem c_X4_init (l : Launch) (E : EX) (o : Nat) : Ct l E yX4_init cX4_init 1 none (rmL 1 1 9) [.ref o] [(o, .inr (4, [.null, .int 0, .int 0, .int 0]))] (fun (rv_ : Option Value) (rw_ : va_W) => ∃ (om : Nat), rv_ = none ∧ rw_ = [(o, .inr (4, [.ref om, .int 0, .int 0, .int 0])), aI E om 9 (fun _ => 0)]) 1 9 := by
  refine Ct_of (by decide) (Nat.le_of_ble_eq_true rfl) ?_
  intro k hkl hnl C hR hm
  subst hkl
  show G k E 0 0 0 [some (.ref o)] [] [(o, .inr (4, [.null, .int 0, .int 0, .int 0]))]
  refine g_aload_n C dX4_init_0 rfl ?_
  refine g_obj C kmX4_3 (by decide) (Nat.le_of_ble_eq_true rfl) dX4_init_1 ?_
  refine g_aload_n C dX4_init_4 rfl ?_
  refine g_bipush (v := 9) C dX4_init_5 (by decide) ?_
  refine g_newI C 9 rfl (by decide) (by decide) (by decide) dX4_init_7 (fun om => ?_)
  refine g_re (ws' := [(o, .inr (4, [.null, .int 0, .int 0, .int 0])), aI E om 9 (fun _ => 0)]) (st' := [.ref om, .ref o]) (n' := 1) (z' := 9) (pc' := 9) rfl rfl rfl rfl ?_
  refine g_putF (ws' := [(o, .inr (4, [.ref om, .int 0, .int 0, .int 0])), aI E om 9 (fun _ => 0)]) C hm kwX4 tyX4 tyX4_ok nmX4 0 rfl rfl 0 (by decide) kfX4_9 rfl rfl rfl rfl (Nat.le_of_ble_eq_true rfl) rfl dX4_init_9 ?_
  exact g_vret C hR (⟨om, rfl, rfl⟩) dX4_init_12

set_option maxHeartbeats 4000000 in
set_option maxRecDepth 100000 in
/-- Walk() -/
theorem c_X7_init (l : Launch) (E : EX) (w : Nat) (p : Nat) : Ct l E yX7_init cX7_init 2 none (rmL 1 1 9) [.ref w, .ref p] [(w, .inr (7, [.null, .null, .int 0, .int 0, .int 0, .int 0, .int 0, .int 0]))] (fun (rv_ : Option Value) (rw_ : va_W) => ∃ (wm : Nat), rv_ = none ∧ rw_ = [(w, .inr (7, [.ref p, .ref wm, .int 0, .int 0, .int 0, .int 0, .int 0, .int 0])), aI E wm 9 (fun _ => 0)]) 1 9 := by
  refine Ct_of (by decide) (Nat.le_of_ble_eq_true rfl) ?_
  intro k hkl hnl C hR hm
  subst hkl
  show G k E 0 0 0 [some (.ref w), some (.ref p)] [] [(w, .inr (7, [.null, .null, .int 0, .int 0, .int 0, .int 0, .int 0, .int 0]))]
  refine g_aload_n C dX7_init_0 rfl ?_
  refine g_obj C kmX7_3 (by decide) (Nat.le_of_ble_eq_true rfl) dX7_init_1 ?_
  refine g_aload_n C dX7_init_4 rfl ?_
  refine g_bipush (v := 9) C dX7_init_5 (by decide) ?_
  refine g_newI C 9 rfl (by decide) (by decide) (by decide) dX7_init_7 (fun wm => ?_)
  refine g_re (ws' := [(w, .inr (7, [.null, .null, .int 0, .int 0, .int 0, .int 0, .int 0, .int 0])), aI E wm 9 (fun _ => 0)]) (st' := [.ref wm, .ref w]) (n' := 1) (z' := 9) (pc' := 9) rfl rfl rfl rfl ?_
  refine g_putF (ws' := [(w, .inr (7, [.null, .ref wm, .int 0, .int 0, .int 0, .int 0, .int 0, .int 0])), aI E wm 9 (fun _ => 0)]) C hm kwX7 tyX7 tyX7_ok nmX7 0 rfl rfl 1 (by decide) kfX7_9 rfl rfl rfl rfl (Nat.le_of_ble_eq_true rfl) rfl dX7_init_9 ?_
  refine g_aload_n C dX7_init_12 rfl ?_
  refine g_aload_n C dX7_init_13 rfl ?_
  refine g_putF (ws' := [(w, .inr (7, [.ref p, .ref wm, .int 0, .int 0, .int 0, .int 0, .int 0, .int 0])), aI E wm 9 (fun _ => 0)]) C hm kwX7 tyX7 tyX7_ok nmX7 0 rfl rfl 0 (by decide) kfX7_15 rfl rfl rfl rfl (Nat.le_of_ble_eq_true rfl) rfl dX7_init_14 ?_
  exact g_vret C hR (⟨wm, rfl, rfl⟩) dX7_init_17

set_option maxHeartbeats 4000000 in
set_option maxRecDepth 100000 in
/-- LeastPushes() -/
theorem c_X3_init (l : Launch) (E : EX) (u : Nat) (w : Nat) : Ct l E yX3_init cX3_init 2 none (rmL 1 1 900) [.ref u, .ref w] [(u, .inr (3, [.null, .null]))] (fun (rv_ : Option Value) (rw_ : va_W) => ∃ (fo : Nat), rv_ = none ∧ rw_ = [(u, .inr (3, [.ref w, .ref fo])), aI E fo 900 (fun _ => 0)]) 1 900 := by
  refine Ct_of (by decide) (Nat.le_of_ble_eq_true rfl) ?_
  intro k hkl hnl C hR hm
  subst hkl
  show G k E 0 0 0 [some (.ref u), some (.ref w)] [] [(u, .inr (3, [.null, .null]))]
  refine g_aload_n C dX3_init_0 rfl ?_
  refine g_obj C kmX3_3 (by decide) (Nat.le_of_ble_eq_true rfl) dX3_init_1 ?_
  refine g_aload_n C dX3_init_4 rfl ?_
  refine g_sipush (v := 900) C dX3_init_5 (by decide) ?_
  refine g_newI C 900 rfl (by decide) (by decide) (by decide) dX3_init_8 (fun fo => ?_)
  refine g_re (ws' := [(u, .inr (3, [.null, .null])), aI E fo 900 (fun _ => 0)]) (st' := [.ref fo, .ref u]) (n' := 1) (z' := 900) (pc' := 10) rfl rfl rfl rfl ?_
  refine g_putF (ws' := [(u, .inr (3, [.null, .ref fo])), aI E fo 900 (fun _ => 0)]) C hm kwX3 tyX3 tyX3_ok nmX3 0 rfl rfl 1 (by decide) kfX3_11 rfl rfl rfl rfl (Nat.le_of_ble_eq_true rfl) rfl dX3_init_10 ?_
  refine g_aload_n C dX3_init_13 rfl ?_
  refine g_aload_n C dX3_init_14 rfl ?_
  refine g_putF (ws' := [(u, .inr (3, [.ref w, .ref fo])), aI E fo 900 (fun _ => 0)]) C hm kwX3 tyX3 tyX3_ok nmX3 0 rfl rfl 0 (by decide) kfX3_15 rfl rfl rfl rfl (Nat.le_of_ble_eq_true rfl) rfl dX3_init_15 ?_
  exact g_vret C hR (⟨fo, rfl, rfl⟩) dX3_init_18

set_option maxHeartbeats 4000000 in
set_option maxRecDepth 100000 in
/-- Clues() -/
theorem c_X1_init (l : Launch) (E : EX) (c : Nat) (w : Nat) : Ct l E yX1_init cX1_init 2 none (rmL 1 6 100) [.ref c, .ref w] [(c, .inr (1, [.null, .null, .null, .null, .null, .null, .null, .int 0, .int 0]))] (fun (rv_ : Option Value) (rw_ : va_W) => ∃ (s1 : Nat) (s2 : Nat) (s3 : Nat) (s4 : Nat) (s5 : Nat) (s6 : Nat), rv_ = none ∧ rw_ = [(c, .inr (1, [.ref w, .ref s1, .ref s2, .ref s3, .ref s4, .ref s5, .ref s6, .int 0, .int 0])), aI E s1 6 (fun _ => 0), aI E s2 6 (fun _ => 0), aI E s3 6 (fun _ => 0), aI E s4 36 (fun _ => 0), aI E s5 36 (fun _ => 0), aI E s6 10 (fun _ => 0)]) 6 100 := by
  refine Ct_of (by decide) (Nat.le_of_ble_eq_true rfl) ?_
  intro k hkl hnl C hR hm
  subst hkl
  show G k E 0 0 0 [some (.ref c), some (.ref w)] [] [(c, .inr (1, [.null, .null, .null, .null, .null, .null, .null, .int 0, .int 0]))]
  refine g_aload_n C dX1_init_0 rfl ?_
  refine g_obj C kmX1_3 (by decide) (Nat.le_of_ble_eq_true rfl) dX1_init_1 ?_
  refine g_aload_n C dX1_init_4 rfl ?_
  refine g_bipush (v := 6) C dX1_init_5 (by decide) ?_
  refine g_newI C 6 rfl (by decide) (by decide) (by decide) dX1_init_7 (fun s1 => ?_)
  refine g_re (ws' := [(c, .inr (1, [.null, .null, .null, .null, .null, .null, .null, .int 0, .int 0])), aI E s1 6 (fun _ => 0)]) (st' := [.ref s1, .ref c]) (n' := 1) (z' := 6) (pc' := 9) rfl rfl rfl rfl ?_
  refine g_putF (ws' := [(c, .inr (1, [.null, .ref s1, .null, .null, .null, .null, .null, .int 0, .int 0])), aI E s1 6 (fun _ => 0)]) C hm kwX1 tyX1 tyX1_ok nmX1 0 rfl rfl 1 (by decide) kfX1_9 rfl rfl rfl rfl (Nat.le_of_ble_eq_true rfl) rfl dX1_init_9 ?_
  refine g_aload_n C dX1_init_12 rfl ?_
  refine g_bipush (v := 6) C dX1_init_13 (by decide) ?_
  refine g_newI C 6 rfl (by decide) (by decide) (by decide) dX1_init_15 (fun s2 => ?_)
  refine g_re (ws' := [(c, .inr (1, [.null, .ref s1, .null, .null, .null, .null, .null, .int 0, .int 0])), aI E s1 6 (fun _ => 0), aI E s2 6 (fun _ => 0)]) (st' := [.ref s2, .ref c]) (n' := 2) (z' := 12) (pc' := 17) rfl rfl rfl rfl ?_
  refine g_putF (ws' := [(c, .inr (1, [.null, .ref s1, .ref s2, .null, .null, .null, .null, .int 0, .int 0])), aI E s1 6 (fun _ => 0), aI E s2 6 (fun _ => 0)]) C hm kwX1 tyX1 tyX1_ok nmX1 0 rfl rfl 2 (by decide) kfX1_15 rfl rfl rfl rfl (Nat.le_of_ble_eq_true rfl) rfl dX1_init_17 ?_
  refine g_aload_n C dX1_init_20 rfl ?_
  refine g_bipush (v := 6) C dX1_init_21 (by decide) ?_
  refine g_newI C 6 rfl (by decide) (by decide) (by decide) dX1_init_23 (fun s3 => ?_)
  refine g_re (ws' := [(c, .inr (1, [.null, .ref s1, .ref s2, .null, .null, .null, .null, .int 0, .int 0])), aI E s1 6 (fun _ => 0), aI E s2 6 (fun _ => 0), aI E s3 6 (fun _ => 0)]) (st' := [.ref s3, .ref c]) (n' := 3) (z' := 18) (pc' := 25) rfl rfl rfl rfl ?_
  refine g_putF (ws' := [(c, .inr (1, [.null, .ref s1, .ref s2, .ref s3, .null, .null, .null, .int 0, .int 0])), aI E s1 6 (fun _ => 0), aI E s2 6 (fun _ => 0), aI E s3 6 (fun _ => 0)]) C hm kwX1 tyX1 tyX1_ok nmX1 0 rfl rfl 3 (by decide) kfX1_18 rfl rfl rfl rfl (Nat.le_of_ble_eq_true rfl) rfl dX1_init_25 ?_
  refine g_aload_n C dX1_init_28 rfl ?_
  refine g_bipush (v := 36) C dX1_init_29 (by decide) ?_
  refine g_newI C 36 rfl (by decide) (by decide) (by decide) dX1_init_31 (fun s4 => ?_)
  refine g_re (ws' := [(c, .inr (1, [.null, .ref s1, .ref s2, .ref s3, .null, .null, .null, .int 0, .int 0])), aI E s1 6 (fun _ => 0), aI E s2 6 (fun _ => 0), aI E s3 6 (fun _ => 0), aI E s4 36 (fun _ => 0)]) (st' := [.ref s4, .ref c]) (n' := 4) (z' := 54) (pc' := 33) rfl rfl rfl rfl ?_
  refine g_putF (ws' := [(c, .inr (1, [.null, .ref s1, .ref s2, .ref s3, .ref s4, .null, .null, .int 0, .int 0])), aI E s1 6 (fun _ => 0), aI E s2 6 (fun _ => 0), aI E s3 6 (fun _ => 0), aI E s4 36 (fun _ => 0)]) C hm kwX1 tyX1 tyX1_ok nmX1 0 rfl rfl 4 (by decide) kfX1_21 rfl rfl rfl rfl (Nat.le_of_ble_eq_true rfl) rfl dX1_init_33 ?_
  refine g_aload_n C dX1_init_36 rfl ?_
  refine g_bipush (v := 36) C dX1_init_37 (by decide) ?_
  refine g_newI C 36 rfl (by decide) (by decide) (by decide) dX1_init_39 (fun s5 => ?_)
  refine g_re (ws' := [(c, .inr (1, [.null, .ref s1, .ref s2, .ref s3, .ref s4, .null, .null, .int 0, .int 0])), aI E s1 6 (fun _ => 0), aI E s2 6 (fun _ => 0), aI E s3 6 (fun _ => 0), aI E s4 36 (fun _ => 0), aI E s5 36 (fun _ => 0)]) (st' := [.ref s5, .ref c]) (n' := 5) (z' := 90) (pc' := 41) rfl rfl rfl rfl ?_
  refine g_putF (ws' := [(c, .inr (1, [.null, .ref s1, .ref s2, .ref s3, .ref s4, .ref s5, .null, .int 0, .int 0])), aI E s1 6 (fun _ => 0), aI E s2 6 (fun _ => 0), aI E s3 6 (fun _ => 0), aI E s4 36 (fun _ => 0), aI E s5 36 (fun _ => 0)]) C hm kwX1 tyX1 tyX1_ok nmX1 0 rfl rfl 5 (by decide) kfX1_24 rfl rfl rfl rfl (Nat.le_of_ble_eq_true rfl) rfl dX1_init_41 ?_
  refine g_aload_n C dX1_init_44 rfl ?_
  refine g_bipush (v := 10) C dX1_init_45 (by decide) ?_
  refine g_newI C 10 rfl (by decide) (by decide) (by decide) dX1_init_47 (fun s6 => ?_)
  refine g_re (ws' := [(c, .inr (1, [.null, .ref s1, .ref s2, .ref s3, .ref s4, .ref s5, .null, .int 0, .int 0])), aI E s1 6 (fun _ => 0), aI E s2 6 (fun _ => 0), aI E s3 6 (fun _ => 0), aI E s4 36 (fun _ => 0), aI E s5 36 (fun _ => 0), aI E s6 10 (fun _ => 0)]) (st' := [.ref s6, .ref c]) (n' := 6) (z' := 100) (pc' := 49) rfl rfl rfl rfl ?_
  refine g_putF (ws' := [(c, .inr (1, [.null, .ref s1, .ref s2, .ref s3, .ref s4, .ref s5, .ref s6, .int 0, .int 0])), aI E s1 6 (fun _ => 0), aI E s2 6 (fun _ => 0), aI E s3 6 (fun _ => 0), aI E s4 36 (fun _ => 0), aI E s5 36 (fun _ => 0), aI E s6 10 (fun _ => 0)]) C hm kwX1 tyX1 tyX1_ok nmX1 0 rfl rfl 6 (by decide) kfX1_27 rfl rfl rfl rfl (Nat.le_of_ble_eq_true rfl) rfl dX1_init_49 ?_
  refine g_aload_n C dX1_init_52 rfl ?_
  refine g_aload_n C dX1_init_53 rfl ?_
  refine g_putF (ws' := [(c, .inr (1, [.ref w, .ref s1, .ref s2, .ref s3, .ref s4, .ref s5, .ref s6, .int 0, .int 0])), aI E s1 6 (fun _ => 0), aI E s2 6 (fun _ => 0), aI E s3 6 (fun _ => 0), aI E s4 36 (fun _ => 0), aI E s5 36 (fun _ => 0), aI E s6 10 (fun _ => 0)]) C hm kwX1 tyX1 tyX1_ok nmX1 0 rfl rfl 0 (by decide) kfX1_30 rfl rfl rfl rfl (Nat.le_of_ble_eq_true rfl) rfl dX1_init_54 ?_
  exact g_vret C hR (⟨s1, s2, s3, s4, s5, s6, rfl, rfl⟩) dX1_init_57

set_option maxHeartbeats 4000000 in
set_option maxRecDepth 100000 in
/-- Chances() -/
theorem c_X0_init (l : Launch) (E : EX) (h : Nat) (w : Nat) : Ct l E yX0_init cX0_init 2 none (rmL 1 1 9) [.ref h, .ref w] [(h, .inr (0, [.null, .null, .int 0, .long 0, .long 0]))] (fun (rv_ : Option Value) (rw_ : va_W) => ∃ (mt : Nat), rv_ = none ∧ rw_ = [(h, .inr (0, [.ref w, .ref mt, .int 0, .long 0, .long 0])), aI E mt 9 (fun _ => 0)]) 1 9 := by
  refine Ct_of (by decide) (Nat.le_of_ble_eq_true rfl) ?_
  intro k hkl hnl C hR hm
  subst hkl
  show G k E 0 0 0 [some (.ref h), some (.ref w)] [] [(h, .inr (0, [.null, .null, .int 0, .long 0, .long 0]))]
  refine g_aload_n C dX0_init_0 rfl ?_
  refine g_obj C kmX0_3 (by decide) (Nat.le_of_ble_eq_true rfl) dX0_init_1 ?_
  refine g_aload_n C dX0_init_4 rfl ?_
  refine g_bipush (v := 9) C dX0_init_5 (by decide) ?_
  refine g_newI C 9 rfl (by decide) (by decide) (by decide) dX0_init_7 (fun mt => ?_)
  refine g_re (ws' := [(h, .inr (0, [.null, .null, .int 0, .long 0, .long 0])), aI E mt 9 (fun _ => 0)]) (st' := [.ref mt, .ref h]) (n' := 1) (z' := 9) (pc' := 9) rfl rfl rfl rfl ?_
  refine g_putF (ws' := [(h, .inr (0, [.null, .ref mt, .int 0, .long 0, .long 0])), aI E mt 9 (fun _ => 0)]) C hm kwX0 tyX0 tyX0_ok nmX0 0 rfl rfl 1 (by decide) kfX0_9 rfl rfl rfl rfl (Nat.le_of_ble_eq_true rfl) rfl dX0_init_9 ?_
  refine g_aload_n C dX0_init_12 rfl ?_
  refine g_aload_n C dX0_init_13 rfl ?_
  refine g_putF (ws' := [(h, .inr (0, [.ref w, .ref mt, .int 0, .long 0, .long 0])), aI E mt 9 (fun _ => 0)]) C hm kwX0 tyX0 tyX0_ok nmX0 0 rfl rfl 0 (by decide) kfX0_15 rfl rfl rfl rfl (Nat.le_of_ble_eq_true rfl) rfl dX0_init_14 ?_
  exact g_vret C hR (⟨mt, rfl, rfl⟩) dX0_init_17

set_option maxHeartbeats 4000000 in
set_option maxRecDepth 100000 in
/-- Reader() -/
theorem c_X6_init (l : Launch) (E : EX) (r : Nat) : Ct l E yX6_init cX6_init 1 none (rmL 3 5 134) [.ref r] [(r, .inr (6, [.null, .null, .int 0, .int 0, .int 0, .int 0, .int 0, .int 0, .int 0]))] (fun (rv_ : Option Value) (rw_ : va_W) => ∃ (tx : Nat) (p : Nat) (ph : Nat) (pd : Nat) (pm : Nat), rv_ = none ∧ rw_ = [(r, .inr (6, [.ref tx, .ref p, .int 0, .int 0, .int 0, .int 0, .int 0, .int 0, .int 0])), aC E tx 100 (fun _ => 0), (p, .inr (5, [.ref ph, .ref pd, .ref pm, .int 0, .int 4, .int 3, .int 1])), aI E ph 9 (fun _ => 0), aI E pd 9 (fun _ => 0), aI E pm 9 (fun _ => 0)]) 5 134 := by
  refine Ct_of (by decide) (Nat.le_of_ble_eq_true rfl) ?_
  intro k hkl hnl C hR hm
  subst hkl
  show G k E 0 0 0 [some (.ref r)] [] [(r, .inr (6, [.null, .null, .int 0, .int 0, .int 0, .int 0, .int 0, .int 0, .int 0]))]
  refine g_aload_n C dX6_init_0 rfl ?_
  refine g_obj C kmX6_3 (by decide) (Nat.le_of_ble_eq_true rfl) dX6_init_1 ?_
  refine g_aload_n C dX6_init_4 rfl ?_
  refine g_bipush (v := 100) C dX6_init_5 (by decide) ?_
  refine g_newC C 100 rfl (by decide) (by decide) (by decide) dX6_init_7 (fun tx => ?_)
  refine g_re (ws' := [(r, .inr (6, [.null, .null, .int 0, .int 0, .int 0, .int 0, .int 0, .int 0, .int 0])), aC E tx 100 (fun _ => 0)]) (st' := [.ref tx, .ref r]) (n' := 1) (z' := 100) (pc' := 9) rfl rfl rfl rfl ?_
  refine g_putF (ws' := [(r, .inr (6, [.ref tx, .null, .int 0, .int 0, .int 0, .int 0, .int 0, .int 0, .int 0])), aC E tx 100 (fun _ => 0)]) C hm kwX6 tyX6 tyX6_ok nmX6 0 rfl rfl 0 (by decide) kfX6_9 rfl rfl rfl rfl (Nat.le_of_ble_eq_true rfl) rfl dX6_init_9 ?_
  refine g_aload_n C dX6_init_12 rfl ?_
  refine g_new (ci := 5) (fs := [.null, .null, .null, .int 0, .int 0, .int 0, .int 0]) C kwX5 tyX5 tyX5_ok klX6_15 kjX5 knX5 rfl (fun j hj => by match j, hj with | 0, _ => rfl | 1, _ => rfl | 2, _ => rfl | 3, _ => rfl | 4, _ => rfl | 5, _ => rfl | 6, _ => rfl | j + 7, h => exact absurd h (by omega)) (by decide) (by decide) dX6_init_13 (fun p => ?_)
  refine g_re (ws' := [(r, .inr (6, [.ref tx, .null, .int 0, .int 0, .int 0, .int 0, .int 0, .int 0, .int 0])), aC E tx 100 (fun _ => 0), (p, .inr (5, [.null, .null, .null, .int 0, .int 0, .int 0, .int 0]))]) (st' := [.ref p, .ref r]) (n' := 2) (z' := 107) (pc' := 16) rfl rfl rfl rfl ?_
  refine g_dup C dX6_init_16 rfl ?_
  refine g_callI C (c_X5_init k.l E p) kcX5_init knX5 kmX6_17 kiX5_init rfl ⟨rfl, rfl⟩ kdX5_init ⟨by decide, by decide⟩ ⟨by decide, by decide⟩ [2] [0, 1] rfl (wr := [(r, .inr (6, [.ref tx, .null, .int 0, .int 0, .int 0, .int 0, .int 0, .int 0, .int 0])), aC E tx 100 (fun _ => 0)]) rfl rfl rfl (by decide) rfl (As := []) (rest := [.ref p, .ref r]) rfl (Nat.le_of_ble_eq_true rfl) dX6_init_17 (fun rv_ rw_ hp_ => ?_)
  obtain ⟨ph, pd, pm, rfl, rfl⟩ := hp_
  refine g_rep [0, 1, 2, 3, 4, 5] (ws' := [(r, .inr (6, [.ref tx, .null, .int 0, .int 0, .int 0, .int 0, .int 0, .int 0, .int 0])), aC E tx 100 (fun _ => 0), (p, .inr (5, [.ref ph, .ref pd, .ref pm, .int 0, .int 4, .int 3, .int 1])), aI E ph 9 (fun _ => 0), aI E pd 9 (fun _ => 0), aI E pm 9 (fun _ => 0)]) (st' := [.ref p, .ref r]) (n' := 5) (z' := 134) (pc' := 20) rfl rfl rfl rfl rfl rfl ?_
  refine g_putF (ws' := [(r, .inr (6, [.ref tx, .ref p, .int 0, .int 0, .int 0, .int 0, .int 0, .int 0, .int 0])), aC E tx 100 (fun _ => 0), (p, .inr (5, [.ref ph, .ref pd, .ref pm, .int 0, .int 4, .int 3, .int 1])), aI E ph 9 (fun _ => 0), aI E pd 9 (fun _ => 0), aI E pm 9 (fun _ => 0)]) C hm kwX6 tyX6 tyX6_ok nmX6 0 rfl rfl 1 (by decide) kfX6_18 rfl rfl rfl rfl (Nat.le_of_ble_eq_true rfl) rfl dX6_init_20 ?_
  exact g_vret C hR (⟨tx, p, ph, pd, pm, rfl, rfl⟩) dX6_init_23

set_option maxHeartbeats 4000000 in
set_option maxRecDepth 100000 in
/-- History() -/
theorem c_X2_init (l : Launch) (E : EX) (h : Nat) : Ct l E yX2_init cX2_init 2 none (rmL 2 21 140) [.ref h] [(h, .inr (2, [.null, .int 0, .int 0]))] (fun (rv_ : Option Value) (rw_ : va_W) => ∃ (pa : Nat) (pf : Nat → Option Nat) (qm : Nat → Nat) (qa : Nat → Nat), rv_ = none ∧ rw_ = [(h, .inr (2, [.ref pa, .int 0, .int 0])), aM E pa 10 pf, (qm 0, .inr (4, [.ref (qa 0), .int 0, .int 0, .int 0])), aI E (qa 0) 9 (fun _ => 0), (qm 1, .inr (4, [.ref (qa 1), .int 0, .int 0, .int 0])), aI E (qa 1) 9 (fun _ => 0), (qm 2, .inr (4, [.ref (qa 2), .int 0, .int 0, .int 0])), aI E (qa 2) 9 (fun _ => 0), (qm 3, .inr (4, [.ref (qa 3), .int 0, .int 0, .int 0])), aI E (qa 3) 9 (fun _ => 0), (qm 4, .inr (4, [.ref (qa 4), .int 0, .int 0, .int 0])), aI E (qa 4) 9 (fun _ => 0), (qm 5, .inr (4, [.ref (qa 5), .int 0, .int 0, .int 0])), aI E (qa 5) 9 (fun _ => 0), (qm 6, .inr (4, [.ref (qa 6), .int 0, .int 0, .int 0])), aI E (qa 6) 9 (fun _ => 0), (qm 7, .inr (4, [.ref (qa 7), .int 0, .int 0, .int 0])), aI E (qa 7) 9 (fun _ => 0), (qm 8, .inr (4, [.ref (qa 8), .int 0, .int 0, .int 0])), aI E (qa 8) 9 (fun _ => 0), (qm 9, .inr (4, [.ref (qa 9), .int 0, .int 0, .int 0])), aI E (qa 9) 9 (fun _ => 0)] ∧ (∀ i, i < 10 → pf i = some (qm i))) 21 140 := by
  refine Ct_of (by decide) (Nat.le_of_ble_eq_true rfl) ?_
  intro k hkl hnl C hR hm
  subst hkl
  show G k E 0 0 0 [some (.ref h), none] [] [(h, .inr (2, [.null, .int 0, .int 0]))]
  refine g_aload_n C dX2_init_0 rfl ?_
  refine g_obj C kmX2_3 (by decide) (Nat.le_of_ble_eq_true rfl) dX2_init_1 ?_
  refine g_aload_n C dX2_init_4 rfl ?_
  refine g_bipush (v := 10) C dX2_init_5 (by decide) ?_
  refine g_newM C 10 rfl (by decide) klX2_9 (by decide) (by decide) dX2_init_7 (fun pa => ?_)
  refine g_re (ws' := [(h, .inr (2, [.null, .int 0, .int 0])), aM E pa 10 (fun _ => none)]) (st' := [.ref pa, .ref h]) (n' := 1) (z' := 10) (pc' := 10) rfl rfl rfl rfl ?_
  refine g_putF (ws' := [(h, .inr (2, [.ref pa, .int 0, .int 0])), aM E pa 10 (fun _ => none)]) C hm kwX2 tyX2 tyX2_ok nmX2 0 rfl rfl 0 (by decide) kfX2_11 rfl rfl rfl rfl (Nat.le_of_ble_eq_true rfl) rfl dX2_init_10 ?_
  refine g_iconst (v := 0) C dX2_init_13 (by decide) ?_
  refine g_istore_n (lv' := [some (.ref h), some (.int 0)]) C dX2_init_14 (hnl 1 (by decide)) rfl rfl ?_
  refine g_iload_n C dX2_init_15 rfl ?_
  refine g_bipush (v := 10) C dX2_init_16 (by decide) ?_
  refine g_icmp_ge (tgt := 40) C dX2_init_18 (by decide) (fun c18 => ?_) (fun c18 => ?_)
  · skip
    exact absurd c18 (by decide)
  · skip
    refine g_aload_n C dX2_init_21 rfl ?_
    refine g_get C kwX2 0 rfl rfl 0 (by decide) kfX2_11 rfl dX2_init_22 ?_
    refine g_iload_n C dX2_init_25 rfl ?_
    refine g_new (ci := 4) (fs := [.null, .int 0, .int 0, .int 0]) C kwX4 tyX4 tyX4_ok klX2_9 kjX4 knX4 rfl (fun j hj => by match j, hj with | 0, _ => rfl | 1, _ => rfl | 2, _ => rfl | 3, _ => rfl | j + 4, h => exact absurd h (by omega)) (by decide) (by decide) dX2_init_26 (fun m0 => ?_)
    refine g_re (ws' := [(h, .inr (2, [.ref pa, .int 0, .int 0])), aM E pa 10 (fun _ => none), (m0, .inr (4, [.null, .int 0, .int 0, .int 0]))]) (st' := [.ref m0, .int 0, .ref pa]) (n' := 2) (z' := 14) (pc' := 29) rfl rfl rfl rfl ?_
    refine g_dup C dX2_init_29 rfl ?_
    refine g_callIN C (c_X4_init k.l E m0) kcX4_init (by decide) knX4 kiX4_init rfl ⟨rfl, rfl⟩ kdX4_init ⟨by decide, by decide⟩ ⟨by decide, by decide⟩ [2] [0, 1] rfl (wr := [(h, .inr (2, [.ref pa, .int 0, .int 0])), aM E pa 10 (fun _ => none)]) rfl rfl rfl (by decide) rfl (As := []) (rest := [.ref m0, .int 0, .ref pa]) rfl (Nat.le_of_ble_eq_true rfl) dX2_init_30 (fun rv_ rw_ hp_ => ?_)
    obtain ⟨ma0, rfl, rfl⟩ := hp_
    refine g_rep [0, 1, 2, 3] (ws' := [(h, .inr (2, [.ref pa, .int 0, .int 0])), aM E pa 10 (fun _ => none), (m0, .inr (4, [.ref ma0, .int 0, .int 0, .int 0])), aI E ma0 9 (fun _ => 0)]) (st' := [.ref m0, .int 0, .ref pa]) (n' := 3) (z' := 23) (pc' := 33) rfl rfl rfl rfl rfl rfl ?_
    refine g_aast (ws' := [(h, .inr (2, [.ref pa, .int 0, .int 0])), aM E pa 10 (va_up (fun _ => none) 0 (some m0)), (m0, .inr (4, [.ref ma0, .int 0, .int 0, .int 0])), aI E ma0 9 (fun _ => 0)]) C 1 2 0 rfl rfl (rfl) (by decide) (by decide) rfl dX2_init_33 ?_
    refine g_iinc (v := 1) (lv' := [some (.ref h), some (.int 1)]) C dX2_init_34 rfl (by decide) (hnl 1 (by decide)) rfl rfl ?_
    refine g_goto (tgt := 15) C dX2_init_37 (by decide) ?_
    refine g_iload_n C dX2_init_15 rfl ?_
    refine g_bipush (v := 10) C dX2_init_16 (by decide) ?_
    refine g_icmp_ge (tgt := 40) C dX2_init_18 (by decide) (fun c18 => ?_) (fun c18 => ?_)
    · skip
      exact absurd c18 (by decide)
    · skip
      refine g_aload_n C dX2_init_21 rfl ?_
      refine g_get C kwX2 0 rfl rfl 0 (by decide) kfX2_11 rfl dX2_init_22 ?_
      refine g_iload_n C dX2_init_25 rfl ?_
      refine g_new (ci := 4) (fs := [.null, .int 0, .int 0, .int 0]) C kwX4 tyX4 tyX4_ok klX2_9 kjX4 knX4 rfl (fun j hj => by match j, hj with | 0, _ => rfl | 1, _ => rfl | 2, _ => rfl | 3, _ => rfl | j + 4, h => exact absurd h (by omega)) (by decide) (by decide) dX2_init_26 (fun m1 => ?_)
      refine g_re (ws' := [(h, .inr (2, [.ref pa, .int 0, .int 0])), aM E pa 10 (va_up (fun _ => none) 0 (some m0)), (m0, .inr (4, [.ref ma0, .int 0, .int 0, .int 0])), aI E ma0 9 (fun _ => 0), (m1, .inr (4, [.null, .int 0, .int 0, .int 0]))]) (st' := [.ref m1, .int 1, .ref pa]) (n' := 4) (z' := 27) (pc' := 29) rfl rfl rfl rfl ?_
      refine g_dup C dX2_init_29 rfl ?_
      refine g_callIN C (c_X4_init k.l E m1) kcX4_init (by decide) knX4 kiX4_init rfl ⟨rfl, rfl⟩ kdX4_init ⟨by decide, by decide⟩ ⟨by decide, by decide⟩ [4] [0, 1, 2, 3] rfl (wr := [(h, .inr (2, [.ref pa, .int 0, .int 0])), aM E pa 10 (va_up (fun _ => none) 0 (some m0)), (m0, .inr (4, [.ref ma0, .int 0, .int 0, .int 0])), aI E ma0 9 (fun _ => 0)]) rfl rfl rfl (by decide) rfl (As := []) (rest := [.ref m1, .int 1, .ref pa]) rfl (Nat.le_of_ble_eq_true rfl) dX2_init_30 (fun rv_ rw_ hp_ => ?_)
      obtain ⟨ma1, rfl, rfl⟩ := hp_
      refine g_rep [0, 1, 2, 3, 4, 5] (ws' := [(h, .inr (2, [.ref pa, .int 0, .int 0])), aM E pa 10 (va_up (fun _ => none) 0 (some m0)), (m0, .inr (4, [.ref ma0, .int 0, .int 0, .int 0])), aI E ma0 9 (fun _ => 0), (m1, .inr (4, [.ref ma1, .int 0, .int 0, .int 0])), aI E ma1 9 (fun _ => 0)]) (st' := [.ref m1, .int 1, .ref pa]) (n' := 5) (z' := 36) (pc' := 33) rfl rfl rfl rfl rfl rfl ?_
      refine g_aast (ws' := [(h, .inr (2, [.ref pa, .int 0, .int 0])), aM E pa 10 (va_up (va_up (fun _ => none) 0 (some m0)) 1 (some m1)), (m0, .inr (4, [.ref ma0, .int 0, .int 0, .int 0])), aI E ma0 9 (fun _ => 0), (m1, .inr (4, [.ref ma1, .int 0, .int 0, .int 0])), aI E ma1 9 (fun _ => 0)]) C 1 4 1 rfl rfl (rfl) (by decide) (by decide) rfl dX2_init_33 ?_
      refine g_iinc (v := 2) (lv' := [some (.ref h), some (.int 2)]) C dX2_init_34 rfl (by decide) (hnl 1 (by decide)) rfl rfl ?_
      refine g_goto (tgt := 15) C dX2_init_37 (by decide) ?_
      refine g_iload_n C dX2_init_15 rfl ?_
      refine g_bipush (v := 10) C dX2_init_16 (by decide) ?_
      refine g_icmp_ge (tgt := 40) C dX2_init_18 (by decide) (fun c18 => ?_) (fun c18 => ?_)
      · skip
        exact absurd c18 (by decide)
      · skip
        refine g_aload_n C dX2_init_21 rfl ?_
        refine g_get C kwX2 0 rfl rfl 0 (by decide) kfX2_11 rfl dX2_init_22 ?_
        refine g_iload_n C dX2_init_25 rfl ?_
        refine g_new (ci := 4) (fs := [.null, .int 0, .int 0, .int 0]) C kwX4 tyX4 tyX4_ok klX2_9 kjX4 knX4 rfl (fun j hj => by match j, hj with | 0, _ => rfl | 1, _ => rfl | 2, _ => rfl | 3, _ => rfl | j + 4, h => exact absurd h (by omega)) (by decide) (by decide) dX2_init_26 (fun m2 => ?_)
        refine g_re (ws' := [(h, .inr (2, [.ref pa, .int 0, .int 0])), aM E pa 10 (va_up (va_up (fun _ => none) 0 (some m0)) 1 (some m1)), (m0, .inr (4, [.ref ma0, .int 0, .int 0, .int 0])), aI E ma0 9 (fun _ => 0), (m1, .inr (4, [.ref ma1, .int 0, .int 0, .int 0])), aI E ma1 9 (fun _ => 0), (m2, .inr (4, [.null, .int 0, .int 0, .int 0]))]) (st' := [.ref m2, .int 2, .ref pa]) (n' := 6) (z' := 40) (pc' := 29) rfl rfl rfl rfl ?_
        refine g_dup C dX2_init_29 rfl ?_
        refine g_callIN C (c_X4_init k.l E m2) kcX4_init (by decide) knX4 kiX4_init rfl ⟨rfl, rfl⟩ kdX4_init ⟨by decide, by decide⟩ ⟨by decide, by decide⟩ [6] [0, 1, 2, 3, 4, 5] rfl (wr := [(h, .inr (2, [.ref pa, .int 0, .int 0])), aM E pa 10 (va_up (va_up (fun _ => none) 0 (some m0)) 1 (some m1)), (m0, .inr (4, [.ref ma0, .int 0, .int 0, .int 0])), aI E ma0 9 (fun _ => 0), (m1, .inr (4, [.ref ma1, .int 0, .int 0, .int 0])), aI E ma1 9 (fun _ => 0)]) rfl rfl rfl (by decide) rfl (As := []) (rest := [.ref m2, .int 2, .ref pa]) rfl (Nat.le_of_ble_eq_true rfl) dX2_init_30 (fun rv_ rw_ hp_ => ?_)
        obtain ⟨ma2, rfl, rfl⟩ := hp_
        refine g_rep [0, 1, 2, 3, 4, 5, 6, 7] (ws' := [(h, .inr (2, [.ref pa, .int 0, .int 0])), aM E pa 10 (va_up (va_up (fun _ => none) 0 (some m0)) 1 (some m1)), (m0, .inr (4, [.ref ma0, .int 0, .int 0, .int 0])), aI E ma0 9 (fun _ => 0), (m1, .inr (4, [.ref ma1, .int 0, .int 0, .int 0])), aI E ma1 9 (fun _ => 0), (m2, .inr (4, [.ref ma2, .int 0, .int 0, .int 0])), aI E ma2 9 (fun _ => 0)]) (st' := [.ref m2, .int 2, .ref pa]) (n' := 7) (z' := 49) (pc' := 33) rfl rfl rfl rfl rfl rfl ?_
        refine g_aast (ws' := [(h, .inr (2, [.ref pa, .int 0, .int 0])), aM E pa 10 (va_up (va_up (va_up (fun _ => none) 0 (some m0)) 1 (some m1)) 2 (some m2)), (m0, .inr (4, [.ref ma0, .int 0, .int 0, .int 0])), aI E ma0 9 (fun _ => 0), (m1, .inr (4, [.ref ma1, .int 0, .int 0, .int 0])), aI E ma1 9 (fun _ => 0), (m2, .inr (4, [.ref ma2, .int 0, .int 0, .int 0])), aI E ma2 9 (fun _ => 0)]) C 1 6 2 rfl rfl (rfl) (by decide) (by decide) rfl dX2_init_33 ?_
        refine g_iinc (v := 3) (lv' := [some (.ref h), some (.int 3)]) C dX2_init_34 rfl (by decide) (hnl 1 (by decide)) rfl rfl ?_
        refine g_goto (tgt := 15) C dX2_init_37 (by decide) ?_
        refine g_iload_n C dX2_init_15 rfl ?_
        refine g_bipush (v := 10) C dX2_init_16 (by decide) ?_
        refine g_icmp_ge (tgt := 40) C dX2_init_18 (by decide) (fun c18 => ?_) (fun c18 => ?_)
        · skip
          exact absurd c18 (by decide)
        · skip
          refine g_aload_n C dX2_init_21 rfl ?_
          refine g_get C kwX2 0 rfl rfl 0 (by decide) kfX2_11 rfl dX2_init_22 ?_
          refine g_iload_n C dX2_init_25 rfl ?_
          refine g_new (ci := 4) (fs := [.null, .int 0, .int 0, .int 0]) C kwX4 tyX4 tyX4_ok klX2_9 kjX4 knX4 rfl (fun j hj => by match j, hj with | 0, _ => rfl | 1, _ => rfl | 2, _ => rfl | 3, _ => rfl | j + 4, h => exact absurd h (by omega)) (by decide) (by decide) dX2_init_26 (fun m3 => ?_)
          refine g_re (ws' := [(h, .inr (2, [.ref pa, .int 0, .int 0])), aM E pa 10 (va_up (va_up (va_up (fun _ => none) 0 (some m0)) 1 (some m1)) 2 (some m2)), (m0, .inr (4, [.ref ma0, .int 0, .int 0, .int 0])), aI E ma0 9 (fun _ => 0), (m1, .inr (4, [.ref ma1, .int 0, .int 0, .int 0])), aI E ma1 9 (fun _ => 0), (m2, .inr (4, [.ref ma2, .int 0, .int 0, .int 0])), aI E ma2 9 (fun _ => 0), (m3, .inr (4, [.null, .int 0, .int 0, .int 0]))]) (st' := [.ref m3, .int 3, .ref pa]) (n' := 8) (z' := 53) (pc' := 29) rfl rfl rfl rfl ?_
          refine g_dup C dX2_init_29 rfl ?_
          refine g_callIN C (c_X4_init k.l E m3) kcX4_init (by decide) knX4 kiX4_init rfl ⟨rfl, rfl⟩ kdX4_init ⟨by decide, by decide⟩ ⟨by decide, by decide⟩ [8] [0, 1, 2, 3, 4, 5, 6, 7] rfl (wr := [(h, .inr (2, [.ref pa, .int 0, .int 0])), aM E pa 10 (va_up (va_up (va_up (fun _ => none) 0 (some m0)) 1 (some m1)) 2 (some m2)), (m0, .inr (4, [.ref ma0, .int 0, .int 0, .int 0])), aI E ma0 9 (fun _ => 0), (m1, .inr (4, [.ref ma1, .int 0, .int 0, .int 0])), aI E ma1 9 (fun _ => 0), (m2, .inr (4, [.ref ma2, .int 0, .int 0, .int 0])), aI E ma2 9 (fun _ => 0)]) rfl rfl rfl (by decide) rfl (As := []) (rest := [.ref m3, .int 3, .ref pa]) rfl (Nat.le_of_ble_eq_true rfl) dX2_init_30 (fun rv_ rw_ hp_ => ?_)
          obtain ⟨ma3, rfl, rfl⟩ := hp_
          refine g_rep [0, 1, 2, 3, 4, 5, 6, 7, 8, 9] (ws' := [(h, .inr (2, [.ref pa, .int 0, .int 0])), aM E pa 10 (va_up (va_up (va_up (fun _ => none) 0 (some m0)) 1 (some m1)) 2 (some m2)), (m0, .inr (4, [.ref ma0, .int 0, .int 0, .int 0])), aI E ma0 9 (fun _ => 0), (m1, .inr (4, [.ref ma1, .int 0, .int 0, .int 0])), aI E ma1 9 (fun _ => 0), (m2, .inr (4, [.ref ma2, .int 0, .int 0, .int 0])), aI E ma2 9 (fun _ => 0), (m3, .inr (4, [.ref ma3, .int 0, .int 0, .int 0])), aI E ma3 9 (fun _ => 0)]) (st' := [.ref m3, .int 3, .ref pa]) (n' := 9) (z' := 62) (pc' := 33) rfl rfl rfl rfl rfl rfl ?_
          refine g_aast (ws' := [(h, .inr (2, [.ref pa, .int 0, .int 0])), aM E pa 10 (va_up (va_up (va_up (va_up (fun _ => none) 0 (some m0)) 1 (some m1)) 2 (some m2)) 3 (some m3)), (m0, .inr (4, [.ref ma0, .int 0, .int 0, .int 0])), aI E ma0 9 (fun _ => 0), (m1, .inr (4, [.ref ma1, .int 0, .int 0, .int 0])), aI E ma1 9 (fun _ => 0), (m2, .inr (4, [.ref ma2, .int 0, .int 0, .int 0])), aI E ma2 9 (fun _ => 0), (m3, .inr (4, [.ref ma3, .int 0, .int 0, .int 0])), aI E ma3 9 (fun _ => 0)]) C 1 8 3 rfl rfl (rfl) (by decide) (by decide) rfl dX2_init_33 ?_
          refine g_iinc (v := 4) (lv' := [some (.ref h), some (.int 4)]) C dX2_init_34 rfl (by decide) (hnl 1 (by decide)) rfl rfl ?_
          refine g_goto (tgt := 15) C dX2_init_37 (by decide) ?_
          refine g_iload_n C dX2_init_15 rfl ?_
          refine g_bipush (v := 10) C dX2_init_16 (by decide) ?_
          refine g_icmp_ge (tgt := 40) C dX2_init_18 (by decide) (fun c18 => ?_) (fun c18 => ?_)
          · skip
            exact absurd c18 (by decide)
          · skip
            refine g_aload_n C dX2_init_21 rfl ?_
            refine g_get C kwX2 0 rfl rfl 0 (by decide) kfX2_11 rfl dX2_init_22 ?_
            refine g_iload_n C dX2_init_25 rfl ?_
            refine g_new (ci := 4) (fs := [.null, .int 0, .int 0, .int 0]) C kwX4 tyX4 tyX4_ok klX2_9 kjX4 knX4 rfl (fun j hj => by match j, hj with | 0, _ => rfl | 1, _ => rfl | 2, _ => rfl | 3, _ => rfl | j + 4, h => exact absurd h (by omega)) (by decide) (by decide) dX2_init_26 (fun m4 => ?_)
            refine g_re (ws' := [(h, .inr (2, [.ref pa, .int 0, .int 0])), aM E pa 10 (va_up (va_up (va_up (va_up (fun _ => none) 0 (some m0)) 1 (some m1)) 2 (some m2)) 3 (some m3)), (m0, .inr (4, [.ref ma0, .int 0, .int 0, .int 0])), aI E ma0 9 (fun _ => 0), (m1, .inr (4, [.ref ma1, .int 0, .int 0, .int 0])), aI E ma1 9 (fun _ => 0), (m2, .inr (4, [.ref ma2, .int 0, .int 0, .int 0])), aI E ma2 9 (fun _ => 0), (m3, .inr (4, [.ref ma3, .int 0, .int 0, .int 0])), aI E ma3 9 (fun _ => 0), (m4, .inr (4, [.null, .int 0, .int 0, .int 0]))]) (st' := [.ref m4, .int 4, .ref pa]) (n' := 10) (z' := 66) (pc' := 29) rfl rfl rfl rfl ?_
            refine g_dup C dX2_init_29 rfl ?_
            refine g_callIN C (c_X4_init k.l E m4) kcX4_init (by decide) knX4 kiX4_init rfl ⟨rfl, rfl⟩ kdX4_init ⟨by decide, by decide⟩ ⟨by decide, by decide⟩ [10] [0, 1, 2, 3, 4, 5, 6, 7, 8, 9] rfl (wr := [(h, .inr (2, [.ref pa, .int 0, .int 0])), aM E pa 10 (va_up (va_up (va_up (va_up (fun _ => none) 0 (some m0)) 1 (some m1)) 2 (some m2)) 3 (some m3)), (m0, .inr (4, [.ref ma0, .int 0, .int 0, .int 0])), aI E ma0 9 (fun _ => 0), (m1, .inr (4, [.ref ma1, .int 0, .int 0, .int 0])), aI E ma1 9 (fun _ => 0), (m2, .inr (4, [.ref ma2, .int 0, .int 0, .int 0])), aI E ma2 9 (fun _ => 0), (m3, .inr (4, [.ref ma3, .int 0, .int 0, .int 0])), aI E ma3 9 (fun _ => 0)]) rfl rfl rfl (by decide) rfl (As := []) (rest := [.ref m4, .int 4, .ref pa]) rfl (Nat.le_of_ble_eq_true rfl) dX2_init_30 (fun rv_ rw_ hp_ => ?_)
            obtain ⟨ma4, rfl, rfl⟩ := hp_
            refine g_rep [0, 1, 2, 3, 4, 5, 6, 7, 8, 9, 10, 11] (ws' := [(h, .inr (2, [.ref pa, .int 0, .int 0])), aM E pa 10 (va_up (va_up (va_up (va_up (fun _ => none) 0 (some m0)) 1 (some m1)) 2 (some m2)) 3 (some m3)), (m0, .inr (4, [.ref ma0, .int 0, .int 0, .int 0])), aI E ma0 9 (fun _ => 0), (m1, .inr (4, [.ref ma1, .int 0, .int 0, .int 0])), aI E ma1 9 (fun _ => 0), (m2, .inr (4, [.ref ma2, .int 0, .int 0, .int 0])), aI E ma2 9 (fun _ => 0), (m3, .inr (4, [.ref ma3, .int 0, .int 0, .int 0])), aI E ma3 9 (fun _ => 0), (m4, .inr (4, [.ref ma4, .int 0, .int 0, .int 0])), aI E ma4 9 (fun _ => 0)]) (st' := [.ref m4, .int 4, .ref pa]) (n' := 11) (z' := 75) (pc' := 33) rfl rfl rfl rfl rfl rfl ?_
            refine g_aast (ws' := [(h, .inr (2, [.ref pa, .int 0, .int 0])), aM E pa 10 (va_up (va_up (va_up (va_up (va_up (fun _ => none) 0 (some m0)) 1 (some m1)) 2 (some m2)) 3 (some m3)) 4 (some m4)), (m0, .inr (4, [.ref ma0, .int 0, .int 0, .int 0])), aI E ma0 9 (fun _ => 0), (m1, .inr (4, [.ref ma1, .int 0, .int 0, .int 0])), aI E ma1 9 (fun _ => 0), (m2, .inr (4, [.ref ma2, .int 0, .int 0, .int 0])), aI E ma2 9 (fun _ => 0), (m3, .inr (4, [.ref ma3, .int 0, .int 0, .int 0])), aI E ma3 9 (fun _ => 0), (m4, .inr (4, [.ref ma4, .int 0, .int 0, .int 0])), aI E ma4 9 (fun _ => 0)]) C 1 10 4 rfl rfl (rfl) (by decide) (by decide) rfl dX2_init_33 ?_
            refine g_iinc (v := 5) (lv' := [some (.ref h), some (.int 5)]) C dX2_init_34 rfl (by decide) (hnl 1 (by decide)) rfl rfl ?_
            refine g_goto (tgt := 15) C dX2_init_37 (by decide) ?_
            refine g_iload_n C dX2_init_15 rfl ?_
            refine g_bipush (v := 10) C dX2_init_16 (by decide) ?_
            refine g_icmp_ge (tgt := 40) C dX2_init_18 (by decide) (fun c18 => ?_) (fun c18 => ?_)
            · skip
              exact absurd c18 (by decide)
            · skip
              refine g_aload_n C dX2_init_21 rfl ?_
              refine g_get C kwX2 0 rfl rfl 0 (by decide) kfX2_11 rfl dX2_init_22 ?_
              refine g_iload_n C dX2_init_25 rfl ?_
              refine g_new (ci := 4) (fs := [.null, .int 0, .int 0, .int 0]) C kwX4 tyX4 tyX4_ok klX2_9 kjX4 knX4 rfl (fun j hj => by match j, hj with | 0, _ => rfl | 1, _ => rfl | 2, _ => rfl | 3, _ => rfl | j + 4, h => exact absurd h (by omega)) (by decide) (by decide) dX2_init_26 (fun m5 => ?_)
              refine g_re (ws' := [(h, .inr (2, [.ref pa, .int 0, .int 0])), aM E pa 10 (va_up (va_up (va_up (va_up (va_up (fun _ => none) 0 (some m0)) 1 (some m1)) 2 (some m2)) 3 (some m3)) 4 (some m4)), (m0, .inr (4, [.ref ma0, .int 0, .int 0, .int 0])), aI E ma0 9 (fun _ => 0), (m1, .inr (4, [.ref ma1, .int 0, .int 0, .int 0])), aI E ma1 9 (fun _ => 0), (m2, .inr (4, [.ref ma2, .int 0, .int 0, .int 0])), aI E ma2 9 (fun _ => 0), (m3, .inr (4, [.ref ma3, .int 0, .int 0, .int 0])), aI E ma3 9 (fun _ => 0), (m4, .inr (4, [.ref ma4, .int 0, .int 0, .int 0])), aI E ma4 9 (fun _ => 0), (m5, .inr (4, [.null, .int 0, .int 0, .int 0]))]) (st' := [.ref m5, .int 5, .ref pa]) (n' := 12) (z' := 79) (pc' := 29) rfl rfl rfl rfl ?_
              refine g_dup C dX2_init_29 rfl ?_
              refine g_callIN C (c_X4_init k.l E m5) kcX4_init (by decide) knX4 kiX4_init rfl ⟨rfl, rfl⟩ kdX4_init ⟨by decide, by decide⟩ ⟨by decide, by decide⟩ [12] [0, 1, 2, 3, 4, 5, 6, 7, 8, 9, 10, 11] rfl (wr := [(h, .inr (2, [.ref pa, .int 0, .int 0])), aM E pa 10 (va_up (va_up (va_up (va_up (va_up (fun _ => none) 0 (some m0)) 1 (some m1)) 2 (some m2)) 3 (some m3)) 4 (some m4)), (m0, .inr (4, [.ref ma0, .int 0, .int 0, .int 0])), aI E ma0 9 (fun _ => 0), (m1, .inr (4, [.ref ma1, .int 0, .int 0, .int 0])), aI E ma1 9 (fun _ => 0), (m2, .inr (4, [.ref ma2, .int 0, .int 0, .int 0])), aI E ma2 9 (fun _ => 0), (m3, .inr (4, [.ref ma3, .int 0, .int 0, .int 0])), aI E ma3 9 (fun _ => 0), (m4, .inr (4, [.ref ma4, .int 0, .int 0, .int 0])), aI E ma4 9 (fun _ => 0)]) rfl rfl rfl (by decide) rfl (As := []) (rest := [.ref m5, .int 5, .ref pa]) rfl (Nat.le_of_ble_eq_true rfl) dX2_init_30 (fun rv_ rw_ hp_ => ?_)
              obtain ⟨ma5, rfl, rfl⟩ := hp_
              refine g_rep [0, 1, 2, 3, 4, 5, 6, 7, 8, 9, 10, 11, 12, 13] (ws' := [(h, .inr (2, [.ref pa, .int 0, .int 0])), aM E pa 10 (va_up (va_up (va_up (va_up (va_up (fun _ => none) 0 (some m0)) 1 (some m1)) 2 (some m2)) 3 (some m3)) 4 (some m4)), (m0, .inr (4, [.ref ma0, .int 0, .int 0, .int 0])), aI E ma0 9 (fun _ => 0), (m1, .inr (4, [.ref ma1, .int 0, .int 0, .int 0])), aI E ma1 9 (fun _ => 0), (m2, .inr (4, [.ref ma2, .int 0, .int 0, .int 0])), aI E ma2 9 (fun _ => 0), (m3, .inr (4, [.ref ma3, .int 0, .int 0, .int 0])), aI E ma3 9 (fun _ => 0), (m4, .inr (4, [.ref ma4, .int 0, .int 0, .int 0])), aI E ma4 9 (fun _ => 0), (m5, .inr (4, [.ref ma5, .int 0, .int 0, .int 0])), aI E ma5 9 (fun _ => 0)]) (st' := [.ref m5, .int 5, .ref pa]) (n' := 13) (z' := 88) (pc' := 33) rfl rfl rfl rfl rfl rfl ?_
              refine g_aast (ws' := [(h, .inr (2, [.ref pa, .int 0, .int 0])), aM E pa 10 (va_up (va_up (va_up (va_up (va_up (va_up (fun _ => none) 0 (some m0)) 1 (some m1)) 2 (some m2)) 3 (some m3)) 4 (some m4)) 5 (some m5)), (m0, .inr (4, [.ref ma0, .int 0, .int 0, .int 0])), aI E ma0 9 (fun _ => 0), (m1, .inr (4, [.ref ma1, .int 0, .int 0, .int 0])), aI E ma1 9 (fun _ => 0), (m2, .inr (4, [.ref ma2, .int 0, .int 0, .int 0])), aI E ma2 9 (fun _ => 0), (m3, .inr (4, [.ref ma3, .int 0, .int 0, .int 0])), aI E ma3 9 (fun _ => 0), (m4, .inr (4, [.ref ma4, .int 0, .int 0, .int 0])), aI E ma4 9 (fun _ => 0), (m5, .inr (4, [.ref ma5, .int 0, .int 0, .int 0])), aI E ma5 9 (fun _ => 0)]) C 1 12 5 rfl rfl (rfl) (by decide) (by decide) rfl dX2_init_33 ?_
              refine g_iinc (v := 6) (lv' := [some (.ref h), some (.int 6)]) C dX2_init_34 rfl (by decide) (hnl 1 (by decide)) rfl rfl ?_
              refine g_goto (tgt := 15) C dX2_init_37 (by decide) ?_
              refine g_iload_n C dX2_init_15 rfl ?_
              refine g_bipush (v := 10) C dX2_init_16 (by decide) ?_
              refine g_icmp_ge (tgt := 40) C dX2_init_18 (by decide) (fun c18 => ?_) (fun c18 => ?_)
              · skip
                exact absurd c18 (by decide)
              · skip
                refine g_aload_n C dX2_init_21 rfl ?_
                refine g_get C kwX2 0 rfl rfl 0 (by decide) kfX2_11 rfl dX2_init_22 ?_
                refine g_iload_n C dX2_init_25 rfl ?_
                refine g_new (ci := 4) (fs := [.null, .int 0, .int 0, .int 0]) C kwX4 tyX4 tyX4_ok klX2_9 kjX4 knX4 rfl (fun j hj => by match j, hj with | 0, _ => rfl | 1, _ => rfl | 2, _ => rfl | 3, _ => rfl | j + 4, h => exact absurd h (by omega)) (by decide) (by decide) dX2_init_26 (fun m6 => ?_)
                refine g_re (ws' := [(h, .inr (2, [.ref pa, .int 0, .int 0])), aM E pa 10 (va_up (va_up (va_up (va_up (va_up (va_up (fun _ => none) 0 (some m0)) 1 (some m1)) 2 (some m2)) 3 (some m3)) 4 (some m4)) 5 (some m5)), (m0, .inr (4, [.ref ma0, .int 0, .int 0, .int 0])), aI E ma0 9 (fun _ => 0), (m1, .inr (4, [.ref ma1, .int 0, .int 0, .int 0])), aI E ma1 9 (fun _ => 0), (m2, .inr (4, [.ref ma2, .int 0, .int 0, .int 0])), aI E ma2 9 (fun _ => 0), (m3, .inr (4, [.ref ma3, .int 0, .int 0, .int 0])), aI E ma3 9 (fun _ => 0), (m4, .inr (4, [.ref ma4, .int 0, .int 0, .int 0])), aI E ma4 9 (fun _ => 0), (m5, .inr (4, [.ref ma5, .int 0, .int 0, .int 0])), aI E ma5 9 (fun _ => 0), (m6, .inr (4, [.null, .int 0, .int 0, .int 0]))]) (st' := [.ref m6, .int 6, .ref pa]) (n' := 14) (z' := 92) (pc' := 29) rfl rfl rfl rfl ?_
                refine g_dup C dX2_init_29 rfl ?_
                refine g_callIN C (c_X4_init k.l E m6) kcX4_init (by decide) knX4 kiX4_init rfl ⟨rfl, rfl⟩ kdX4_init ⟨by decide, by decide⟩ ⟨by decide, by decide⟩ [14] [0, 1, 2, 3, 4, 5, 6, 7, 8, 9, 10, 11, 12, 13] rfl (wr := [(h, .inr (2, [.ref pa, .int 0, .int 0])), aM E pa 10 (va_up (va_up (va_up (va_up (va_up (va_up (fun _ => none) 0 (some m0)) 1 (some m1)) 2 (some m2)) 3 (some m3)) 4 (some m4)) 5 (some m5)), (m0, .inr (4, [.ref ma0, .int 0, .int 0, .int 0])), aI E ma0 9 (fun _ => 0), (m1, .inr (4, [.ref ma1, .int 0, .int 0, .int 0])), aI E ma1 9 (fun _ => 0), (m2, .inr (4, [.ref ma2, .int 0, .int 0, .int 0])), aI E ma2 9 (fun _ => 0), (m3, .inr (4, [.ref ma3, .int 0, .int 0, .int 0])), aI E ma3 9 (fun _ => 0), (m4, .inr (4, [.ref ma4, .int 0, .int 0, .int 0])), aI E ma4 9 (fun _ => 0), (m5, .inr (4, [.ref ma5, .int 0, .int 0, .int 0])), aI E ma5 9 (fun _ => 0)]) rfl rfl rfl (by decide) rfl (As := []) (rest := [.ref m6, .int 6, .ref pa]) rfl (Nat.le_of_ble_eq_true rfl) dX2_init_30 (fun rv_ rw_ hp_ => ?_)
                obtain ⟨ma6, rfl, rfl⟩ := hp_
                refine g_rep [0, 1, 2, 3, 4, 5, 6, 7, 8, 9, 10, 11, 12, 13, 14, 15] (ws' := [(h, .inr (2, [.ref pa, .int 0, .int 0])), aM E pa 10 (va_up (va_up (va_up (va_up (va_up (va_up (fun _ => none) 0 (some m0)) 1 (some m1)) 2 (some m2)) 3 (some m3)) 4 (some m4)) 5 (some m5)), (m0, .inr (4, [.ref ma0, .int 0, .int 0, .int 0])), aI E ma0 9 (fun _ => 0), (m1, .inr (4, [.ref ma1, .int 0, .int 0, .int 0])), aI E ma1 9 (fun _ => 0), (m2, .inr (4, [.ref ma2, .int 0, .int 0, .int 0])), aI E ma2 9 (fun _ => 0), (m3, .inr (4, [.ref ma3, .int 0, .int 0, .int 0])), aI E ma3 9 (fun _ => 0), (m4, .inr (4, [.ref ma4, .int 0, .int 0, .int 0])), aI E ma4 9 (fun _ => 0), (m5, .inr (4, [.ref ma5, .int 0, .int 0, .int 0])), aI E ma5 9 (fun _ => 0), (m6, .inr (4, [.ref ma6, .int 0, .int 0, .int 0])), aI E ma6 9 (fun _ => 0)]) (st' := [.ref m6, .int 6, .ref pa]) (n' := 15) (z' := 101) (pc' := 33) rfl rfl rfl rfl rfl rfl ?_
                refine g_aast (ws' := [(h, .inr (2, [.ref pa, .int 0, .int 0])), aM E pa 10 (va_up (va_up (va_up (va_up (va_up (va_up (va_up (fun _ => none) 0 (some m0)) 1 (some m1)) 2 (some m2)) 3 (some m3)) 4 (some m4)) 5 (some m5)) 6 (some m6)), (m0, .inr (4, [.ref ma0, .int 0, .int 0, .int 0])), aI E ma0 9 (fun _ => 0), (m1, .inr (4, [.ref ma1, .int 0, .int 0, .int 0])), aI E ma1 9 (fun _ => 0), (m2, .inr (4, [.ref ma2, .int 0, .int 0, .int 0])), aI E ma2 9 (fun _ => 0), (m3, .inr (4, [.ref ma3, .int 0, .int 0, .int 0])), aI E ma3 9 (fun _ => 0), (m4, .inr (4, [.ref ma4, .int 0, .int 0, .int 0])), aI E ma4 9 (fun _ => 0), (m5, .inr (4, [.ref ma5, .int 0, .int 0, .int 0])), aI E ma5 9 (fun _ => 0), (m6, .inr (4, [.ref ma6, .int 0, .int 0, .int 0])), aI E ma6 9 (fun _ => 0)]) C 1 14 6 rfl rfl (rfl) (by decide) (by decide) rfl dX2_init_33 ?_
                refine g_iinc (v := 7) (lv' := [some (.ref h), some (.int 7)]) C dX2_init_34 rfl (by decide) (hnl 1 (by decide)) rfl rfl ?_
                refine g_goto (tgt := 15) C dX2_init_37 (by decide) ?_
                refine g_iload_n C dX2_init_15 rfl ?_
                refine g_bipush (v := 10) C dX2_init_16 (by decide) ?_
                refine g_icmp_ge (tgt := 40) C dX2_init_18 (by decide) (fun c18 => ?_) (fun c18 => ?_)
                · skip
                  exact absurd c18 (by decide)
                · skip
                  refine g_aload_n C dX2_init_21 rfl ?_
                  refine g_get C kwX2 0 rfl rfl 0 (by decide) kfX2_11 rfl dX2_init_22 ?_
                  refine g_iload_n C dX2_init_25 rfl ?_
                  refine g_new (ci := 4) (fs := [.null, .int 0, .int 0, .int 0]) C kwX4 tyX4 tyX4_ok klX2_9 kjX4 knX4 rfl (fun j hj => by match j, hj with | 0, _ => rfl | 1, _ => rfl | 2, _ => rfl | 3, _ => rfl | j + 4, h => exact absurd h (by omega)) (by decide) (by decide) dX2_init_26 (fun m7 => ?_)
                  refine g_re (ws' := [(h, .inr (2, [.ref pa, .int 0, .int 0])), aM E pa 10 (va_up (va_up (va_up (va_up (va_up (va_up (va_up (fun _ => none) 0 (some m0)) 1 (some m1)) 2 (some m2)) 3 (some m3)) 4 (some m4)) 5 (some m5)) 6 (some m6)), (m0, .inr (4, [.ref ma0, .int 0, .int 0, .int 0])), aI E ma0 9 (fun _ => 0), (m1, .inr (4, [.ref ma1, .int 0, .int 0, .int 0])), aI E ma1 9 (fun _ => 0), (m2, .inr (4, [.ref ma2, .int 0, .int 0, .int 0])), aI E ma2 9 (fun _ => 0), (m3, .inr (4, [.ref ma3, .int 0, .int 0, .int 0])), aI E ma3 9 (fun _ => 0), (m4, .inr (4, [.ref ma4, .int 0, .int 0, .int 0])), aI E ma4 9 (fun _ => 0), (m5, .inr (4, [.ref ma5, .int 0, .int 0, .int 0])), aI E ma5 9 (fun _ => 0), (m6, .inr (4, [.ref ma6, .int 0, .int 0, .int 0])), aI E ma6 9 (fun _ => 0), (m7, .inr (4, [.null, .int 0, .int 0, .int 0]))]) (st' := [.ref m7, .int 7, .ref pa]) (n' := 16) (z' := 105) (pc' := 29) rfl rfl rfl rfl ?_
                  refine g_dup C dX2_init_29 rfl ?_
                  refine g_callIN C (c_X4_init k.l E m7) kcX4_init (by decide) knX4 kiX4_init rfl ⟨rfl, rfl⟩ kdX4_init ⟨by decide, by decide⟩ ⟨by decide, by decide⟩ [16] [0, 1, 2, 3, 4, 5, 6, 7, 8, 9, 10, 11, 12, 13, 14, 15] rfl (wr := [(h, .inr (2, [.ref pa, .int 0, .int 0])), aM E pa 10 (va_up (va_up (va_up (va_up (va_up (va_up (va_up (fun _ => none) 0 (some m0)) 1 (some m1)) 2 (some m2)) 3 (some m3)) 4 (some m4)) 5 (some m5)) 6 (some m6)), (m0, .inr (4, [.ref ma0, .int 0, .int 0, .int 0])), aI E ma0 9 (fun _ => 0), (m1, .inr (4, [.ref ma1, .int 0, .int 0, .int 0])), aI E ma1 9 (fun _ => 0), (m2, .inr (4, [.ref ma2, .int 0, .int 0, .int 0])), aI E ma2 9 (fun _ => 0), (m3, .inr (4, [.ref ma3, .int 0, .int 0, .int 0])), aI E ma3 9 (fun _ => 0), (m4, .inr (4, [.ref ma4, .int 0, .int 0, .int 0])), aI E ma4 9 (fun _ => 0), (m5, .inr (4, [.ref ma5, .int 0, .int 0, .int 0])), aI E ma5 9 (fun _ => 0), (m6, .inr (4, [.ref ma6, .int 0, .int 0, .int 0])), aI E ma6 9 (fun _ => 0)]) rfl rfl rfl (by decide) rfl (As := []) (rest := [.ref m7, .int 7, .ref pa]) rfl (Nat.le_of_ble_eq_true rfl) dX2_init_30 (fun rv_ rw_ hp_ => ?_)
                  obtain ⟨ma7, rfl, rfl⟩ := hp_
                  refine g_rep [0, 1, 2, 3, 4, 5, 6, 7, 8, 9, 10, 11, 12, 13, 14, 15, 16, 17] (ws' := [(h, .inr (2, [.ref pa, .int 0, .int 0])), aM E pa 10 (va_up (va_up (va_up (va_up (va_up (va_up (va_up (fun _ => none) 0 (some m0)) 1 (some m1)) 2 (some m2)) 3 (some m3)) 4 (some m4)) 5 (some m5)) 6 (some m6)), (m0, .inr (4, [.ref ma0, .int 0, .int 0, .int 0])), aI E ma0 9 (fun _ => 0), (m1, .inr (4, [.ref ma1, .int 0, .int 0, .int 0])), aI E ma1 9 (fun _ => 0), (m2, .inr (4, [.ref ma2, .int 0, .int 0, .int 0])), aI E ma2 9 (fun _ => 0), (m3, .inr (4, [.ref ma3, .int 0, .int 0, .int 0])), aI E ma3 9 (fun _ => 0), (m4, .inr (4, [.ref ma4, .int 0, .int 0, .int 0])), aI E ma4 9 (fun _ => 0), (m5, .inr (4, [.ref ma5, .int 0, .int 0, .int 0])), aI E ma5 9 (fun _ => 0), (m6, .inr (4, [.ref ma6, .int 0, .int 0, .int 0])), aI E ma6 9 (fun _ => 0), (m7, .inr (4, [.ref ma7, .int 0, .int 0, .int 0])), aI E ma7 9 (fun _ => 0)]) (st' := [.ref m7, .int 7, .ref pa]) (n' := 17) (z' := 114) (pc' := 33) rfl rfl rfl rfl rfl rfl ?_
                  refine g_aast (ws' := [(h, .inr (2, [.ref pa, .int 0, .int 0])), aM E pa 10 (va_up (va_up (va_up (va_up (va_up (va_up (va_up (va_up (fun _ => none) 0 (some m0)) 1 (some m1)) 2 (some m2)) 3 (some m3)) 4 (some m4)) 5 (some m5)) 6 (some m6)) 7 (some m7)), (m0, .inr (4, [.ref ma0, .int 0, .int 0, .int 0])), aI E ma0 9 (fun _ => 0), (m1, .inr (4, [.ref ma1, .int 0, .int 0, .int 0])), aI E ma1 9 (fun _ => 0), (m2, .inr (4, [.ref ma2, .int 0, .int 0, .int 0])), aI E ma2 9 (fun _ => 0), (m3, .inr (4, [.ref ma3, .int 0, .int 0, .int 0])), aI E ma3 9 (fun _ => 0), (m4, .inr (4, [.ref ma4, .int 0, .int 0, .int 0])), aI E ma4 9 (fun _ => 0), (m5, .inr (4, [.ref ma5, .int 0, .int 0, .int 0])), aI E ma5 9 (fun _ => 0), (m6, .inr (4, [.ref ma6, .int 0, .int 0, .int 0])), aI E ma6 9 (fun _ => 0), (m7, .inr (4, [.ref ma7, .int 0, .int 0, .int 0])), aI E ma7 9 (fun _ => 0)]) C 1 16 7 rfl rfl (rfl) (by decide) (by decide) rfl dX2_init_33 ?_
                  refine g_iinc (v := 8) (lv' := [some (.ref h), some (.int 8)]) C dX2_init_34 rfl (by decide) (hnl 1 (by decide)) rfl rfl ?_
                  refine g_goto (tgt := 15) C dX2_init_37 (by decide) ?_
                  refine g_iload_n C dX2_init_15 rfl ?_
                  refine g_bipush (v := 10) C dX2_init_16 (by decide) ?_
                  refine g_icmp_ge (tgt := 40) C dX2_init_18 (by decide) (fun c18 => ?_) (fun c18 => ?_)
                  · skip
                    exact absurd c18 (by decide)
                  · skip
                    refine g_aload_n C dX2_init_21 rfl ?_
                    refine g_get C kwX2 0 rfl rfl 0 (by decide) kfX2_11 rfl dX2_init_22 ?_
                    refine g_iload_n C dX2_init_25 rfl ?_
                    refine g_new (ci := 4) (fs := [.null, .int 0, .int 0, .int 0]) C kwX4 tyX4 tyX4_ok klX2_9 kjX4 knX4 rfl (fun j hj => by match j, hj with | 0, _ => rfl | 1, _ => rfl | 2, _ => rfl | 3, _ => rfl | j + 4, h => exact absurd h (by omega)) (by decide) (by decide) dX2_init_26 (fun m8 => ?_)
                    refine g_re (ws' := [(h, .inr (2, [.ref pa, .int 0, .int 0])), aM E pa 10 (va_up (va_up (va_up (va_up (va_up (va_up (va_up (va_up (fun _ => none) 0 (some m0)) 1 (some m1)) 2 (some m2)) 3 (some m3)) 4 (some m4)) 5 (some m5)) 6 (some m6)) 7 (some m7)), (m0, .inr (4, [.ref ma0, .int 0, .int 0, .int 0])), aI E ma0 9 (fun _ => 0), (m1, .inr (4, [.ref ma1, .int 0, .int 0, .int 0])), aI E ma1 9 (fun _ => 0), (m2, .inr (4, [.ref ma2, .int 0, .int 0, .int 0])), aI E ma2 9 (fun _ => 0), (m3, .inr (4, [.ref ma3, .int 0, .int 0, .int 0])), aI E ma3 9 (fun _ => 0), (m4, .inr (4, [.ref ma4, .int 0, .int 0, .int 0])), aI E ma4 9 (fun _ => 0), (m5, .inr (4, [.ref ma5, .int 0, .int 0, .int 0])), aI E ma5 9 (fun _ => 0), (m6, .inr (4, [.ref ma6, .int 0, .int 0, .int 0])), aI E ma6 9 (fun _ => 0), (m7, .inr (4, [.ref ma7, .int 0, .int 0, .int 0])), aI E ma7 9 (fun _ => 0), (m8, .inr (4, [.null, .int 0, .int 0, .int 0]))]) (st' := [.ref m8, .int 8, .ref pa]) (n' := 18) (z' := 118) (pc' := 29) rfl rfl rfl rfl ?_
                    refine g_dup C dX2_init_29 rfl ?_
                    refine g_callIN C (c_X4_init k.l E m8) kcX4_init (by decide) knX4 kiX4_init rfl ⟨rfl, rfl⟩ kdX4_init ⟨by decide, by decide⟩ ⟨by decide, by decide⟩ [18] [0, 1, 2, 3, 4, 5, 6, 7, 8, 9, 10, 11, 12, 13, 14, 15, 16, 17] rfl (wr := [(h, .inr (2, [.ref pa, .int 0, .int 0])), aM E pa 10 (va_up (va_up (va_up (va_up (va_up (va_up (va_up (va_up (fun _ => none) 0 (some m0)) 1 (some m1)) 2 (some m2)) 3 (some m3)) 4 (some m4)) 5 (some m5)) 6 (some m6)) 7 (some m7)), (m0, .inr (4, [.ref ma0, .int 0, .int 0, .int 0])), aI E ma0 9 (fun _ => 0), (m1, .inr (4, [.ref ma1, .int 0, .int 0, .int 0])), aI E ma1 9 (fun _ => 0), (m2, .inr (4, [.ref ma2, .int 0, .int 0, .int 0])), aI E ma2 9 (fun _ => 0), (m3, .inr (4, [.ref ma3, .int 0, .int 0, .int 0])), aI E ma3 9 (fun _ => 0), (m4, .inr (4, [.ref ma4, .int 0, .int 0, .int 0])), aI E ma4 9 (fun _ => 0), (m5, .inr (4, [.ref ma5, .int 0, .int 0, .int 0])), aI E ma5 9 (fun _ => 0), (m6, .inr (4, [.ref ma6, .int 0, .int 0, .int 0])), aI E ma6 9 (fun _ => 0), (m7, .inr (4, [.ref ma7, .int 0, .int 0, .int 0])), aI E ma7 9 (fun _ => 0)]) rfl rfl rfl (by decide) rfl (As := []) (rest := [.ref m8, .int 8, .ref pa]) rfl (Nat.le_of_ble_eq_true rfl) dX2_init_30 (fun rv_ rw_ hp_ => ?_)
                    obtain ⟨ma8, rfl, rfl⟩ := hp_
                    refine g_rep [0, 1, 2, 3, 4, 5, 6, 7, 8, 9, 10, 11, 12, 13, 14, 15, 16, 17, 18, 19] (ws' := [(h, .inr (2, [.ref pa, .int 0, .int 0])), aM E pa 10 (va_up (va_up (va_up (va_up (va_up (va_up (va_up (va_up (fun _ => none) 0 (some m0)) 1 (some m1)) 2 (some m2)) 3 (some m3)) 4 (some m4)) 5 (some m5)) 6 (some m6)) 7 (some m7)), (m0, .inr (4, [.ref ma0, .int 0, .int 0, .int 0])), aI E ma0 9 (fun _ => 0), (m1, .inr (4, [.ref ma1, .int 0, .int 0, .int 0])), aI E ma1 9 (fun _ => 0), (m2, .inr (4, [.ref ma2, .int 0, .int 0, .int 0])), aI E ma2 9 (fun _ => 0), (m3, .inr (4, [.ref ma3, .int 0, .int 0, .int 0])), aI E ma3 9 (fun _ => 0), (m4, .inr (4, [.ref ma4, .int 0, .int 0, .int 0])), aI E ma4 9 (fun _ => 0), (m5, .inr (4, [.ref ma5, .int 0, .int 0, .int 0])), aI E ma5 9 (fun _ => 0), (m6, .inr (4, [.ref ma6, .int 0, .int 0, .int 0])), aI E ma6 9 (fun _ => 0), (m7, .inr (4, [.ref ma7, .int 0, .int 0, .int 0])), aI E ma7 9 (fun _ => 0), (m8, .inr (4, [.ref ma8, .int 0, .int 0, .int 0])), aI E ma8 9 (fun _ => 0)]) (st' := [.ref m8, .int 8, .ref pa]) (n' := 19) (z' := 127) (pc' := 33) rfl rfl rfl rfl rfl rfl ?_
                    refine g_aast (ws' := [(h, .inr (2, [.ref pa, .int 0, .int 0])), aM E pa 10 (va_up (va_up (va_up (va_up (va_up (va_up (va_up (va_up (va_up (fun _ => none) 0 (some m0)) 1 (some m1)) 2 (some m2)) 3 (some m3)) 4 (some m4)) 5 (some m5)) 6 (some m6)) 7 (some m7)) 8 (some m8)), (m0, .inr (4, [.ref ma0, .int 0, .int 0, .int 0])), aI E ma0 9 (fun _ => 0), (m1, .inr (4, [.ref ma1, .int 0, .int 0, .int 0])), aI E ma1 9 (fun _ => 0), (m2, .inr (4, [.ref ma2, .int 0, .int 0, .int 0])), aI E ma2 9 (fun _ => 0), (m3, .inr (4, [.ref ma3, .int 0, .int 0, .int 0])), aI E ma3 9 (fun _ => 0), (m4, .inr (4, [.ref ma4, .int 0, .int 0, .int 0])), aI E ma4 9 (fun _ => 0), (m5, .inr (4, [.ref ma5, .int 0, .int 0, .int 0])), aI E ma5 9 (fun _ => 0), (m6, .inr (4, [.ref ma6, .int 0, .int 0, .int 0])), aI E ma6 9 (fun _ => 0), (m7, .inr (4, [.ref ma7, .int 0, .int 0, .int 0])), aI E ma7 9 (fun _ => 0), (m8, .inr (4, [.ref ma8, .int 0, .int 0, .int 0])), aI E ma8 9 (fun _ => 0)]) C 1 18 8 rfl rfl (rfl) (by decide) (by decide) rfl dX2_init_33 ?_
                    refine g_iinc (v := 9) (lv' := [some (.ref h), some (.int 9)]) C dX2_init_34 rfl (by decide) (hnl 1 (by decide)) rfl rfl ?_
                    refine g_goto (tgt := 15) C dX2_init_37 (by decide) ?_
                    refine g_iload_n C dX2_init_15 rfl ?_
                    refine g_bipush (v := 10) C dX2_init_16 (by decide) ?_
                    refine g_icmp_ge (tgt := 40) C dX2_init_18 (by decide) (fun c18 => ?_) (fun c18 => ?_)
                    · skip
                      exact absurd c18 (by decide)
                    · skip
                      refine g_aload_n C dX2_init_21 rfl ?_
                      refine g_get C kwX2 0 rfl rfl 0 (by decide) kfX2_11 rfl dX2_init_22 ?_
                      refine g_iload_n C dX2_init_25 rfl ?_
                      refine g_new (ci := 4) (fs := [.null, .int 0, .int 0, .int 0]) C kwX4 tyX4 tyX4_ok klX2_9 kjX4 knX4 rfl (fun j hj => by match j, hj with | 0, _ => rfl | 1, _ => rfl | 2, _ => rfl | 3, _ => rfl | j + 4, h => exact absurd h (by omega)) (by decide) (by decide) dX2_init_26 (fun m9 => ?_)
                      refine g_re (ws' := [(h, .inr (2, [.ref pa, .int 0, .int 0])), aM E pa 10 (va_up (va_up (va_up (va_up (va_up (va_up (va_up (va_up (va_up (fun _ => none) 0 (some m0)) 1 (some m1)) 2 (some m2)) 3 (some m3)) 4 (some m4)) 5 (some m5)) 6 (some m6)) 7 (some m7)) 8 (some m8)), (m0, .inr (4, [.ref ma0, .int 0, .int 0, .int 0])), aI E ma0 9 (fun _ => 0), (m1, .inr (4, [.ref ma1, .int 0, .int 0, .int 0])), aI E ma1 9 (fun _ => 0), (m2, .inr (4, [.ref ma2, .int 0, .int 0, .int 0])), aI E ma2 9 (fun _ => 0), (m3, .inr (4, [.ref ma3, .int 0, .int 0, .int 0])), aI E ma3 9 (fun _ => 0), (m4, .inr (4, [.ref ma4, .int 0, .int 0, .int 0])), aI E ma4 9 (fun _ => 0), (m5, .inr (4, [.ref ma5, .int 0, .int 0, .int 0])), aI E ma5 9 (fun _ => 0), (m6, .inr (4, [.ref ma6, .int 0, .int 0, .int 0])), aI E ma6 9 (fun _ => 0), (m7, .inr (4, [.ref ma7, .int 0, .int 0, .int 0])), aI E ma7 9 (fun _ => 0), (m8, .inr (4, [.ref ma8, .int 0, .int 0, .int 0])), aI E ma8 9 (fun _ => 0), (m9, .inr (4, [.null, .int 0, .int 0, .int 0]))]) (st' := [.ref m9, .int 9, .ref pa]) (n' := 20) (z' := 131) (pc' := 29) rfl rfl rfl rfl ?_
                      refine g_dup C dX2_init_29 rfl ?_
                      refine g_callIN C (c_X4_init k.l E m9) kcX4_init (by decide) knX4 kiX4_init rfl ⟨rfl, rfl⟩ kdX4_init ⟨by decide, by decide⟩ ⟨by decide, by decide⟩ [20] [0, 1, 2, 3, 4, 5, 6, 7, 8, 9, 10, 11, 12, 13, 14, 15, 16, 17, 18, 19] rfl (wr := [(h, .inr (2, [.ref pa, .int 0, .int 0])), aM E pa 10 (va_up (va_up (va_up (va_up (va_up (va_up (va_up (va_up (va_up (fun _ => none) 0 (some m0)) 1 (some m1)) 2 (some m2)) 3 (some m3)) 4 (some m4)) 5 (some m5)) 6 (some m6)) 7 (some m7)) 8 (some m8)), (m0, .inr (4, [.ref ma0, .int 0, .int 0, .int 0])), aI E ma0 9 (fun _ => 0), (m1, .inr (4, [.ref ma1, .int 0, .int 0, .int 0])), aI E ma1 9 (fun _ => 0), (m2, .inr (4, [.ref ma2, .int 0, .int 0, .int 0])), aI E ma2 9 (fun _ => 0), (m3, .inr (4, [.ref ma3, .int 0, .int 0, .int 0])), aI E ma3 9 (fun _ => 0), (m4, .inr (4, [.ref ma4, .int 0, .int 0, .int 0])), aI E ma4 9 (fun _ => 0), (m5, .inr (4, [.ref ma5, .int 0, .int 0, .int 0])), aI E ma5 9 (fun _ => 0), (m6, .inr (4, [.ref ma6, .int 0, .int 0, .int 0])), aI E ma6 9 (fun _ => 0), (m7, .inr (4, [.ref ma7, .int 0, .int 0, .int 0])), aI E ma7 9 (fun _ => 0), (m8, .inr (4, [.ref ma8, .int 0, .int 0, .int 0])), aI E ma8 9 (fun _ => 0)]) rfl rfl rfl (by decide) rfl (As := []) (rest := [.ref m9, .int 9, .ref pa]) rfl (Nat.le_of_ble_eq_true rfl) dX2_init_30 (fun rv_ rw_ hp_ => ?_)
                      obtain ⟨ma9, rfl, rfl⟩ := hp_
                      refine g_rep [0, 1, 2, 3, 4, 5, 6, 7, 8, 9, 10, 11, 12, 13, 14, 15, 16, 17, 18, 19, 20, 21] (ws' := [(h, .inr (2, [.ref pa, .int 0, .int 0])), aM E pa 10 (va_up (va_up (va_up (va_up (va_up (va_up (va_up (va_up (va_up (fun _ => none) 0 (some m0)) 1 (some m1)) 2 (some m2)) 3 (some m3)) 4 (some m4)) 5 (some m5)) 6 (some m6)) 7 (some m7)) 8 (some m8)), (m0, .inr (4, [.ref ma0, .int 0, .int 0, .int 0])), aI E ma0 9 (fun _ => 0), (m1, .inr (4, [.ref ma1, .int 0, .int 0, .int 0])), aI E ma1 9 (fun _ => 0), (m2, .inr (4, [.ref ma2, .int 0, .int 0, .int 0])), aI E ma2 9 (fun _ => 0), (m3, .inr (4, [.ref ma3, .int 0, .int 0, .int 0])), aI E ma3 9 (fun _ => 0), (m4, .inr (4, [.ref ma4, .int 0, .int 0, .int 0])), aI E ma4 9 (fun _ => 0), (m5, .inr (4, [.ref ma5, .int 0, .int 0, .int 0])), aI E ma5 9 (fun _ => 0), (m6, .inr (4, [.ref ma6, .int 0, .int 0, .int 0])), aI E ma6 9 (fun _ => 0), (m7, .inr (4, [.ref ma7, .int 0, .int 0, .int 0])), aI E ma7 9 (fun _ => 0), (m8, .inr (4, [.ref ma8, .int 0, .int 0, .int 0])), aI E ma8 9 (fun _ => 0), (m9, .inr (4, [.ref ma9, .int 0, .int 0, .int 0])), aI E ma9 9 (fun _ => 0)]) (st' := [.ref m9, .int 9, .ref pa]) (n' := 21) (z' := 140) (pc' := 33) rfl rfl rfl rfl rfl rfl ?_
                      refine g_aast (ws' := [(h, .inr (2, [.ref pa, .int 0, .int 0])), aM E pa 10 (va_up (va_up (va_up (va_up (va_up (va_up (va_up (va_up (va_up (va_up (fun _ => none) 0 (some m0)) 1 (some m1)) 2 (some m2)) 3 (some m3)) 4 (some m4)) 5 (some m5)) 6 (some m6)) 7 (some m7)) 8 (some m8)) 9 (some m9)), (m0, .inr (4, [.ref ma0, .int 0, .int 0, .int 0])), aI E ma0 9 (fun _ => 0), (m1, .inr (4, [.ref ma1, .int 0, .int 0, .int 0])), aI E ma1 9 (fun _ => 0), (m2, .inr (4, [.ref ma2, .int 0, .int 0, .int 0])), aI E ma2 9 (fun _ => 0), (m3, .inr (4, [.ref ma3, .int 0, .int 0, .int 0])), aI E ma3 9 (fun _ => 0), (m4, .inr (4, [.ref ma4, .int 0, .int 0, .int 0])), aI E ma4 9 (fun _ => 0), (m5, .inr (4, [.ref ma5, .int 0, .int 0, .int 0])), aI E ma5 9 (fun _ => 0), (m6, .inr (4, [.ref ma6, .int 0, .int 0, .int 0])), aI E ma6 9 (fun _ => 0), (m7, .inr (4, [.ref ma7, .int 0, .int 0, .int 0])), aI E ma7 9 (fun _ => 0), (m8, .inr (4, [.ref ma8, .int 0, .int 0, .int 0])), aI E ma8 9 (fun _ => 0), (m9, .inr (4, [.ref ma9, .int 0, .int 0, .int 0])), aI E ma9 9 (fun _ => 0)]) C 1 20 9 rfl rfl (rfl) (by decide) (by decide) rfl dX2_init_33 ?_
                      refine g_iinc (v := 10) (lv' := [some (.ref h), some (.int 10)]) C dX2_init_34 rfl (by decide) (hnl 1 (by decide)) rfl rfl ?_
                      refine g_goto (tgt := 15) C dX2_init_37 (by decide) ?_
                      refine g_iload_n C dX2_init_15 rfl ?_
                      refine g_bipush (v := 10) C dX2_init_16 (by decide) ?_
                      refine g_icmp_ge (tgt := 40) C dX2_init_18 (by decide) (fun c18 => ?_) (fun c18 => ?_)
                      · skip
                        exact g_vret C hR (⟨pa, _, (fun i => if i = 0 then m0 else if i = 1 then m1 else if i = 2 then m2 else if i = 3 then m3 else if i = 4 then m4 else if i = 5 then m5 else if i = 6 then m6 else if i = 7 then m7 else if i = 8 then m8 else m9), (fun i => if i = 0 then ma0 else if i = 1 then ma1 else if i = 2 then ma2 else if i = 3 then ma3 else if i = 4 then ma4 else if i = 5 then ma5 else if i = 6 then ma6 else if i = 7 then ma7 else if i = 8 then ma8 else ma9), rfl, rfl, fun i hi => by match i, hi with | 0, _ => rfl | 1, _ => rfl | 2, _ => rfl | 3, _ => rfl | 4, _ => rfl | 5, _ => rfl | 6, _ => rfl | 7, _ => rfl | 8, _ => rfl | 9, _ => rfl | i + 10, h => exact absurd h (by omega)⟩) dX2_init_40
                      · skip
                        exact absurd (by decide) c18

set_option maxHeartbeats 4000000 in
set_option maxRecDepth 100000 in
/-- a moment is remembered -/
theorem c_X2_remember (l : Launch) (E : EX) (h : Nat) (pa : Nat) (pf : Nat → Option Nat) (qm : Nat → Nat) (qa : Nat → Nat) (kn : Nat) (fr : Nat) (hp : Nat → Int32) (hv : Nat → Int32) (hf : Nat → Int32) (hm : Nat → Nat → Int32) (o : Nat) (om : Nat) (pl : Int32) (vg : Int32) (fp : Int32) (ma : Nat → Int32) (hpf : ∀ i, i < 10 → pf i = some (qm i)) (hfr : fr < 10) (hkn : kn ≤ 10) : Ct l E yX2_remember cX2_remember 2 none (rmL 2 0 0) [.ref h, .ref o] [(h, .inr (2, [.ref pa, .int (nI kn), .int (nI fr)])), aM E pa 10 pf, (qm 0, .inr (4, [.ref (qa 0), .int (hp 0), .int (hv 0), .int (hf 0)])), aI E (qa 0) 9 (hm 0), (qm 1, .inr (4, [.ref (qa 1), .int (hp 1), .int (hv 1), .int (hf 1)])), aI E (qa 1) 9 (hm 1), (qm 2, .inr (4, [.ref (qa 2), .int (hp 2), .int (hv 2), .int (hf 2)])), aI E (qa 2) 9 (hm 2), (qm 3, .inr (4, [.ref (qa 3), .int (hp 3), .int (hv 3), .int (hf 3)])), aI E (qa 3) 9 (hm 3), (qm 4, .inr (4, [.ref (qa 4), .int (hp 4), .int (hv 4), .int (hf 4)])), aI E (qa 4) 9 (hm 4), (qm 5, .inr (4, [.ref (qa 5), .int (hp 5), .int (hv 5), .int (hf 5)])), aI E (qa 5) 9 (hm 5), (qm 6, .inr (4, [.ref (qa 6), .int (hp 6), .int (hv 6), .int (hf 6)])), aI E (qa 6) 9 (hm 6), (qm 7, .inr (4, [.ref (qa 7), .int (hp 7), .int (hv 7), .int (hf 7)])), aI E (qa 7) 9 (hm 7), (qm 8, .inr (4, [.ref (qa 8), .int (hp 8), .int (hv 8), .int (hf 8)])), aI E (qa 8) 9 (hm 8), (qm 9, .inr (4, [.ref (qa 9), .int (hp 9), .int (hv 9), .int (hf 9)])), aI E (qa 9) 9 (hm 9), (o, .inr (4, [.ref om, .int pl, .int vg, .int fp])), aI E om 9 ma] (fun (rv_ : Option Value) (rw_ : va_W) => rv_ = none ∧ rw_ = [(h, .inr (2, [.ref pa, .int (nI (if kn + 1 < 10 then kn + 1 else 10)), .int (nI ((fr + 1) % 10))])), aM E pa 10 pf, (qm 0, .inr (4, [.ref (qa 0), .int (upd hp fr pl 0), .int (upd hv fr vg 0), .int (upd hf fr fp 0)])), aI E (qa 0) 9 (updA hm fr (va_cpy ma (hm fr) 0 0 9) 0), (qm 1, .inr (4, [.ref (qa 1), .int (upd hp fr pl 1), .int (upd hv fr vg 1), .int (upd hf fr fp 1)])), aI E (qa 1) 9 (updA hm fr (va_cpy ma (hm fr) 0 0 9) 1), (qm 2, .inr (4, [.ref (qa 2), .int (upd hp fr pl 2), .int (upd hv fr vg 2), .int (upd hf fr fp 2)])), aI E (qa 2) 9 (updA hm fr (va_cpy ma (hm fr) 0 0 9) 2), (qm 3, .inr (4, [.ref (qa 3), .int (upd hp fr pl 3), .int (upd hv fr vg 3), .int (upd hf fr fp 3)])), aI E (qa 3) 9 (updA hm fr (va_cpy ma (hm fr) 0 0 9) 3), (qm 4, .inr (4, [.ref (qa 4), .int (upd hp fr pl 4), .int (upd hv fr vg 4), .int (upd hf fr fp 4)])), aI E (qa 4) 9 (updA hm fr (va_cpy ma (hm fr) 0 0 9) 4), (qm 5, .inr (4, [.ref (qa 5), .int (upd hp fr pl 5), .int (upd hv fr vg 5), .int (upd hf fr fp 5)])), aI E (qa 5) 9 (updA hm fr (va_cpy ma (hm fr) 0 0 9) 5), (qm 6, .inr (4, [.ref (qa 6), .int (upd hp fr pl 6), .int (upd hv fr vg 6), .int (upd hf fr fp 6)])), aI E (qa 6) 9 (updA hm fr (va_cpy ma (hm fr) 0 0 9) 6), (qm 7, .inr (4, [.ref (qa 7), .int (upd hp fr pl 7), .int (upd hv fr vg 7), .int (upd hf fr fp 7)])), aI E (qa 7) 9 (updA hm fr (va_cpy ma (hm fr) 0 0 9) 7), (qm 8, .inr (4, [.ref (qa 8), .int (upd hp fr pl 8), .int (upd hv fr vg 8), .int (upd hf fr fp 8)])), aI E (qa 8) 9 (updA hm fr (va_cpy ma (hm fr) 0 0 9) 8), (qm 9, .inr (4, [.ref (qa 9), .int (upd hp fr pl 9), .int (upd hv fr vg 9), .int (upd hf fr fp 9)])), aI E (qa 9) 9 (updA hm fr (va_cpy ma (hm fr) 0 0 9) 9), (o, .inr (4, [.ref om, .int pl, .int vg, .int fp])), aI E om 9 ma]) 0 0 := by
  refine Ct_of (by decide) (Nat.le_of_ble_eq_true rfl) ?_
  intro k hkl hnl C hR hm_
  subst hkl
  have h10 : fr = 0 ∨ fr = 1 ∨ fr = 2 ∨ fr = 3 ∨ fr = 4 ∨ fr = 5 ∨ fr = 6 ∨ fr = 7 ∨ fr = 8 ∨ fr = 9 := by omega
  rcases h10 with rfl | rfl | rfl | rfl | rfl | rfl | rfl | rfl | rfl | rfl
  · skip
    show G k E 0 0 0 [some (.ref h), some (.ref o)] [] [(h, .inr (2, [.ref pa, .int (nI kn), .int (nI 0)])), aM E pa 10 pf, (qm 0, .inr (4, [.ref (qa 0), .int (hp 0), .int (hv 0), .int (hf 0)])), aI E (qa 0) 9 (hm 0), (qm 1, .inr (4, [.ref (qa 1), .int (hp 1), .int (hv 1), .int (hf 1)])), aI E (qa 1) 9 (hm 1), (qm 2, .inr (4, [.ref (qa 2), .int (hp 2), .int (hv 2), .int (hf 2)])), aI E (qa 2) 9 (hm 2), (qm 3, .inr (4, [.ref (qa 3), .int (hp 3), .int (hv 3), .int (hf 3)])), aI E (qa 3) 9 (hm 3), (qm 4, .inr (4, [.ref (qa 4), .int (hp 4), .int (hv 4), .int (hf 4)])), aI E (qa 4) 9 (hm 4), (qm 5, .inr (4, [.ref (qa 5), .int (hp 5), .int (hv 5), .int (hf 5)])), aI E (qa 5) 9 (hm 5), (qm 6, .inr (4, [.ref (qa 6), .int (hp 6), .int (hv 6), .int (hf 6)])), aI E (qa 6) 9 (hm 6), (qm 7, .inr (4, [.ref (qa 7), .int (hp 7), .int (hv 7), .int (hf 7)])), aI E (qa 7) 9 (hm 7), (qm 8, .inr (4, [.ref (qa 8), .int (hp 8), .int (hv 8), .int (hf 8)])), aI E (qa 8) 9 (hm 8), (qm 9, .inr (4, [.ref (qa 9), .int (hp 9), .int (hv 9), .int (hf 9)])), aI E (qa 9) 9 (hm 9), (o, .inr (4, [.ref om, .int pl, .int vg, .int fp])), aI E om 9 ma]
    refine g_aload_n C dX2_remember_0 rfl ?_
    refine g_get C kwX2 0 rfl rfl 0 (by decide) kfX2_11 rfl dX2_remember_1 ?_
    refine g_aload_n C dX2_remember_4 rfl ?_
    refine g_get C kwX2 0 rfl rfl 2 (by decide) kfX2_18 rfl dX2_remember_5 ?_
    refine g_aald (b := qm 0) C 1 0 rfl (rfl) (by decide) (by decide) (hpf 0 (by decide)) dX2_remember_8 ?_
    refine g_aload_n C dX2_remember_9 rfl ?_
    refine g_callV C (c_X4_copy k.l E (qm 0) (qa 0) (hp 0) (hv 0) (hf 0) (hm 0) o om pl vg fp ma) kmX2_22 kiX4_copy ksX4_copy knX4 kcX4_copy ⟨rfl, rfl⟩ ⟨rfl, kdX4_copy⟩ ⟨by decide, by decide⟩ ⟨by decide, by decide⟩ [2, 3, 22, 23] [0, 1, 4, 5, 6, 7, 8, 9, 10, 11, 12, 13, 14, 15, 16, 17, 18, 19, 20, 21] rfl (wr := [(h, .inr (2, [.ref pa, .int (nI kn), .int (nI 0)])), aM E pa 10 pf, (qm 1, .inr (4, [.ref (qa 1), .int (hp 1), .int (hv 1), .int (hf 1)])), aI E (qa 1) 9 (hm 1), (qm 2, .inr (4, [.ref (qa 2), .int (hp 2), .int (hv 2), .int (hf 2)])), aI E (qa 2) 9 (hm 2), (qm 3, .inr (4, [.ref (qa 3), .int (hp 3), .int (hv 3), .int (hf 3)])), aI E (qa 3) 9 (hm 3), (qm 4, .inr (4, [.ref (qa 4), .int (hp 4), .int (hv 4), .int (hf 4)])), aI E (qa 4) 9 (hm 4), (qm 5, .inr (4, [.ref (qa 5), .int (hp 5), .int (hv 5), .int (hf 5)])), aI E (qa 5) 9 (hm 5), (qm 6, .inr (4, [.ref (qa 6), .int (hp 6), .int (hv 6), .int (hf 6)])), aI E (qa 6) 9 (hm 6), (qm 7, .inr (4, [.ref (qa 7), .int (hp 7), .int (hv 7), .int (hf 7)])), aI E (qa 7) 9 (hm 7), (qm 8, .inr (4, [.ref (qa 8), .int (hp 8), .int (hv 8), .int (hf 8)])), aI E (qa 8) 9 (hm 8), (qm 9, .inr (4, [.ref (qa 9), .int (hp 9), .int (hv 9), .int (hf 9)])), aI E (qa 9) 9 (hm 9)]) rfl rfl rfl (by decide) 2 4 rfl rfl rfl (As := [.ref o]) (rest := []) rfl (Nat.le_of_ble_eq_true rfl) dX2_remember_10 (fun rv_ rw_ hp_ => ?_)
    obtain ⟨rfl, rfl⟩ := hp_
    refine g_rep [0, 1, 20, 21, 2, 3, 4, 5, 6, 7, 8, 9, 10, 11, 12, 13, 14, 15, 16, 17, 18, 19, 22, 23] (ws' := [(h, .inr (2, [.ref pa, .int (nI kn), .int (nI 0)])), aM E pa 10 pf, (qm 0, .inr (4, [.ref (qa 0), .int pl, .int vg, .int fp])), aI E (qa 0) 9 (va_cpy ma (hm 0) 0 0 9), (qm 1, .inr (4, [.ref (qa 1), .int (hp 1), .int (hv 1), .int (hf 1)])), aI E (qa 1) 9 (hm 1), (qm 2, .inr (4, [.ref (qa 2), .int (hp 2), .int (hv 2), .int (hf 2)])), aI E (qa 2) 9 (hm 2), (qm 3, .inr (4, [.ref (qa 3), .int (hp 3), .int (hv 3), .int (hf 3)])), aI E (qa 3) 9 (hm 3), (qm 4, .inr (4, [.ref (qa 4), .int (hp 4), .int (hv 4), .int (hf 4)])), aI E (qa 4) 9 (hm 4), (qm 5, .inr (4, [.ref (qa 5), .int (hp 5), .int (hv 5), .int (hf 5)])), aI E (qa 5) 9 (hm 5), (qm 6, .inr (4, [.ref (qa 6), .int (hp 6), .int (hv 6), .int (hf 6)])), aI E (qa 6) 9 (hm 6), (qm 7, .inr (4, [.ref (qa 7), .int (hp 7), .int (hv 7), .int (hf 7)])), aI E (qa 7) 9 (hm 7), (qm 8, .inr (4, [.ref (qa 8), .int (hp 8), .int (hv 8), .int (hf 8)])), aI E (qa 8) 9 (hm 8), (qm 9, .inr (4, [.ref (qa 9), .int (hp 9), .int (hv 9), .int (hf 9)])), aI E (qa 9) 9 (hm 9), (o, .inr (4, [.ref om, .int pl, .int vg, .int fp])), aI E om 9 ma]) (st' := []) (n' := 0) (z' := 0) (pc' := 13) rfl rfl rfl rfl rfl rfl ?_
    refine g_aload_n C dX2_remember_13 rfl ?_
    refine g_aload_n C dX2_remember_14 rfl ?_
    refine g_get C kwX2 0 rfl rfl 2 (by decide) kfX2_18 rfl dX2_remember_15 ?_
    refine g_iconst (v := 1) C dX2_remember_18 (by decide) ?_
    refine g_iadd C dX2_remember_19 ?_
    refine g_bipush (v := 10) C dX2_remember_20 (by decide) ?_
    refine g_irem C dX2_remember_22 (by decide) ?_
    refine g_topi (v := nI ((0 + 1) % 10)) (by decide) ?_
    refine g_put (ws' := [(h, .inr (2, [.ref pa, .int (nI kn), .int (nI ((0 + 1) % 10))])), aM E pa 10 pf, (qm 0, .inr (4, [.ref (qa 0), .int pl, .int vg, .int fp])), aI E (qa 0) 9 (va_cpy ma (hm 0) 0 0 9), (qm 1, .inr (4, [.ref (qa 1), .int (hp 1), .int (hv 1), .int (hf 1)])), aI E (qa 1) 9 (hm 1), (qm 2, .inr (4, [.ref (qa 2), .int (hp 2), .int (hv 2), .int (hf 2)])), aI E (qa 2) 9 (hm 2), (qm 3, .inr (4, [.ref (qa 3), .int (hp 3), .int (hv 3), .int (hf 3)])), aI E (qa 3) 9 (hm 3), (qm 4, .inr (4, [.ref (qa 4), .int (hp 4), .int (hv 4), .int (hf 4)])), aI E (qa 4) 9 (hm 4), (qm 5, .inr (4, [.ref (qa 5), .int (hp 5), .int (hv 5), .int (hf 5)])), aI E (qa 5) 9 (hm 5), (qm 6, .inr (4, [.ref (qa 6), .int (hp 6), .int (hv 6), .int (hf 6)])), aI E (qa 6) 9 (hm 6), (qm 7, .inr (4, [.ref (qa 7), .int (hp 7), .int (hv 7), .int (hf 7)])), aI E (qa 7) 9 (hm 7), (qm 8, .inr (4, [.ref (qa 8), .int (hp 8), .int (hv 8), .int (hf 8)])), aI E (qa 8) 9 (hm 8), (qm 9, .inr (4, [.ref (qa 9), .int (hp 9), .int (hv 9), .int (hf 9)])), aI E (qa 9) 9 (hm 9), (o, .inr (4, [.ref om, .int pl, .int vg, .int fp])), aI E om 9 ma]) C kwX2 tyX2 tyX2_ok nmX2 0 rfl rfl 2 (by decide) kfX2_18 rfl rfl rfl (Nat.le_of_ble_eq_true rfl) rfl dX2_remember_23 ?_
    refine g_aload_n C dX2_remember_26 rfl ?_
    refine g_bipush (v := 10) C dX2_remember_27 (by decide) ?_
    refine g_aload_n C dX2_remember_29 rfl ?_
    refine g_get C kwX2 0 rfl rfl 1 (by decide) kfX2_26 rfl dX2_remember_30 ?_
    refine g_iconst (v := 1) C dX2_remember_33 (by decide) ?_
    refine g_iadd C dX2_remember_34 ?_
    refine g_min C kmX2_29 (by decide) (Nat.le_of_ble_eq_true rfl) ⟨by decide, by decide⟩ dX2_remember_35 ?_
    refine g_topi (v := nI (if kn + 1 < 10 then kn + 1 else 10)) (min10 hkn) ?_
    refine g_put (ws' := [(h, .inr (2, [.ref pa, .int (nI (if kn + 1 < 10 then kn + 1 else 10)), .int (nI ((0 + 1) % 10))])), aM E pa 10 pf, (qm 0, .inr (4, [.ref (qa 0), .int pl, .int vg, .int fp])), aI E (qa 0) 9 (va_cpy ma (hm 0) 0 0 9), (qm 1, .inr (4, [.ref (qa 1), .int (hp 1), .int (hv 1), .int (hf 1)])), aI E (qa 1) 9 (hm 1), (qm 2, .inr (4, [.ref (qa 2), .int (hp 2), .int (hv 2), .int (hf 2)])), aI E (qa 2) 9 (hm 2), (qm 3, .inr (4, [.ref (qa 3), .int (hp 3), .int (hv 3), .int (hf 3)])), aI E (qa 3) 9 (hm 3), (qm 4, .inr (4, [.ref (qa 4), .int (hp 4), .int (hv 4), .int (hf 4)])), aI E (qa 4) 9 (hm 4), (qm 5, .inr (4, [.ref (qa 5), .int (hp 5), .int (hv 5), .int (hf 5)])), aI E (qa 5) 9 (hm 5), (qm 6, .inr (4, [.ref (qa 6), .int (hp 6), .int (hv 6), .int (hf 6)])), aI E (qa 6) 9 (hm 6), (qm 7, .inr (4, [.ref (qa 7), .int (hp 7), .int (hv 7), .int (hf 7)])), aI E (qa 7) 9 (hm 7), (qm 8, .inr (4, [.ref (qa 8), .int (hp 8), .int (hv 8), .int (hf 8)])), aI E (qa 8) 9 (hm 8), (qm 9, .inr (4, [.ref (qa 9), .int (hp 9), .int (hv 9), .int (hf 9)])), aI E (qa 9) 9 (hm 9), (o, .inr (4, [.ref om, .int pl, .int vg, .int fp])), aI E om 9 ma]) C kwX2 tyX2 tyX2_ok nmX2 0 rfl rfl 1 (by decide) kfX2_26 rfl rfl rfl (Nat.le_of_ble_eq_true rfl) rfl dX2_remember_38 ?_
    exact g_vret C hR (⟨rfl, rfl⟩) dX2_remember_41
  · skip
    show G k E 0 0 0 [some (.ref h), some (.ref o)] [] [(h, .inr (2, [.ref pa, .int (nI kn), .int (nI 1)])), aM E pa 10 pf, (qm 0, .inr (4, [.ref (qa 0), .int (hp 0), .int (hv 0), .int (hf 0)])), aI E (qa 0) 9 (hm 0), (qm 1, .inr (4, [.ref (qa 1), .int (hp 1), .int (hv 1), .int (hf 1)])), aI E (qa 1) 9 (hm 1), (qm 2, .inr (4, [.ref (qa 2), .int (hp 2), .int (hv 2), .int (hf 2)])), aI E (qa 2) 9 (hm 2), (qm 3, .inr (4, [.ref (qa 3), .int (hp 3), .int (hv 3), .int (hf 3)])), aI E (qa 3) 9 (hm 3), (qm 4, .inr (4, [.ref (qa 4), .int (hp 4), .int (hv 4), .int (hf 4)])), aI E (qa 4) 9 (hm 4), (qm 5, .inr (4, [.ref (qa 5), .int (hp 5), .int (hv 5), .int (hf 5)])), aI E (qa 5) 9 (hm 5), (qm 6, .inr (4, [.ref (qa 6), .int (hp 6), .int (hv 6), .int (hf 6)])), aI E (qa 6) 9 (hm 6), (qm 7, .inr (4, [.ref (qa 7), .int (hp 7), .int (hv 7), .int (hf 7)])), aI E (qa 7) 9 (hm 7), (qm 8, .inr (4, [.ref (qa 8), .int (hp 8), .int (hv 8), .int (hf 8)])), aI E (qa 8) 9 (hm 8), (qm 9, .inr (4, [.ref (qa 9), .int (hp 9), .int (hv 9), .int (hf 9)])), aI E (qa 9) 9 (hm 9), (o, .inr (4, [.ref om, .int pl, .int vg, .int fp])), aI E om 9 ma]
    refine g_aload_n C dX2_remember_0 rfl ?_
    refine g_get C kwX2 0 rfl rfl 0 (by decide) kfX2_11 rfl dX2_remember_1 ?_
    refine g_aload_n C dX2_remember_4 rfl ?_
    refine g_get C kwX2 0 rfl rfl 2 (by decide) kfX2_18 rfl dX2_remember_5 ?_
    refine g_aald (b := qm 1) C 1 1 rfl (rfl) (by decide) (by decide) (hpf 1 (by decide)) dX2_remember_8 ?_
    refine g_aload_n C dX2_remember_9 rfl ?_
    refine g_callV C (c_X4_copy k.l E (qm 1) (qa 1) (hp 1) (hv 1) (hf 1) (hm 1) o om pl vg fp ma) kmX2_22 kiX4_copy ksX4_copy knX4 kcX4_copy ⟨rfl, rfl⟩ ⟨rfl, kdX4_copy⟩ ⟨by decide, by decide⟩ ⟨by decide, by decide⟩ [4, 5, 22, 23] [0, 1, 2, 3, 6, 7, 8, 9, 10, 11, 12, 13, 14, 15, 16, 17, 18, 19, 20, 21] rfl (wr := [(h, .inr (2, [.ref pa, .int (nI kn), .int (nI 1)])), aM E pa 10 pf, (qm 0, .inr (4, [.ref (qa 0), .int (hp 0), .int (hv 0), .int (hf 0)])), aI E (qa 0) 9 (hm 0), (qm 2, .inr (4, [.ref (qa 2), .int (hp 2), .int (hv 2), .int (hf 2)])), aI E (qa 2) 9 (hm 2), (qm 3, .inr (4, [.ref (qa 3), .int (hp 3), .int (hv 3), .int (hf 3)])), aI E (qa 3) 9 (hm 3), (qm 4, .inr (4, [.ref (qa 4), .int (hp 4), .int (hv 4), .int (hf 4)])), aI E (qa 4) 9 (hm 4), (qm 5, .inr (4, [.ref (qa 5), .int (hp 5), .int (hv 5), .int (hf 5)])), aI E (qa 5) 9 (hm 5), (qm 6, .inr (4, [.ref (qa 6), .int (hp 6), .int (hv 6), .int (hf 6)])), aI E (qa 6) 9 (hm 6), (qm 7, .inr (4, [.ref (qa 7), .int (hp 7), .int (hv 7), .int (hf 7)])), aI E (qa 7) 9 (hm 7), (qm 8, .inr (4, [.ref (qa 8), .int (hp 8), .int (hv 8), .int (hf 8)])), aI E (qa 8) 9 (hm 8), (qm 9, .inr (4, [.ref (qa 9), .int (hp 9), .int (hv 9), .int (hf 9)])), aI E (qa 9) 9 (hm 9)]) rfl rfl rfl (by decide) 4 4 rfl rfl rfl (As := [.ref o]) (rest := []) rfl (Nat.le_of_ble_eq_true rfl) dX2_remember_10 (fun rv_ rw_ hp_ => ?_)
    obtain ⟨rfl, rfl⟩ := hp_
    refine g_rep [0, 1, 2, 3, 20, 21, 4, 5, 6, 7, 8, 9, 10, 11, 12, 13, 14, 15, 16, 17, 18, 19, 22, 23] (ws' := [(h, .inr (2, [.ref pa, .int (nI kn), .int (nI 1)])), aM E pa 10 pf, (qm 0, .inr (4, [.ref (qa 0), .int (hp 0), .int (hv 0), .int (hf 0)])), aI E (qa 0) 9 (hm 0), (qm 1, .inr (4, [.ref (qa 1), .int pl, .int vg, .int fp])), aI E (qa 1) 9 (va_cpy ma (hm 1) 0 0 9), (qm 2, .inr (4, [.ref (qa 2), .int (hp 2), .int (hv 2), .int (hf 2)])), aI E (qa 2) 9 (hm 2), (qm 3, .inr (4, [.ref (qa 3), .int (hp 3), .int (hv 3), .int (hf 3)])), aI E (qa 3) 9 (hm 3), (qm 4, .inr (4, [.ref (qa 4), .int (hp 4), .int (hv 4), .int (hf 4)])), aI E (qa 4) 9 (hm 4), (qm 5, .inr (4, [.ref (qa 5), .int (hp 5), .int (hv 5), .int (hf 5)])), aI E (qa 5) 9 (hm 5), (qm 6, .inr (4, [.ref (qa 6), .int (hp 6), .int (hv 6), .int (hf 6)])), aI E (qa 6) 9 (hm 6), (qm 7, .inr (4, [.ref (qa 7), .int (hp 7), .int (hv 7), .int (hf 7)])), aI E (qa 7) 9 (hm 7), (qm 8, .inr (4, [.ref (qa 8), .int (hp 8), .int (hv 8), .int (hf 8)])), aI E (qa 8) 9 (hm 8), (qm 9, .inr (4, [.ref (qa 9), .int (hp 9), .int (hv 9), .int (hf 9)])), aI E (qa 9) 9 (hm 9), (o, .inr (4, [.ref om, .int pl, .int vg, .int fp])), aI E om 9 ma]) (st' := []) (n' := 0) (z' := 0) (pc' := 13) rfl rfl rfl rfl rfl rfl ?_
    refine g_aload_n C dX2_remember_13 rfl ?_
    refine g_aload_n C dX2_remember_14 rfl ?_
    refine g_get C kwX2 0 rfl rfl 2 (by decide) kfX2_18 rfl dX2_remember_15 ?_
    refine g_iconst (v := 1) C dX2_remember_18 (by decide) ?_
    refine g_iadd C dX2_remember_19 ?_
    refine g_bipush (v := 10) C dX2_remember_20 (by decide) ?_
    refine g_irem C dX2_remember_22 (by decide) ?_
    refine g_topi (v := nI ((1 + 1) % 10)) (by decide) ?_
    refine g_put (ws' := [(h, .inr (2, [.ref pa, .int (nI kn), .int (nI ((1 + 1) % 10))])), aM E pa 10 pf, (qm 0, .inr (4, [.ref (qa 0), .int (hp 0), .int (hv 0), .int (hf 0)])), aI E (qa 0) 9 (hm 0), (qm 1, .inr (4, [.ref (qa 1), .int pl, .int vg, .int fp])), aI E (qa 1) 9 (va_cpy ma (hm 1) 0 0 9), (qm 2, .inr (4, [.ref (qa 2), .int (hp 2), .int (hv 2), .int (hf 2)])), aI E (qa 2) 9 (hm 2), (qm 3, .inr (4, [.ref (qa 3), .int (hp 3), .int (hv 3), .int (hf 3)])), aI E (qa 3) 9 (hm 3), (qm 4, .inr (4, [.ref (qa 4), .int (hp 4), .int (hv 4), .int (hf 4)])), aI E (qa 4) 9 (hm 4), (qm 5, .inr (4, [.ref (qa 5), .int (hp 5), .int (hv 5), .int (hf 5)])), aI E (qa 5) 9 (hm 5), (qm 6, .inr (4, [.ref (qa 6), .int (hp 6), .int (hv 6), .int (hf 6)])), aI E (qa 6) 9 (hm 6), (qm 7, .inr (4, [.ref (qa 7), .int (hp 7), .int (hv 7), .int (hf 7)])), aI E (qa 7) 9 (hm 7), (qm 8, .inr (4, [.ref (qa 8), .int (hp 8), .int (hv 8), .int (hf 8)])), aI E (qa 8) 9 (hm 8), (qm 9, .inr (4, [.ref (qa 9), .int (hp 9), .int (hv 9), .int (hf 9)])), aI E (qa 9) 9 (hm 9), (o, .inr (4, [.ref om, .int pl, .int vg, .int fp])), aI E om 9 ma]) C kwX2 tyX2 tyX2_ok nmX2 0 rfl rfl 2 (by decide) kfX2_18 rfl rfl rfl (Nat.le_of_ble_eq_true rfl) rfl dX2_remember_23 ?_
    refine g_aload_n C dX2_remember_26 rfl ?_
    refine g_bipush (v := 10) C dX2_remember_27 (by decide) ?_
    refine g_aload_n C dX2_remember_29 rfl ?_
    refine g_get C kwX2 0 rfl rfl 1 (by decide) kfX2_26 rfl dX2_remember_30 ?_
    refine g_iconst (v := 1) C dX2_remember_33 (by decide) ?_
    refine g_iadd C dX2_remember_34 ?_
    refine g_min C kmX2_29 (by decide) (Nat.le_of_ble_eq_true rfl) ⟨by decide, by decide⟩ dX2_remember_35 ?_
    refine g_topi (v := nI (if kn + 1 < 10 then kn + 1 else 10)) (min10 hkn) ?_
    refine g_put (ws' := [(h, .inr (2, [.ref pa, .int (nI (if kn + 1 < 10 then kn + 1 else 10)), .int (nI ((1 + 1) % 10))])), aM E pa 10 pf, (qm 0, .inr (4, [.ref (qa 0), .int (hp 0), .int (hv 0), .int (hf 0)])), aI E (qa 0) 9 (hm 0), (qm 1, .inr (4, [.ref (qa 1), .int pl, .int vg, .int fp])), aI E (qa 1) 9 (va_cpy ma (hm 1) 0 0 9), (qm 2, .inr (4, [.ref (qa 2), .int (hp 2), .int (hv 2), .int (hf 2)])), aI E (qa 2) 9 (hm 2), (qm 3, .inr (4, [.ref (qa 3), .int (hp 3), .int (hv 3), .int (hf 3)])), aI E (qa 3) 9 (hm 3), (qm 4, .inr (4, [.ref (qa 4), .int (hp 4), .int (hv 4), .int (hf 4)])), aI E (qa 4) 9 (hm 4), (qm 5, .inr (4, [.ref (qa 5), .int (hp 5), .int (hv 5), .int (hf 5)])), aI E (qa 5) 9 (hm 5), (qm 6, .inr (4, [.ref (qa 6), .int (hp 6), .int (hv 6), .int (hf 6)])), aI E (qa 6) 9 (hm 6), (qm 7, .inr (4, [.ref (qa 7), .int (hp 7), .int (hv 7), .int (hf 7)])), aI E (qa 7) 9 (hm 7), (qm 8, .inr (4, [.ref (qa 8), .int (hp 8), .int (hv 8), .int (hf 8)])), aI E (qa 8) 9 (hm 8), (qm 9, .inr (4, [.ref (qa 9), .int (hp 9), .int (hv 9), .int (hf 9)])), aI E (qa 9) 9 (hm 9), (o, .inr (4, [.ref om, .int pl, .int vg, .int fp])), aI E om 9 ma]) C kwX2 tyX2 tyX2_ok nmX2 0 rfl rfl 1 (by decide) kfX2_26 rfl rfl rfl (Nat.le_of_ble_eq_true rfl) rfl dX2_remember_38 ?_
    exact g_vret C hR (⟨rfl, rfl⟩) dX2_remember_41
  · skip
    show G k E 0 0 0 [some (.ref h), some (.ref o)] [] [(h, .inr (2, [.ref pa, .int (nI kn), .int (nI 2)])), aM E pa 10 pf, (qm 0, .inr (4, [.ref (qa 0), .int (hp 0), .int (hv 0), .int (hf 0)])), aI E (qa 0) 9 (hm 0), (qm 1, .inr (4, [.ref (qa 1), .int (hp 1), .int (hv 1), .int (hf 1)])), aI E (qa 1) 9 (hm 1), (qm 2, .inr (4, [.ref (qa 2), .int (hp 2), .int (hv 2), .int (hf 2)])), aI E (qa 2) 9 (hm 2), (qm 3, .inr (4, [.ref (qa 3), .int (hp 3), .int (hv 3), .int (hf 3)])), aI E (qa 3) 9 (hm 3), (qm 4, .inr (4, [.ref (qa 4), .int (hp 4), .int (hv 4), .int (hf 4)])), aI E (qa 4) 9 (hm 4), (qm 5, .inr (4, [.ref (qa 5), .int (hp 5), .int (hv 5), .int (hf 5)])), aI E (qa 5) 9 (hm 5), (qm 6, .inr (4, [.ref (qa 6), .int (hp 6), .int (hv 6), .int (hf 6)])), aI E (qa 6) 9 (hm 6), (qm 7, .inr (4, [.ref (qa 7), .int (hp 7), .int (hv 7), .int (hf 7)])), aI E (qa 7) 9 (hm 7), (qm 8, .inr (4, [.ref (qa 8), .int (hp 8), .int (hv 8), .int (hf 8)])), aI E (qa 8) 9 (hm 8), (qm 9, .inr (4, [.ref (qa 9), .int (hp 9), .int (hv 9), .int (hf 9)])), aI E (qa 9) 9 (hm 9), (o, .inr (4, [.ref om, .int pl, .int vg, .int fp])), aI E om 9 ma]
    refine g_aload_n C dX2_remember_0 rfl ?_
    refine g_get C kwX2 0 rfl rfl 0 (by decide) kfX2_11 rfl dX2_remember_1 ?_
    refine g_aload_n C dX2_remember_4 rfl ?_
    refine g_get C kwX2 0 rfl rfl 2 (by decide) kfX2_18 rfl dX2_remember_5 ?_
    refine g_aald (b := qm 2) C 1 2 rfl (rfl) (by decide) (by decide) (hpf 2 (by decide)) dX2_remember_8 ?_
    refine g_aload_n C dX2_remember_9 rfl ?_
    refine g_callV C (c_X4_copy k.l E (qm 2) (qa 2) (hp 2) (hv 2) (hf 2) (hm 2) o om pl vg fp ma) kmX2_22 kiX4_copy ksX4_copy knX4 kcX4_copy ⟨rfl, rfl⟩ ⟨rfl, kdX4_copy⟩ ⟨by decide, by decide⟩ ⟨by decide, by decide⟩ [6, 7, 22, 23] [0, 1, 2, 3, 4, 5, 8, 9, 10, 11, 12, 13, 14, 15, 16, 17, 18, 19, 20, 21] rfl (wr := [(h, .inr (2, [.ref pa, .int (nI kn), .int (nI 2)])), aM E pa 10 pf, (qm 0, .inr (4, [.ref (qa 0), .int (hp 0), .int (hv 0), .int (hf 0)])), aI E (qa 0) 9 (hm 0), (qm 1, .inr (4, [.ref (qa 1), .int (hp 1), .int (hv 1), .int (hf 1)])), aI E (qa 1) 9 (hm 1), (qm 3, .inr (4, [.ref (qa 3), .int (hp 3), .int (hv 3), .int (hf 3)])), aI E (qa 3) 9 (hm 3), (qm 4, .inr (4, [.ref (qa 4), .int (hp 4), .int (hv 4), .int (hf 4)])), aI E (qa 4) 9 (hm 4), (qm 5, .inr (4, [.ref (qa 5), .int (hp 5), .int (hv 5), .int (hf 5)])), aI E (qa 5) 9 (hm 5), (qm 6, .inr (4, [.ref (qa 6), .int (hp 6), .int (hv 6), .int (hf 6)])), aI E (qa 6) 9 (hm 6), (qm 7, .inr (4, [.ref (qa 7), .int (hp 7), .int (hv 7), .int (hf 7)])), aI E (qa 7) 9 (hm 7), (qm 8, .inr (4, [.ref (qa 8), .int (hp 8), .int (hv 8), .int (hf 8)])), aI E (qa 8) 9 (hm 8), (qm 9, .inr (4, [.ref (qa 9), .int (hp 9), .int (hv 9), .int (hf 9)])), aI E (qa 9) 9 (hm 9)]) rfl rfl rfl (by decide) 6 4 rfl rfl rfl (As := [.ref o]) (rest := []) rfl (Nat.le_of_ble_eq_true rfl) dX2_remember_10 (fun rv_ rw_ hp_ => ?_)
    obtain ⟨rfl, rfl⟩ := hp_
    refine g_rep [0, 1, 2, 3, 4, 5, 20, 21, 6, 7, 8, 9, 10, 11, 12, 13, 14, 15, 16, 17, 18, 19, 22, 23] (ws' := [(h, .inr (2, [.ref pa, .int (nI kn), .int (nI 2)])), aM E pa 10 pf, (qm 0, .inr (4, [.ref (qa 0), .int (hp 0), .int (hv 0), .int (hf 0)])), aI E (qa 0) 9 (hm 0), (qm 1, .inr (4, [.ref (qa 1), .int (hp 1), .int (hv 1), .int (hf 1)])), aI E (qa 1) 9 (hm 1), (qm 2, .inr (4, [.ref (qa 2), .int pl, .int vg, .int fp])), aI E (qa 2) 9 (va_cpy ma (hm 2) 0 0 9), (qm 3, .inr (4, [.ref (qa 3), .int (hp 3), .int (hv 3), .int (hf 3)])), aI E (qa 3) 9 (hm 3), (qm 4, .inr (4, [.ref (qa 4), .int (hp 4), .int (hv 4), .int (hf 4)])), aI E (qa 4) 9 (hm 4), (qm 5, .inr (4, [.ref (qa 5), .int (hp 5), .int (hv 5), .int (hf 5)])), aI E (qa 5) 9 (hm 5), (qm 6, .inr (4, [.ref (qa 6), .int (hp 6), .int (hv 6), .int (hf 6)])), aI E (qa 6) 9 (hm 6), (qm 7, .inr (4, [.ref (qa 7), .int (hp 7), .int (hv 7), .int (hf 7)])), aI E (qa 7) 9 (hm 7), (qm 8, .inr (4, [.ref (qa 8), .int (hp 8), .int (hv 8), .int (hf 8)])), aI E (qa 8) 9 (hm 8), (qm 9, .inr (4, [.ref (qa 9), .int (hp 9), .int (hv 9), .int (hf 9)])), aI E (qa 9) 9 (hm 9), (o, .inr (4, [.ref om, .int pl, .int vg, .int fp])), aI E om 9 ma]) (st' := []) (n' := 0) (z' := 0) (pc' := 13) rfl rfl rfl rfl rfl rfl ?_
    refine g_aload_n C dX2_remember_13 rfl ?_
    refine g_aload_n C dX2_remember_14 rfl ?_
    refine g_get C kwX2 0 rfl rfl 2 (by decide) kfX2_18 rfl dX2_remember_15 ?_
    refine g_iconst (v := 1) C dX2_remember_18 (by decide) ?_
    refine g_iadd C dX2_remember_19 ?_
    refine g_bipush (v := 10) C dX2_remember_20 (by decide) ?_
    refine g_irem C dX2_remember_22 (by decide) ?_
    refine g_topi (v := nI ((2 + 1) % 10)) (by decide) ?_
    refine g_put (ws' := [(h, .inr (2, [.ref pa, .int (nI kn), .int (nI ((2 + 1) % 10))])), aM E pa 10 pf, (qm 0, .inr (4, [.ref (qa 0), .int (hp 0), .int (hv 0), .int (hf 0)])), aI E (qa 0) 9 (hm 0), (qm 1, .inr (4, [.ref (qa 1), .int (hp 1), .int (hv 1), .int (hf 1)])), aI E (qa 1) 9 (hm 1), (qm 2, .inr (4, [.ref (qa 2), .int pl, .int vg, .int fp])), aI E (qa 2) 9 (va_cpy ma (hm 2) 0 0 9), (qm 3, .inr (4, [.ref (qa 3), .int (hp 3), .int (hv 3), .int (hf 3)])), aI E (qa 3) 9 (hm 3), (qm 4, .inr (4, [.ref (qa 4), .int (hp 4), .int (hv 4), .int (hf 4)])), aI E (qa 4) 9 (hm 4), (qm 5, .inr (4, [.ref (qa 5), .int (hp 5), .int (hv 5), .int (hf 5)])), aI E (qa 5) 9 (hm 5), (qm 6, .inr (4, [.ref (qa 6), .int (hp 6), .int (hv 6), .int (hf 6)])), aI E (qa 6) 9 (hm 6), (qm 7, .inr (4, [.ref (qa 7), .int (hp 7), .int (hv 7), .int (hf 7)])), aI E (qa 7) 9 (hm 7), (qm 8, .inr (4, [.ref (qa 8), .int (hp 8), .int (hv 8), .int (hf 8)])), aI E (qa 8) 9 (hm 8), (qm 9, .inr (4, [.ref (qa 9), .int (hp 9), .int (hv 9), .int (hf 9)])), aI E (qa 9) 9 (hm 9), (o, .inr (4, [.ref om, .int pl, .int vg, .int fp])), aI E om 9 ma]) C kwX2 tyX2 tyX2_ok nmX2 0 rfl rfl 2 (by decide) kfX2_18 rfl rfl rfl (Nat.le_of_ble_eq_true rfl) rfl dX2_remember_23 ?_
    refine g_aload_n C dX2_remember_26 rfl ?_
    refine g_bipush (v := 10) C dX2_remember_27 (by decide) ?_
    refine g_aload_n C dX2_remember_29 rfl ?_
    refine g_get C kwX2 0 rfl rfl 1 (by decide) kfX2_26 rfl dX2_remember_30 ?_
    refine g_iconst (v := 1) C dX2_remember_33 (by decide) ?_
    refine g_iadd C dX2_remember_34 ?_
    refine g_min C kmX2_29 (by decide) (Nat.le_of_ble_eq_true rfl) ⟨by decide, by decide⟩ dX2_remember_35 ?_
    refine g_topi (v := nI (if kn + 1 < 10 then kn + 1 else 10)) (min10 hkn) ?_
    refine g_put (ws' := [(h, .inr (2, [.ref pa, .int (nI (if kn + 1 < 10 then kn + 1 else 10)), .int (nI ((2 + 1) % 10))])), aM E pa 10 pf, (qm 0, .inr (4, [.ref (qa 0), .int (hp 0), .int (hv 0), .int (hf 0)])), aI E (qa 0) 9 (hm 0), (qm 1, .inr (4, [.ref (qa 1), .int (hp 1), .int (hv 1), .int (hf 1)])), aI E (qa 1) 9 (hm 1), (qm 2, .inr (4, [.ref (qa 2), .int pl, .int vg, .int fp])), aI E (qa 2) 9 (va_cpy ma (hm 2) 0 0 9), (qm 3, .inr (4, [.ref (qa 3), .int (hp 3), .int (hv 3), .int (hf 3)])), aI E (qa 3) 9 (hm 3), (qm 4, .inr (4, [.ref (qa 4), .int (hp 4), .int (hv 4), .int (hf 4)])), aI E (qa 4) 9 (hm 4), (qm 5, .inr (4, [.ref (qa 5), .int (hp 5), .int (hv 5), .int (hf 5)])), aI E (qa 5) 9 (hm 5), (qm 6, .inr (4, [.ref (qa 6), .int (hp 6), .int (hv 6), .int (hf 6)])), aI E (qa 6) 9 (hm 6), (qm 7, .inr (4, [.ref (qa 7), .int (hp 7), .int (hv 7), .int (hf 7)])), aI E (qa 7) 9 (hm 7), (qm 8, .inr (4, [.ref (qa 8), .int (hp 8), .int (hv 8), .int (hf 8)])), aI E (qa 8) 9 (hm 8), (qm 9, .inr (4, [.ref (qa 9), .int (hp 9), .int (hv 9), .int (hf 9)])), aI E (qa 9) 9 (hm 9), (o, .inr (4, [.ref om, .int pl, .int vg, .int fp])), aI E om 9 ma]) C kwX2 tyX2 tyX2_ok nmX2 0 rfl rfl 1 (by decide) kfX2_26 rfl rfl rfl (Nat.le_of_ble_eq_true rfl) rfl dX2_remember_38 ?_
    exact g_vret C hR (⟨rfl, rfl⟩) dX2_remember_41
  · skip
    show G k E 0 0 0 [some (.ref h), some (.ref o)] [] [(h, .inr (2, [.ref pa, .int (nI kn), .int (nI 3)])), aM E pa 10 pf, (qm 0, .inr (4, [.ref (qa 0), .int (hp 0), .int (hv 0), .int (hf 0)])), aI E (qa 0) 9 (hm 0), (qm 1, .inr (4, [.ref (qa 1), .int (hp 1), .int (hv 1), .int (hf 1)])), aI E (qa 1) 9 (hm 1), (qm 2, .inr (4, [.ref (qa 2), .int (hp 2), .int (hv 2), .int (hf 2)])), aI E (qa 2) 9 (hm 2), (qm 3, .inr (4, [.ref (qa 3), .int (hp 3), .int (hv 3), .int (hf 3)])), aI E (qa 3) 9 (hm 3), (qm 4, .inr (4, [.ref (qa 4), .int (hp 4), .int (hv 4), .int (hf 4)])), aI E (qa 4) 9 (hm 4), (qm 5, .inr (4, [.ref (qa 5), .int (hp 5), .int (hv 5), .int (hf 5)])), aI E (qa 5) 9 (hm 5), (qm 6, .inr (4, [.ref (qa 6), .int (hp 6), .int (hv 6), .int (hf 6)])), aI E (qa 6) 9 (hm 6), (qm 7, .inr (4, [.ref (qa 7), .int (hp 7), .int (hv 7), .int (hf 7)])), aI E (qa 7) 9 (hm 7), (qm 8, .inr (4, [.ref (qa 8), .int (hp 8), .int (hv 8), .int (hf 8)])), aI E (qa 8) 9 (hm 8), (qm 9, .inr (4, [.ref (qa 9), .int (hp 9), .int (hv 9), .int (hf 9)])), aI E (qa 9) 9 (hm 9), (o, .inr (4, [.ref om, .int pl, .int vg, .int fp])), aI E om 9 ma]
    refine g_aload_n C dX2_remember_0 rfl ?_
    refine g_get C kwX2 0 rfl rfl 0 (by decide) kfX2_11 rfl dX2_remember_1 ?_
    refine g_aload_n C dX2_remember_4 rfl ?_
    refine g_get C kwX2 0 rfl rfl 2 (by decide) kfX2_18 rfl dX2_remember_5 ?_
    refine g_aald (b := qm 3) C 1 3 rfl (rfl) (by decide) (by decide) (hpf 3 (by decide)) dX2_remember_8 ?_
    refine g_aload_n C dX2_remember_9 rfl ?_
    refine g_callV C (c_X4_copy k.l E (qm 3) (qa 3) (hp 3) (hv 3) (hf 3) (hm 3) o om pl vg fp ma) kmX2_22 kiX4_copy ksX4_copy knX4 kcX4_copy ⟨rfl, rfl⟩ ⟨rfl, kdX4_copy⟩ ⟨by decide, by decide⟩ ⟨by decide, by decide⟩ [8, 9, 22, 23] [0, 1, 2, 3, 4, 5, 6, 7, 10, 11, 12, 13, 14, 15, 16, 17, 18, 19, 20, 21] rfl (wr := [(h, .inr (2, [.ref pa, .int (nI kn), .int (nI 3)])), aM E pa 10 pf, (qm 0, .inr (4, [.ref (qa 0), .int (hp 0), .int (hv 0), .int (hf 0)])), aI E (qa 0) 9 (hm 0), (qm 1, .inr (4, [.ref (qa 1), .int (hp 1), .int (hv 1), .int (hf 1)])), aI E (qa 1) 9 (hm 1), (qm 2, .inr (4, [.ref (qa 2), .int (hp 2), .int (hv 2), .int (hf 2)])), aI E (qa 2) 9 (hm 2), (qm 4, .inr (4, [.ref (qa 4), .int (hp 4), .int (hv 4), .int (hf 4)])), aI E (qa 4) 9 (hm 4), (qm 5, .inr (4, [.ref (qa 5), .int (hp 5), .int (hv 5), .int (hf 5)])), aI E (qa 5) 9 (hm 5), (qm 6, .inr (4, [.ref (qa 6), .int (hp 6), .int (hv 6), .int (hf 6)])), aI E (qa 6) 9 (hm 6), (qm 7, .inr (4, [.ref (qa 7), .int (hp 7), .int (hv 7), .int (hf 7)])), aI E (qa 7) 9 (hm 7), (qm 8, .inr (4, [.ref (qa 8), .int (hp 8), .int (hv 8), .int (hf 8)])), aI E (qa 8) 9 (hm 8), (qm 9, .inr (4, [.ref (qa 9), .int (hp 9), .int (hv 9), .int (hf 9)])), aI E (qa 9) 9 (hm 9)]) rfl rfl rfl (by decide) 8 4 rfl rfl rfl (As := [.ref o]) (rest := []) rfl (Nat.le_of_ble_eq_true rfl) dX2_remember_10 (fun rv_ rw_ hp_ => ?_)
    obtain ⟨rfl, rfl⟩ := hp_
    refine g_rep [0, 1, 2, 3, 4, 5, 6, 7, 20, 21, 8, 9, 10, 11, 12, 13, 14, 15, 16, 17, 18, 19, 22, 23] (ws' := [(h, .inr (2, [.ref pa, .int (nI kn), .int (nI 3)])), aM E pa 10 pf, (qm 0, .inr (4, [.ref (qa 0), .int (hp 0), .int (hv 0), .int (hf 0)])), aI E (qa 0) 9 (hm 0), (qm 1, .inr (4, [.ref (qa 1), .int (hp 1), .int (hv 1), .int (hf 1)])), aI E (qa 1) 9 (hm 1), (qm 2, .inr (4, [.ref (qa 2), .int (hp 2), .int (hv 2), .int (hf 2)])), aI E (qa 2) 9 (hm 2), (qm 3, .inr (4, [.ref (qa 3), .int pl, .int vg, .int fp])), aI E (qa 3) 9 (va_cpy ma (hm 3) 0 0 9), (qm 4, .inr (4, [.ref (qa 4), .int (hp 4), .int (hv 4), .int (hf 4)])), aI E (qa 4) 9 (hm 4), (qm 5, .inr (4, [.ref (qa 5), .int (hp 5), .int (hv 5), .int (hf 5)])), aI E (qa 5) 9 (hm 5), (qm 6, .inr (4, [.ref (qa 6), .int (hp 6), .int (hv 6), .int (hf 6)])), aI E (qa 6) 9 (hm 6), (qm 7, .inr (4, [.ref (qa 7), .int (hp 7), .int (hv 7), .int (hf 7)])), aI E (qa 7) 9 (hm 7), (qm 8, .inr (4, [.ref (qa 8), .int (hp 8), .int (hv 8), .int (hf 8)])), aI E (qa 8) 9 (hm 8), (qm 9, .inr (4, [.ref (qa 9), .int (hp 9), .int (hv 9), .int (hf 9)])), aI E (qa 9) 9 (hm 9), (o, .inr (4, [.ref om, .int pl, .int vg, .int fp])), aI E om 9 ma]) (st' := []) (n' := 0) (z' := 0) (pc' := 13) rfl rfl rfl rfl rfl rfl ?_
    refine g_aload_n C dX2_remember_13 rfl ?_
    refine g_aload_n C dX2_remember_14 rfl ?_
    refine g_get C kwX2 0 rfl rfl 2 (by decide) kfX2_18 rfl dX2_remember_15 ?_
    refine g_iconst (v := 1) C dX2_remember_18 (by decide) ?_
    refine g_iadd C dX2_remember_19 ?_
    refine g_bipush (v := 10) C dX2_remember_20 (by decide) ?_
    refine g_irem C dX2_remember_22 (by decide) ?_
    refine g_topi (v := nI ((3 + 1) % 10)) (by decide) ?_
    refine g_put (ws' := [(h, .inr (2, [.ref pa, .int (nI kn), .int (nI ((3 + 1) % 10))])), aM E pa 10 pf, (qm 0, .inr (4, [.ref (qa 0), .int (hp 0), .int (hv 0), .int (hf 0)])), aI E (qa 0) 9 (hm 0), (qm 1, .inr (4, [.ref (qa 1), .int (hp 1), .int (hv 1), .int (hf 1)])), aI E (qa 1) 9 (hm 1), (qm 2, .inr (4, [.ref (qa 2), .int (hp 2), .int (hv 2), .int (hf 2)])), aI E (qa 2) 9 (hm 2), (qm 3, .inr (4, [.ref (qa 3), .int pl, .int vg, .int fp])), aI E (qa 3) 9 (va_cpy ma (hm 3) 0 0 9), (qm 4, .inr (4, [.ref (qa 4), .int (hp 4), .int (hv 4), .int (hf 4)])), aI E (qa 4) 9 (hm 4), (qm 5, .inr (4, [.ref (qa 5), .int (hp 5), .int (hv 5), .int (hf 5)])), aI E (qa 5) 9 (hm 5), (qm 6, .inr (4, [.ref (qa 6), .int (hp 6), .int (hv 6), .int (hf 6)])), aI E (qa 6) 9 (hm 6), (qm 7, .inr (4, [.ref (qa 7), .int (hp 7), .int (hv 7), .int (hf 7)])), aI E (qa 7) 9 (hm 7), (qm 8, .inr (4, [.ref (qa 8), .int (hp 8), .int (hv 8), .int (hf 8)])), aI E (qa 8) 9 (hm 8), (qm 9, .inr (4, [.ref (qa 9), .int (hp 9), .int (hv 9), .int (hf 9)])), aI E (qa 9) 9 (hm 9), (o, .inr (4, [.ref om, .int pl, .int vg, .int fp])), aI E om 9 ma]) C kwX2 tyX2 tyX2_ok nmX2 0 rfl rfl 2 (by decide) kfX2_18 rfl rfl rfl (Nat.le_of_ble_eq_true rfl) rfl dX2_remember_23 ?_
    refine g_aload_n C dX2_remember_26 rfl ?_
    refine g_bipush (v := 10) C dX2_remember_27 (by decide) ?_
    refine g_aload_n C dX2_remember_29 rfl ?_
    refine g_get C kwX2 0 rfl rfl 1 (by decide) kfX2_26 rfl dX2_remember_30 ?_
    refine g_iconst (v := 1) C dX2_remember_33 (by decide) ?_
    refine g_iadd C dX2_remember_34 ?_
    refine g_min C kmX2_29 (by decide) (Nat.le_of_ble_eq_true rfl) ⟨by decide, by decide⟩ dX2_remember_35 ?_
    refine g_topi (v := nI (if kn + 1 < 10 then kn + 1 else 10)) (min10 hkn) ?_
    refine g_put (ws' := [(h, .inr (2, [.ref pa, .int (nI (if kn + 1 < 10 then kn + 1 else 10)), .int (nI ((3 + 1) % 10))])), aM E pa 10 pf, (qm 0, .inr (4, [.ref (qa 0), .int (hp 0), .int (hv 0), .int (hf 0)])), aI E (qa 0) 9 (hm 0), (qm 1, .inr (4, [.ref (qa 1), .int (hp 1), .int (hv 1), .int (hf 1)])), aI E (qa 1) 9 (hm 1), (qm 2, .inr (4, [.ref (qa 2), .int (hp 2), .int (hv 2), .int (hf 2)])), aI E (qa 2) 9 (hm 2), (qm 3, .inr (4, [.ref (qa 3), .int pl, .int vg, .int fp])), aI E (qa 3) 9 (va_cpy ma (hm 3) 0 0 9), (qm 4, .inr (4, [.ref (qa 4), .int (hp 4), .int (hv 4), .int (hf 4)])), aI E (qa 4) 9 (hm 4), (qm 5, .inr (4, [.ref (qa 5), .int (hp 5), .int (hv 5), .int (hf 5)])), aI E (qa 5) 9 (hm 5), (qm 6, .inr (4, [.ref (qa 6), .int (hp 6), .int (hv 6), .int (hf 6)])), aI E (qa 6) 9 (hm 6), (qm 7, .inr (4, [.ref (qa 7), .int (hp 7), .int (hv 7), .int (hf 7)])), aI E (qa 7) 9 (hm 7), (qm 8, .inr (4, [.ref (qa 8), .int (hp 8), .int (hv 8), .int (hf 8)])), aI E (qa 8) 9 (hm 8), (qm 9, .inr (4, [.ref (qa 9), .int (hp 9), .int (hv 9), .int (hf 9)])), aI E (qa 9) 9 (hm 9), (o, .inr (4, [.ref om, .int pl, .int vg, .int fp])), aI E om 9 ma]) C kwX2 tyX2 tyX2_ok nmX2 0 rfl rfl 1 (by decide) kfX2_26 rfl rfl rfl (Nat.le_of_ble_eq_true rfl) rfl dX2_remember_38 ?_
    exact g_vret C hR (⟨rfl, rfl⟩) dX2_remember_41
  · skip
    show G k E 0 0 0 [some (.ref h), some (.ref o)] [] [(h, .inr (2, [.ref pa, .int (nI kn), .int (nI 4)])), aM E pa 10 pf, (qm 0, .inr (4, [.ref (qa 0), .int (hp 0), .int (hv 0), .int (hf 0)])), aI E (qa 0) 9 (hm 0), (qm 1, .inr (4, [.ref (qa 1), .int (hp 1), .int (hv 1), .int (hf 1)])), aI E (qa 1) 9 (hm 1), (qm 2, .inr (4, [.ref (qa 2), .int (hp 2), .int (hv 2), .int (hf 2)])), aI E (qa 2) 9 (hm 2), (qm 3, .inr (4, [.ref (qa 3), .int (hp 3), .int (hv 3), .int (hf 3)])), aI E (qa 3) 9 (hm 3), (qm 4, .inr (4, [.ref (qa 4), .int (hp 4), .int (hv 4), .int (hf 4)])), aI E (qa 4) 9 (hm 4), (qm 5, .inr (4, [.ref (qa 5), .int (hp 5), .int (hv 5), .int (hf 5)])), aI E (qa 5) 9 (hm 5), (qm 6, .inr (4, [.ref (qa 6), .int (hp 6), .int (hv 6), .int (hf 6)])), aI E (qa 6) 9 (hm 6), (qm 7, .inr (4, [.ref (qa 7), .int (hp 7), .int (hv 7), .int (hf 7)])), aI E (qa 7) 9 (hm 7), (qm 8, .inr (4, [.ref (qa 8), .int (hp 8), .int (hv 8), .int (hf 8)])), aI E (qa 8) 9 (hm 8), (qm 9, .inr (4, [.ref (qa 9), .int (hp 9), .int (hv 9), .int (hf 9)])), aI E (qa 9) 9 (hm 9), (o, .inr (4, [.ref om, .int pl, .int vg, .int fp])), aI E om 9 ma]
    refine g_aload_n C dX2_remember_0 rfl ?_
    refine g_get C kwX2 0 rfl rfl 0 (by decide) kfX2_11 rfl dX2_remember_1 ?_
    refine g_aload_n C dX2_remember_4 rfl ?_
    refine g_get C kwX2 0 rfl rfl 2 (by decide) kfX2_18 rfl dX2_remember_5 ?_
    refine g_aald (b := qm 4) C 1 4 rfl (rfl) (by decide) (by decide) (hpf 4 (by decide)) dX2_remember_8 ?_
    refine g_aload_n C dX2_remember_9 rfl ?_
    refine g_callV C (c_X4_copy k.l E (qm 4) (qa 4) (hp 4) (hv 4) (hf 4) (hm 4) o om pl vg fp ma) kmX2_22 kiX4_copy ksX4_copy knX4 kcX4_copy ⟨rfl, rfl⟩ ⟨rfl, kdX4_copy⟩ ⟨by decide, by decide⟩ ⟨by decide, by decide⟩ [10, 11, 22, 23] [0, 1, 2, 3, 4, 5, 6, 7, 8, 9, 12, 13, 14, 15, 16, 17, 18, 19, 20, 21] rfl (wr := [(h, .inr (2, [.ref pa, .int (nI kn), .int (nI 4)])), aM E pa 10 pf, (qm 0, .inr (4, [.ref (qa 0), .int (hp 0), .int (hv 0), .int (hf 0)])), aI E (qa 0) 9 (hm 0), (qm 1, .inr (4, [.ref (qa 1), .int (hp 1), .int (hv 1), .int (hf 1)])), aI E (qa 1) 9 (hm 1), (qm 2, .inr (4, [.ref (qa 2), .int (hp 2), .int (hv 2), .int (hf 2)])), aI E (qa 2) 9 (hm 2), (qm 3, .inr (4, [.ref (qa 3), .int (hp 3), .int (hv 3), .int (hf 3)])), aI E (qa 3) 9 (hm 3), (qm 5, .inr (4, [.ref (qa 5), .int (hp 5), .int (hv 5), .int (hf 5)])), aI E (qa 5) 9 (hm 5), (qm 6, .inr (4, [.ref (qa 6), .int (hp 6), .int (hv 6), .int (hf 6)])), aI E (qa 6) 9 (hm 6), (qm 7, .inr (4, [.ref (qa 7), .int (hp 7), .int (hv 7), .int (hf 7)])), aI E (qa 7) 9 (hm 7), (qm 8, .inr (4, [.ref (qa 8), .int (hp 8), .int (hv 8), .int (hf 8)])), aI E (qa 8) 9 (hm 8), (qm 9, .inr (4, [.ref (qa 9), .int (hp 9), .int (hv 9), .int (hf 9)])), aI E (qa 9) 9 (hm 9)]) rfl rfl rfl (by decide) 10 4 rfl rfl rfl (As := [.ref o]) (rest := []) rfl (Nat.le_of_ble_eq_true rfl) dX2_remember_10 (fun rv_ rw_ hp_ => ?_)
    obtain ⟨rfl, rfl⟩ := hp_
    refine g_rep [0, 1, 2, 3, 4, 5, 6, 7, 8, 9, 20, 21, 10, 11, 12, 13, 14, 15, 16, 17, 18, 19, 22, 23] (ws' := [(h, .inr (2, [.ref pa, .int (nI kn), .int (nI 4)])), aM E pa 10 pf, (qm 0, .inr (4, [.ref (qa 0), .int (hp 0), .int (hv 0), .int (hf 0)])), aI E (qa 0) 9 (hm 0), (qm 1, .inr (4, [.ref (qa 1), .int (hp 1), .int (hv 1), .int (hf 1)])), aI E (qa 1) 9 (hm 1), (qm 2, .inr (4, [.ref (qa 2), .int (hp 2), .int (hv 2), .int (hf 2)])), aI E (qa 2) 9 (hm 2), (qm 3, .inr (4, [.ref (qa 3), .int (hp 3), .int (hv 3), .int (hf 3)])), aI E (qa 3) 9 (hm 3), (qm 4, .inr (4, [.ref (qa 4), .int pl, .int vg, .int fp])), aI E (qa 4) 9 (va_cpy ma (hm 4) 0 0 9), (qm 5, .inr (4, [.ref (qa 5), .int (hp 5), .int (hv 5), .int (hf 5)])), aI E (qa 5) 9 (hm 5), (qm 6, .inr (4, [.ref (qa 6), .int (hp 6), .int (hv 6), .int (hf 6)])), aI E (qa 6) 9 (hm 6), (qm 7, .inr (4, [.ref (qa 7), .int (hp 7), .int (hv 7), .int (hf 7)])), aI E (qa 7) 9 (hm 7), (qm 8, .inr (4, [.ref (qa 8), .int (hp 8), .int (hv 8), .int (hf 8)])), aI E (qa 8) 9 (hm 8), (qm 9, .inr (4, [.ref (qa 9), .int (hp 9), .int (hv 9), .int (hf 9)])), aI E (qa 9) 9 (hm 9), (o, .inr (4, [.ref om, .int pl, .int vg, .int fp])), aI E om 9 ma]) (st' := []) (n' := 0) (z' := 0) (pc' := 13) rfl rfl rfl rfl rfl rfl ?_
    refine g_aload_n C dX2_remember_13 rfl ?_
    refine g_aload_n C dX2_remember_14 rfl ?_
    refine g_get C kwX2 0 rfl rfl 2 (by decide) kfX2_18 rfl dX2_remember_15 ?_
    refine g_iconst (v := 1) C dX2_remember_18 (by decide) ?_
    refine g_iadd C dX2_remember_19 ?_
    refine g_bipush (v := 10) C dX2_remember_20 (by decide) ?_
    refine g_irem C dX2_remember_22 (by decide) ?_
    refine g_topi (v := nI ((4 + 1) % 10)) (by decide) ?_
    refine g_put (ws' := [(h, .inr (2, [.ref pa, .int (nI kn), .int (nI ((4 + 1) % 10))])), aM E pa 10 pf, (qm 0, .inr (4, [.ref (qa 0), .int (hp 0), .int (hv 0), .int (hf 0)])), aI E (qa 0) 9 (hm 0), (qm 1, .inr (4, [.ref (qa 1), .int (hp 1), .int (hv 1), .int (hf 1)])), aI E (qa 1) 9 (hm 1), (qm 2, .inr (4, [.ref (qa 2), .int (hp 2), .int (hv 2), .int (hf 2)])), aI E (qa 2) 9 (hm 2), (qm 3, .inr (4, [.ref (qa 3), .int (hp 3), .int (hv 3), .int (hf 3)])), aI E (qa 3) 9 (hm 3), (qm 4, .inr (4, [.ref (qa 4), .int pl, .int vg, .int fp])), aI E (qa 4) 9 (va_cpy ma (hm 4) 0 0 9), (qm 5, .inr (4, [.ref (qa 5), .int (hp 5), .int (hv 5), .int (hf 5)])), aI E (qa 5) 9 (hm 5), (qm 6, .inr (4, [.ref (qa 6), .int (hp 6), .int (hv 6), .int (hf 6)])), aI E (qa 6) 9 (hm 6), (qm 7, .inr (4, [.ref (qa 7), .int (hp 7), .int (hv 7), .int (hf 7)])), aI E (qa 7) 9 (hm 7), (qm 8, .inr (4, [.ref (qa 8), .int (hp 8), .int (hv 8), .int (hf 8)])), aI E (qa 8) 9 (hm 8), (qm 9, .inr (4, [.ref (qa 9), .int (hp 9), .int (hv 9), .int (hf 9)])), aI E (qa 9) 9 (hm 9), (o, .inr (4, [.ref om, .int pl, .int vg, .int fp])), aI E om 9 ma]) C kwX2 tyX2 tyX2_ok nmX2 0 rfl rfl 2 (by decide) kfX2_18 rfl rfl rfl (Nat.le_of_ble_eq_true rfl) rfl dX2_remember_23 ?_
    refine g_aload_n C dX2_remember_26 rfl ?_
    refine g_bipush (v := 10) C dX2_remember_27 (by decide) ?_
    refine g_aload_n C dX2_remember_29 rfl ?_
    refine g_get C kwX2 0 rfl rfl 1 (by decide) kfX2_26 rfl dX2_remember_30 ?_
    refine g_iconst (v := 1) C dX2_remember_33 (by decide) ?_
    refine g_iadd C dX2_remember_34 ?_
    refine g_min C kmX2_29 (by decide) (Nat.le_of_ble_eq_true rfl) ⟨by decide, by decide⟩ dX2_remember_35 ?_
    refine g_topi (v := nI (if kn + 1 < 10 then kn + 1 else 10)) (min10 hkn) ?_
    refine g_put (ws' := [(h, .inr (2, [.ref pa, .int (nI (if kn + 1 < 10 then kn + 1 else 10)), .int (nI ((4 + 1) % 10))])), aM E pa 10 pf, (qm 0, .inr (4, [.ref (qa 0), .int (hp 0), .int (hv 0), .int (hf 0)])), aI E (qa 0) 9 (hm 0), (qm 1, .inr (4, [.ref (qa 1), .int (hp 1), .int (hv 1), .int (hf 1)])), aI E (qa 1) 9 (hm 1), (qm 2, .inr (4, [.ref (qa 2), .int (hp 2), .int (hv 2), .int (hf 2)])), aI E (qa 2) 9 (hm 2), (qm 3, .inr (4, [.ref (qa 3), .int (hp 3), .int (hv 3), .int (hf 3)])), aI E (qa 3) 9 (hm 3), (qm 4, .inr (4, [.ref (qa 4), .int pl, .int vg, .int fp])), aI E (qa 4) 9 (va_cpy ma (hm 4) 0 0 9), (qm 5, .inr (4, [.ref (qa 5), .int (hp 5), .int (hv 5), .int (hf 5)])), aI E (qa 5) 9 (hm 5), (qm 6, .inr (4, [.ref (qa 6), .int (hp 6), .int (hv 6), .int (hf 6)])), aI E (qa 6) 9 (hm 6), (qm 7, .inr (4, [.ref (qa 7), .int (hp 7), .int (hv 7), .int (hf 7)])), aI E (qa 7) 9 (hm 7), (qm 8, .inr (4, [.ref (qa 8), .int (hp 8), .int (hv 8), .int (hf 8)])), aI E (qa 8) 9 (hm 8), (qm 9, .inr (4, [.ref (qa 9), .int (hp 9), .int (hv 9), .int (hf 9)])), aI E (qa 9) 9 (hm 9), (o, .inr (4, [.ref om, .int pl, .int vg, .int fp])), aI E om 9 ma]) C kwX2 tyX2 tyX2_ok nmX2 0 rfl rfl 1 (by decide) kfX2_26 rfl rfl rfl (Nat.le_of_ble_eq_true rfl) rfl dX2_remember_38 ?_
    exact g_vret C hR (⟨rfl, rfl⟩) dX2_remember_41
  · skip
    show G k E 0 0 0 [some (.ref h), some (.ref o)] [] [(h, .inr (2, [.ref pa, .int (nI kn), .int (nI 5)])), aM E pa 10 pf, (qm 0, .inr (4, [.ref (qa 0), .int (hp 0), .int (hv 0), .int (hf 0)])), aI E (qa 0) 9 (hm 0), (qm 1, .inr (4, [.ref (qa 1), .int (hp 1), .int (hv 1), .int (hf 1)])), aI E (qa 1) 9 (hm 1), (qm 2, .inr (4, [.ref (qa 2), .int (hp 2), .int (hv 2), .int (hf 2)])), aI E (qa 2) 9 (hm 2), (qm 3, .inr (4, [.ref (qa 3), .int (hp 3), .int (hv 3), .int (hf 3)])), aI E (qa 3) 9 (hm 3), (qm 4, .inr (4, [.ref (qa 4), .int (hp 4), .int (hv 4), .int (hf 4)])), aI E (qa 4) 9 (hm 4), (qm 5, .inr (4, [.ref (qa 5), .int (hp 5), .int (hv 5), .int (hf 5)])), aI E (qa 5) 9 (hm 5), (qm 6, .inr (4, [.ref (qa 6), .int (hp 6), .int (hv 6), .int (hf 6)])), aI E (qa 6) 9 (hm 6), (qm 7, .inr (4, [.ref (qa 7), .int (hp 7), .int (hv 7), .int (hf 7)])), aI E (qa 7) 9 (hm 7), (qm 8, .inr (4, [.ref (qa 8), .int (hp 8), .int (hv 8), .int (hf 8)])), aI E (qa 8) 9 (hm 8), (qm 9, .inr (4, [.ref (qa 9), .int (hp 9), .int (hv 9), .int (hf 9)])), aI E (qa 9) 9 (hm 9), (o, .inr (4, [.ref om, .int pl, .int vg, .int fp])), aI E om 9 ma]
    refine g_aload_n C dX2_remember_0 rfl ?_
    refine g_get C kwX2 0 rfl rfl 0 (by decide) kfX2_11 rfl dX2_remember_1 ?_
    refine g_aload_n C dX2_remember_4 rfl ?_
    refine g_get C kwX2 0 rfl rfl 2 (by decide) kfX2_18 rfl dX2_remember_5 ?_
    refine g_aald (b := qm 5) C 1 5 rfl (rfl) (by decide) (by decide) (hpf 5 (by decide)) dX2_remember_8 ?_
    refine g_aload_n C dX2_remember_9 rfl ?_
    refine g_callV C (c_X4_copy k.l E (qm 5) (qa 5) (hp 5) (hv 5) (hf 5) (hm 5) o om pl vg fp ma) kmX2_22 kiX4_copy ksX4_copy knX4 kcX4_copy ⟨rfl, rfl⟩ ⟨rfl, kdX4_copy⟩ ⟨by decide, by decide⟩ ⟨by decide, by decide⟩ [12, 13, 22, 23] [0, 1, 2, 3, 4, 5, 6, 7, 8, 9, 10, 11, 14, 15, 16, 17, 18, 19, 20, 21] rfl (wr := [(h, .inr (2, [.ref pa, .int (nI kn), .int (nI 5)])), aM E pa 10 pf, (qm 0, .inr (4, [.ref (qa 0), .int (hp 0), .int (hv 0), .int (hf 0)])), aI E (qa 0) 9 (hm 0), (qm 1, .inr (4, [.ref (qa 1), .int (hp 1), .int (hv 1), .int (hf 1)])), aI E (qa 1) 9 (hm 1), (qm 2, .inr (4, [.ref (qa 2), .int (hp 2), .int (hv 2), .int (hf 2)])), aI E (qa 2) 9 (hm 2), (qm 3, .inr (4, [.ref (qa 3), .int (hp 3), .int (hv 3), .int (hf 3)])), aI E (qa 3) 9 (hm 3), (qm 4, .inr (4, [.ref (qa 4), .int (hp 4), .int (hv 4), .int (hf 4)])), aI E (qa 4) 9 (hm 4), (qm 6, .inr (4, [.ref (qa 6), .int (hp 6), .int (hv 6), .int (hf 6)])), aI E (qa 6) 9 (hm 6), (qm 7, .inr (4, [.ref (qa 7), .int (hp 7), .int (hv 7), .int (hf 7)])), aI E (qa 7) 9 (hm 7), (qm 8, .inr (4, [.ref (qa 8), .int (hp 8), .int (hv 8), .int (hf 8)])), aI E (qa 8) 9 (hm 8), (qm 9, .inr (4, [.ref (qa 9), .int (hp 9), .int (hv 9), .int (hf 9)])), aI E (qa 9) 9 (hm 9)]) rfl rfl rfl (by decide) 12 4 rfl rfl rfl (As := [.ref o]) (rest := []) rfl (Nat.le_of_ble_eq_true rfl) dX2_remember_10 (fun rv_ rw_ hp_ => ?_)
    obtain ⟨rfl, rfl⟩ := hp_
    refine g_rep [0, 1, 2, 3, 4, 5, 6, 7, 8, 9, 10, 11, 20, 21, 12, 13, 14, 15, 16, 17, 18, 19, 22, 23] (ws' := [(h, .inr (2, [.ref pa, .int (nI kn), .int (nI 5)])), aM E pa 10 pf, (qm 0, .inr (4, [.ref (qa 0), .int (hp 0), .int (hv 0), .int (hf 0)])), aI E (qa 0) 9 (hm 0), (qm 1, .inr (4, [.ref (qa 1), .int (hp 1), .int (hv 1), .int (hf 1)])), aI E (qa 1) 9 (hm 1), (qm 2, .inr (4, [.ref (qa 2), .int (hp 2), .int (hv 2), .int (hf 2)])), aI E (qa 2) 9 (hm 2), (qm 3, .inr (4, [.ref (qa 3), .int (hp 3), .int (hv 3), .int (hf 3)])), aI E (qa 3) 9 (hm 3), (qm 4, .inr (4, [.ref (qa 4), .int (hp 4), .int (hv 4), .int (hf 4)])), aI E (qa 4) 9 (hm 4), (qm 5, .inr (4, [.ref (qa 5), .int pl, .int vg, .int fp])), aI E (qa 5) 9 (va_cpy ma (hm 5) 0 0 9), (qm 6, .inr (4, [.ref (qa 6), .int (hp 6), .int (hv 6), .int (hf 6)])), aI E (qa 6) 9 (hm 6), (qm 7, .inr (4, [.ref (qa 7), .int (hp 7), .int (hv 7), .int (hf 7)])), aI E (qa 7) 9 (hm 7), (qm 8, .inr (4, [.ref (qa 8), .int (hp 8), .int (hv 8), .int (hf 8)])), aI E (qa 8) 9 (hm 8), (qm 9, .inr (4, [.ref (qa 9), .int (hp 9), .int (hv 9), .int (hf 9)])), aI E (qa 9) 9 (hm 9), (o, .inr (4, [.ref om, .int pl, .int vg, .int fp])), aI E om 9 ma]) (st' := []) (n' := 0) (z' := 0) (pc' := 13) rfl rfl rfl rfl rfl rfl ?_
    refine g_aload_n C dX2_remember_13 rfl ?_
    refine g_aload_n C dX2_remember_14 rfl ?_
    refine g_get C kwX2 0 rfl rfl 2 (by decide) kfX2_18 rfl dX2_remember_15 ?_
    refine g_iconst (v := 1) C dX2_remember_18 (by decide) ?_
    refine g_iadd C dX2_remember_19 ?_
    refine g_bipush (v := 10) C dX2_remember_20 (by decide) ?_
    refine g_irem C dX2_remember_22 (by decide) ?_
    refine g_topi (v := nI ((5 + 1) % 10)) (by decide) ?_
    refine g_put (ws' := [(h, .inr (2, [.ref pa, .int (nI kn), .int (nI ((5 + 1) % 10))])), aM E pa 10 pf, (qm 0, .inr (4, [.ref (qa 0), .int (hp 0), .int (hv 0), .int (hf 0)])), aI E (qa 0) 9 (hm 0), (qm 1, .inr (4, [.ref (qa 1), .int (hp 1), .int (hv 1), .int (hf 1)])), aI E (qa 1) 9 (hm 1), (qm 2, .inr (4, [.ref (qa 2), .int (hp 2), .int (hv 2), .int (hf 2)])), aI E (qa 2) 9 (hm 2), (qm 3, .inr (4, [.ref (qa 3), .int (hp 3), .int (hv 3), .int (hf 3)])), aI E (qa 3) 9 (hm 3), (qm 4, .inr (4, [.ref (qa 4), .int (hp 4), .int (hv 4), .int (hf 4)])), aI E (qa 4) 9 (hm 4), (qm 5, .inr (4, [.ref (qa 5), .int pl, .int vg, .int fp])), aI E (qa 5) 9 (va_cpy ma (hm 5) 0 0 9), (qm 6, .inr (4, [.ref (qa 6), .int (hp 6), .int (hv 6), .int (hf 6)])), aI E (qa 6) 9 (hm 6), (qm 7, .inr (4, [.ref (qa 7), .int (hp 7), .int (hv 7), .int (hf 7)])), aI E (qa 7) 9 (hm 7), (qm 8, .inr (4, [.ref (qa 8), .int (hp 8), .int (hv 8), .int (hf 8)])), aI E (qa 8) 9 (hm 8), (qm 9, .inr (4, [.ref (qa 9), .int (hp 9), .int (hv 9), .int (hf 9)])), aI E (qa 9) 9 (hm 9), (o, .inr (4, [.ref om, .int pl, .int vg, .int fp])), aI E om 9 ma]) C kwX2 tyX2 tyX2_ok nmX2 0 rfl rfl 2 (by decide) kfX2_18 rfl rfl rfl (Nat.le_of_ble_eq_true rfl) rfl dX2_remember_23 ?_
    refine g_aload_n C dX2_remember_26 rfl ?_
    refine g_bipush (v := 10) C dX2_remember_27 (by decide) ?_
    refine g_aload_n C dX2_remember_29 rfl ?_
    refine g_get C kwX2 0 rfl rfl 1 (by decide) kfX2_26 rfl dX2_remember_30 ?_
    refine g_iconst (v := 1) C dX2_remember_33 (by decide) ?_
    refine g_iadd C dX2_remember_34 ?_
    refine g_min C kmX2_29 (by decide) (Nat.le_of_ble_eq_true rfl) ⟨by decide, by decide⟩ dX2_remember_35 ?_
    refine g_topi (v := nI (if kn + 1 < 10 then kn + 1 else 10)) (min10 hkn) ?_
    refine g_put (ws' := [(h, .inr (2, [.ref pa, .int (nI (if kn + 1 < 10 then kn + 1 else 10)), .int (nI ((5 + 1) % 10))])), aM E pa 10 pf, (qm 0, .inr (4, [.ref (qa 0), .int (hp 0), .int (hv 0), .int (hf 0)])), aI E (qa 0) 9 (hm 0), (qm 1, .inr (4, [.ref (qa 1), .int (hp 1), .int (hv 1), .int (hf 1)])), aI E (qa 1) 9 (hm 1), (qm 2, .inr (4, [.ref (qa 2), .int (hp 2), .int (hv 2), .int (hf 2)])), aI E (qa 2) 9 (hm 2), (qm 3, .inr (4, [.ref (qa 3), .int (hp 3), .int (hv 3), .int (hf 3)])), aI E (qa 3) 9 (hm 3), (qm 4, .inr (4, [.ref (qa 4), .int (hp 4), .int (hv 4), .int (hf 4)])), aI E (qa 4) 9 (hm 4), (qm 5, .inr (4, [.ref (qa 5), .int pl, .int vg, .int fp])), aI E (qa 5) 9 (va_cpy ma (hm 5) 0 0 9), (qm 6, .inr (4, [.ref (qa 6), .int (hp 6), .int (hv 6), .int (hf 6)])), aI E (qa 6) 9 (hm 6), (qm 7, .inr (4, [.ref (qa 7), .int (hp 7), .int (hv 7), .int (hf 7)])), aI E (qa 7) 9 (hm 7), (qm 8, .inr (4, [.ref (qa 8), .int (hp 8), .int (hv 8), .int (hf 8)])), aI E (qa 8) 9 (hm 8), (qm 9, .inr (4, [.ref (qa 9), .int (hp 9), .int (hv 9), .int (hf 9)])), aI E (qa 9) 9 (hm 9), (o, .inr (4, [.ref om, .int pl, .int vg, .int fp])), aI E om 9 ma]) C kwX2 tyX2 tyX2_ok nmX2 0 rfl rfl 1 (by decide) kfX2_26 rfl rfl rfl (Nat.le_of_ble_eq_true rfl) rfl dX2_remember_38 ?_
    exact g_vret C hR (⟨rfl, rfl⟩) dX2_remember_41
  · skip
    show G k E 0 0 0 [some (.ref h), some (.ref o)] [] [(h, .inr (2, [.ref pa, .int (nI kn), .int (nI 6)])), aM E pa 10 pf, (qm 0, .inr (4, [.ref (qa 0), .int (hp 0), .int (hv 0), .int (hf 0)])), aI E (qa 0) 9 (hm 0), (qm 1, .inr (4, [.ref (qa 1), .int (hp 1), .int (hv 1), .int (hf 1)])), aI E (qa 1) 9 (hm 1), (qm 2, .inr (4, [.ref (qa 2), .int (hp 2), .int (hv 2), .int (hf 2)])), aI E (qa 2) 9 (hm 2), (qm 3, .inr (4, [.ref (qa 3), .int (hp 3), .int (hv 3), .int (hf 3)])), aI E (qa 3) 9 (hm 3), (qm 4, .inr (4, [.ref (qa 4), .int (hp 4), .int (hv 4), .int (hf 4)])), aI E (qa 4) 9 (hm 4), (qm 5, .inr (4, [.ref (qa 5), .int (hp 5), .int (hv 5), .int (hf 5)])), aI E (qa 5) 9 (hm 5), (qm 6, .inr (4, [.ref (qa 6), .int (hp 6), .int (hv 6), .int (hf 6)])), aI E (qa 6) 9 (hm 6), (qm 7, .inr (4, [.ref (qa 7), .int (hp 7), .int (hv 7), .int (hf 7)])), aI E (qa 7) 9 (hm 7), (qm 8, .inr (4, [.ref (qa 8), .int (hp 8), .int (hv 8), .int (hf 8)])), aI E (qa 8) 9 (hm 8), (qm 9, .inr (4, [.ref (qa 9), .int (hp 9), .int (hv 9), .int (hf 9)])), aI E (qa 9) 9 (hm 9), (o, .inr (4, [.ref om, .int pl, .int vg, .int fp])), aI E om 9 ma]
    refine g_aload_n C dX2_remember_0 rfl ?_
    refine g_get C kwX2 0 rfl rfl 0 (by decide) kfX2_11 rfl dX2_remember_1 ?_
    refine g_aload_n C dX2_remember_4 rfl ?_
    refine g_get C kwX2 0 rfl rfl 2 (by decide) kfX2_18 rfl dX2_remember_5 ?_
    refine g_aald (b := qm 6) C 1 6 rfl (rfl) (by decide) (by decide) (hpf 6 (by decide)) dX2_remember_8 ?_
    refine g_aload_n C dX2_remember_9 rfl ?_
    refine g_callV C (c_X4_copy k.l E (qm 6) (qa 6) (hp 6) (hv 6) (hf 6) (hm 6) o om pl vg fp ma) kmX2_22 kiX4_copy ksX4_copy knX4 kcX4_copy ⟨rfl, rfl⟩ ⟨rfl, kdX4_copy⟩ ⟨by decide, by decide⟩ ⟨by decide, by decide⟩ [14, 15, 22, 23] [0, 1, 2, 3, 4, 5, 6, 7, 8, 9, 10, 11, 12, 13, 16, 17, 18, 19, 20, 21] rfl (wr := [(h, .inr (2, [.ref pa, .int (nI kn), .int (nI 6)])), aM E pa 10 pf, (qm 0, .inr (4, [.ref (qa 0), .int (hp 0), .int (hv 0), .int (hf 0)])), aI E (qa 0) 9 (hm 0), (qm 1, .inr (4, [.ref (qa 1), .int (hp 1), .int (hv 1), .int (hf 1)])), aI E (qa 1) 9 (hm 1), (qm 2, .inr (4, [.ref (qa 2), .int (hp 2), .int (hv 2), .int (hf 2)])), aI E (qa 2) 9 (hm 2), (qm 3, .inr (4, [.ref (qa 3), .int (hp 3), .int (hv 3), .int (hf 3)])), aI E (qa 3) 9 (hm 3), (qm 4, .inr (4, [.ref (qa 4), .int (hp 4), .int (hv 4), .int (hf 4)])), aI E (qa 4) 9 (hm 4), (qm 5, .inr (4, [.ref (qa 5), .int (hp 5), .int (hv 5), .int (hf 5)])), aI E (qa 5) 9 (hm 5), (qm 7, .inr (4, [.ref (qa 7), .int (hp 7), .int (hv 7), .int (hf 7)])), aI E (qa 7) 9 (hm 7), (qm 8, .inr (4, [.ref (qa 8), .int (hp 8), .int (hv 8), .int (hf 8)])), aI E (qa 8) 9 (hm 8), (qm 9, .inr (4, [.ref (qa 9), .int (hp 9), .int (hv 9), .int (hf 9)])), aI E (qa 9) 9 (hm 9)]) rfl rfl rfl (by decide) 14 4 rfl rfl rfl (As := [.ref o]) (rest := []) rfl (Nat.le_of_ble_eq_true rfl) dX2_remember_10 (fun rv_ rw_ hp_ => ?_)
    obtain ⟨rfl, rfl⟩ := hp_
    refine g_rep [0, 1, 2, 3, 4, 5, 6, 7, 8, 9, 10, 11, 12, 13, 20, 21, 14, 15, 16, 17, 18, 19, 22, 23] (ws' := [(h, .inr (2, [.ref pa, .int (nI kn), .int (nI 6)])), aM E pa 10 pf, (qm 0, .inr (4, [.ref (qa 0), .int (hp 0), .int (hv 0), .int (hf 0)])), aI E (qa 0) 9 (hm 0), (qm 1, .inr (4, [.ref (qa 1), .int (hp 1), .int (hv 1), .int (hf 1)])), aI E (qa 1) 9 (hm 1), (qm 2, .inr (4, [.ref (qa 2), .int (hp 2), .int (hv 2), .int (hf 2)])), aI E (qa 2) 9 (hm 2), (qm 3, .inr (4, [.ref (qa 3), .int (hp 3), .int (hv 3), .int (hf 3)])), aI E (qa 3) 9 (hm 3), (qm 4, .inr (4, [.ref (qa 4), .int (hp 4), .int (hv 4), .int (hf 4)])), aI E (qa 4) 9 (hm 4), (qm 5, .inr (4, [.ref (qa 5), .int (hp 5), .int (hv 5), .int (hf 5)])), aI E (qa 5) 9 (hm 5), (qm 6, .inr (4, [.ref (qa 6), .int pl, .int vg, .int fp])), aI E (qa 6) 9 (va_cpy ma (hm 6) 0 0 9), (qm 7, .inr (4, [.ref (qa 7), .int (hp 7), .int (hv 7), .int (hf 7)])), aI E (qa 7) 9 (hm 7), (qm 8, .inr (4, [.ref (qa 8), .int (hp 8), .int (hv 8), .int (hf 8)])), aI E (qa 8) 9 (hm 8), (qm 9, .inr (4, [.ref (qa 9), .int (hp 9), .int (hv 9), .int (hf 9)])), aI E (qa 9) 9 (hm 9), (o, .inr (4, [.ref om, .int pl, .int vg, .int fp])), aI E om 9 ma]) (st' := []) (n' := 0) (z' := 0) (pc' := 13) rfl rfl rfl rfl rfl rfl ?_
    refine g_aload_n C dX2_remember_13 rfl ?_
    refine g_aload_n C dX2_remember_14 rfl ?_
    refine g_get C kwX2 0 rfl rfl 2 (by decide) kfX2_18 rfl dX2_remember_15 ?_
    refine g_iconst (v := 1) C dX2_remember_18 (by decide) ?_
    refine g_iadd C dX2_remember_19 ?_
    refine g_bipush (v := 10) C dX2_remember_20 (by decide) ?_
    refine g_irem C dX2_remember_22 (by decide) ?_
    refine g_topi (v := nI ((6 + 1) % 10)) (by decide) ?_
    refine g_put (ws' := [(h, .inr (2, [.ref pa, .int (nI kn), .int (nI ((6 + 1) % 10))])), aM E pa 10 pf, (qm 0, .inr (4, [.ref (qa 0), .int (hp 0), .int (hv 0), .int (hf 0)])), aI E (qa 0) 9 (hm 0), (qm 1, .inr (4, [.ref (qa 1), .int (hp 1), .int (hv 1), .int (hf 1)])), aI E (qa 1) 9 (hm 1), (qm 2, .inr (4, [.ref (qa 2), .int (hp 2), .int (hv 2), .int (hf 2)])), aI E (qa 2) 9 (hm 2), (qm 3, .inr (4, [.ref (qa 3), .int (hp 3), .int (hv 3), .int (hf 3)])), aI E (qa 3) 9 (hm 3), (qm 4, .inr (4, [.ref (qa 4), .int (hp 4), .int (hv 4), .int (hf 4)])), aI E (qa 4) 9 (hm 4), (qm 5, .inr (4, [.ref (qa 5), .int (hp 5), .int (hv 5), .int (hf 5)])), aI E (qa 5) 9 (hm 5), (qm 6, .inr (4, [.ref (qa 6), .int pl, .int vg, .int fp])), aI E (qa 6) 9 (va_cpy ma (hm 6) 0 0 9), (qm 7, .inr (4, [.ref (qa 7), .int (hp 7), .int (hv 7), .int (hf 7)])), aI E (qa 7) 9 (hm 7), (qm 8, .inr (4, [.ref (qa 8), .int (hp 8), .int (hv 8), .int (hf 8)])), aI E (qa 8) 9 (hm 8), (qm 9, .inr (4, [.ref (qa 9), .int (hp 9), .int (hv 9), .int (hf 9)])), aI E (qa 9) 9 (hm 9), (o, .inr (4, [.ref om, .int pl, .int vg, .int fp])), aI E om 9 ma]) C kwX2 tyX2 tyX2_ok nmX2 0 rfl rfl 2 (by decide) kfX2_18 rfl rfl rfl (Nat.le_of_ble_eq_true rfl) rfl dX2_remember_23 ?_
    refine g_aload_n C dX2_remember_26 rfl ?_
    refine g_bipush (v := 10) C dX2_remember_27 (by decide) ?_
    refine g_aload_n C dX2_remember_29 rfl ?_
    refine g_get C kwX2 0 rfl rfl 1 (by decide) kfX2_26 rfl dX2_remember_30 ?_
    refine g_iconst (v := 1) C dX2_remember_33 (by decide) ?_
    refine g_iadd C dX2_remember_34 ?_
    refine g_min C kmX2_29 (by decide) (Nat.le_of_ble_eq_true rfl) ⟨by decide, by decide⟩ dX2_remember_35 ?_
    refine g_topi (v := nI (if kn + 1 < 10 then kn + 1 else 10)) (min10 hkn) ?_
    refine g_put (ws' := [(h, .inr (2, [.ref pa, .int (nI (if kn + 1 < 10 then kn + 1 else 10)), .int (nI ((6 + 1) % 10))])), aM E pa 10 pf, (qm 0, .inr (4, [.ref (qa 0), .int (hp 0), .int (hv 0), .int (hf 0)])), aI E (qa 0) 9 (hm 0), (qm 1, .inr (4, [.ref (qa 1), .int (hp 1), .int (hv 1), .int (hf 1)])), aI E (qa 1) 9 (hm 1), (qm 2, .inr (4, [.ref (qa 2), .int (hp 2), .int (hv 2), .int (hf 2)])), aI E (qa 2) 9 (hm 2), (qm 3, .inr (4, [.ref (qa 3), .int (hp 3), .int (hv 3), .int (hf 3)])), aI E (qa 3) 9 (hm 3), (qm 4, .inr (4, [.ref (qa 4), .int (hp 4), .int (hv 4), .int (hf 4)])), aI E (qa 4) 9 (hm 4), (qm 5, .inr (4, [.ref (qa 5), .int (hp 5), .int (hv 5), .int (hf 5)])), aI E (qa 5) 9 (hm 5), (qm 6, .inr (4, [.ref (qa 6), .int pl, .int vg, .int fp])), aI E (qa 6) 9 (va_cpy ma (hm 6) 0 0 9), (qm 7, .inr (4, [.ref (qa 7), .int (hp 7), .int (hv 7), .int (hf 7)])), aI E (qa 7) 9 (hm 7), (qm 8, .inr (4, [.ref (qa 8), .int (hp 8), .int (hv 8), .int (hf 8)])), aI E (qa 8) 9 (hm 8), (qm 9, .inr (4, [.ref (qa 9), .int (hp 9), .int (hv 9), .int (hf 9)])), aI E (qa 9) 9 (hm 9), (o, .inr (4, [.ref om, .int pl, .int vg, .int fp])), aI E om 9 ma]) C kwX2 tyX2 tyX2_ok nmX2 0 rfl rfl 1 (by decide) kfX2_26 rfl rfl rfl (Nat.le_of_ble_eq_true rfl) rfl dX2_remember_38 ?_
    exact g_vret C hR (⟨rfl, rfl⟩) dX2_remember_41
  · skip
    show G k E 0 0 0 [some (.ref h), some (.ref o)] [] [(h, .inr (2, [.ref pa, .int (nI kn), .int (nI 7)])), aM E pa 10 pf, (qm 0, .inr (4, [.ref (qa 0), .int (hp 0), .int (hv 0), .int (hf 0)])), aI E (qa 0) 9 (hm 0), (qm 1, .inr (4, [.ref (qa 1), .int (hp 1), .int (hv 1), .int (hf 1)])), aI E (qa 1) 9 (hm 1), (qm 2, .inr (4, [.ref (qa 2), .int (hp 2), .int (hv 2), .int (hf 2)])), aI E (qa 2) 9 (hm 2), (qm 3, .inr (4, [.ref (qa 3), .int (hp 3), .int (hv 3), .int (hf 3)])), aI E (qa 3) 9 (hm 3), (qm 4, .inr (4, [.ref (qa 4), .int (hp 4), .int (hv 4), .int (hf 4)])), aI E (qa 4) 9 (hm 4), (qm 5, .inr (4, [.ref (qa 5), .int (hp 5), .int (hv 5), .int (hf 5)])), aI E (qa 5) 9 (hm 5), (qm 6, .inr (4, [.ref (qa 6), .int (hp 6), .int (hv 6), .int (hf 6)])), aI E (qa 6) 9 (hm 6), (qm 7, .inr (4, [.ref (qa 7), .int (hp 7), .int (hv 7), .int (hf 7)])), aI E (qa 7) 9 (hm 7), (qm 8, .inr (4, [.ref (qa 8), .int (hp 8), .int (hv 8), .int (hf 8)])), aI E (qa 8) 9 (hm 8), (qm 9, .inr (4, [.ref (qa 9), .int (hp 9), .int (hv 9), .int (hf 9)])), aI E (qa 9) 9 (hm 9), (o, .inr (4, [.ref om, .int pl, .int vg, .int fp])), aI E om 9 ma]
    refine g_aload_n C dX2_remember_0 rfl ?_
    refine g_get C kwX2 0 rfl rfl 0 (by decide) kfX2_11 rfl dX2_remember_1 ?_
    refine g_aload_n C dX2_remember_4 rfl ?_
    refine g_get C kwX2 0 rfl rfl 2 (by decide) kfX2_18 rfl dX2_remember_5 ?_
    refine g_aald (b := qm 7) C 1 7 rfl (rfl) (by decide) (by decide) (hpf 7 (by decide)) dX2_remember_8 ?_
    refine g_aload_n C dX2_remember_9 rfl ?_
    refine g_callV C (c_X4_copy k.l E (qm 7) (qa 7) (hp 7) (hv 7) (hf 7) (hm 7) o om pl vg fp ma) kmX2_22 kiX4_copy ksX4_copy knX4 kcX4_copy ⟨rfl, rfl⟩ ⟨rfl, kdX4_copy⟩ ⟨by decide, by decide⟩ ⟨by decide, by decide⟩ [16, 17, 22, 23] [0, 1, 2, 3, 4, 5, 6, 7, 8, 9, 10, 11, 12, 13, 14, 15, 18, 19, 20, 21] rfl (wr := [(h, .inr (2, [.ref pa, .int (nI kn), .int (nI 7)])), aM E pa 10 pf, (qm 0, .inr (4, [.ref (qa 0), .int (hp 0), .int (hv 0), .int (hf 0)])), aI E (qa 0) 9 (hm 0), (qm 1, .inr (4, [.ref (qa 1), .int (hp 1), .int (hv 1), .int (hf 1)])), aI E (qa 1) 9 (hm 1), (qm 2, .inr (4, [.ref (qa 2), .int (hp 2), .int (hv 2), .int (hf 2)])), aI E (qa 2) 9 (hm 2), (qm 3, .inr (4, [.ref (qa 3), .int (hp 3), .int (hv 3), .int (hf 3)])), aI E (qa 3) 9 (hm 3), (qm 4, .inr (4, [.ref (qa 4), .int (hp 4), .int (hv 4), .int (hf 4)])), aI E (qa 4) 9 (hm 4), (qm 5, .inr (4, [.ref (qa 5), .int (hp 5), .int (hv 5), .int (hf 5)])), aI E (qa 5) 9 (hm 5), (qm 6, .inr (4, [.ref (qa 6), .int (hp 6), .int (hv 6), .int (hf 6)])), aI E (qa 6) 9 (hm 6), (qm 8, .inr (4, [.ref (qa 8), .int (hp 8), .int (hv 8), .int (hf 8)])), aI E (qa 8) 9 (hm 8), (qm 9, .inr (4, [.ref (qa 9), .int (hp 9), .int (hv 9), .int (hf 9)])), aI E (qa 9) 9 (hm 9)]) rfl rfl rfl (by decide) 16 4 rfl rfl rfl (As := [.ref o]) (rest := []) rfl (Nat.le_of_ble_eq_true rfl) dX2_remember_10 (fun rv_ rw_ hp_ => ?_)
    obtain ⟨rfl, rfl⟩ := hp_
    refine g_rep [0, 1, 2, 3, 4, 5, 6, 7, 8, 9, 10, 11, 12, 13, 14, 15, 20, 21, 16, 17, 18, 19, 22, 23] (ws' := [(h, .inr (2, [.ref pa, .int (nI kn), .int (nI 7)])), aM E pa 10 pf, (qm 0, .inr (4, [.ref (qa 0), .int (hp 0), .int (hv 0), .int (hf 0)])), aI E (qa 0) 9 (hm 0), (qm 1, .inr (4, [.ref (qa 1), .int (hp 1), .int (hv 1), .int (hf 1)])), aI E (qa 1) 9 (hm 1), (qm 2, .inr (4, [.ref (qa 2), .int (hp 2), .int (hv 2), .int (hf 2)])), aI E (qa 2) 9 (hm 2), (qm 3, .inr (4, [.ref (qa 3), .int (hp 3), .int (hv 3), .int (hf 3)])), aI E (qa 3) 9 (hm 3), (qm 4, .inr (4, [.ref (qa 4), .int (hp 4), .int (hv 4), .int (hf 4)])), aI E (qa 4) 9 (hm 4), (qm 5, .inr (4, [.ref (qa 5), .int (hp 5), .int (hv 5), .int (hf 5)])), aI E (qa 5) 9 (hm 5), (qm 6, .inr (4, [.ref (qa 6), .int (hp 6), .int (hv 6), .int (hf 6)])), aI E (qa 6) 9 (hm 6), (qm 7, .inr (4, [.ref (qa 7), .int pl, .int vg, .int fp])), aI E (qa 7) 9 (va_cpy ma (hm 7) 0 0 9), (qm 8, .inr (4, [.ref (qa 8), .int (hp 8), .int (hv 8), .int (hf 8)])), aI E (qa 8) 9 (hm 8), (qm 9, .inr (4, [.ref (qa 9), .int (hp 9), .int (hv 9), .int (hf 9)])), aI E (qa 9) 9 (hm 9), (o, .inr (4, [.ref om, .int pl, .int vg, .int fp])), aI E om 9 ma]) (st' := []) (n' := 0) (z' := 0) (pc' := 13) rfl rfl rfl rfl rfl rfl ?_
    refine g_aload_n C dX2_remember_13 rfl ?_
    refine g_aload_n C dX2_remember_14 rfl ?_
    refine g_get C kwX2 0 rfl rfl 2 (by decide) kfX2_18 rfl dX2_remember_15 ?_
    refine g_iconst (v := 1) C dX2_remember_18 (by decide) ?_
    refine g_iadd C dX2_remember_19 ?_
    refine g_bipush (v := 10) C dX2_remember_20 (by decide) ?_
    refine g_irem C dX2_remember_22 (by decide) ?_
    refine g_topi (v := nI ((7 + 1) % 10)) (by decide) ?_
    refine g_put (ws' := [(h, .inr (2, [.ref pa, .int (nI kn), .int (nI ((7 + 1) % 10))])), aM E pa 10 pf, (qm 0, .inr (4, [.ref (qa 0), .int (hp 0), .int (hv 0), .int (hf 0)])), aI E (qa 0) 9 (hm 0), (qm 1, .inr (4, [.ref (qa 1), .int (hp 1), .int (hv 1), .int (hf 1)])), aI E (qa 1) 9 (hm 1), (qm 2, .inr (4, [.ref (qa 2), .int (hp 2), .int (hv 2), .int (hf 2)])), aI E (qa 2) 9 (hm 2), (qm 3, .inr (4, [.ref (qa 3), .int (hp 3), .int (hv 3), .int (hf 3)])), aI E (qa 3) 9 (hm 3), (qm 4, .inr (4, [.ref (qa 4), .int (hp 4), .int (hv 4), .int (hf 4)])), aI E (qa 4) 9 (hm 4), (qm 5, .inr (4, [.ref (qa 5), .int (hp 5), .int (hv 5), .int (hf 5)])), aI E (qa 5) 9 (hm 5), (qm 6, .inr (4, [.ref (qa 6), .int (hp 6), .int (hv 6), .int (hf 6)])), aI E (qa 6) 9 (hm 6), (qm 7, .inr (4, [.ref (qa 7), .int pl, .int vg, .int fp])), aI E (qa 7) 9 (va_cpy ma (hm 7) 0 0 9), (qm 8, .inr (4, [.ref (qa 8), .int (hp 8), .int (hv 8), .int (hf 8)])), aI E (qa 8) 9 (hm 8), (qm 9, .inr (4, [.ref (qa 9), .int (hp 9), .int (hv 9), .int (hf 9)])), aI E (qa 9) 9 (hm 9), (o, .inr (4, [.ref om, .int pl, .int vg, .int fp])), aI E om 9 ma]) C kwX2 tyX2 tyX2_ok nmX2 0 rfl rfl 2 (by decide) kfX2_18 rfl rfl rfl (Nat.le_of_ble_eq_true rfl) rfl dX2_remember_23 ?_
    refine g_aload_n C dX2_remember_26 rfl ?_
    refine g_bipush (v := 10) C dX2_remember_27 (by decide) ?_
    refine g_aload_n C dX2_remember_29 rfl ?_
    refine g_get C kwX2 0 rfl rfl 1 (by decide) kfX2_26 rfl dX2_remember_30 ?_
    refine g_iconst (v := 1) C dX2_remember_33 (by decide) ?_
    refine g_iadd C dX2_remember_34 ?_
    refine g_min C kmX2_29 (by decide) (Nat.le_of_ble_eq_true rfl) ⟨by decide, by decide⟩ dX2_remember_35 ?_
    refine g_topi (v := nI (if kn + 1 < 10 then kn + 1 else 10)) (min10 hkn) ?_
    refine g_put (ws' := [(h, .inr (2, [.ref pa, .int (nI (if kn + 1 < 10 then kn + 1 else 10)), .int (nI ((7 + 1) % 10))])), aM E pa 10 pf, (qm 0, .inr (4, [.ref (qa 0), .int (hp 0), .int (hv 0), .int (hf 0)])), aI E (qa 0) 9 (hm 0), (qm 1, .inr (4, [.ref (qa 1), .int (hp 1), .int (hv 1), .int (hf 1)])), aI E (qa 1) 9 (hm 1), (qm 2, .inr (4, [.ref (qa 2), .int (hp 2), .int (hv 2), .int (hf 2)])), aI E (qa 2) 9 (hm 2), (qm 3, .inr (4, [.ref (qa 3), .int (hp 3), .int (hv 3), .int (hf 3)])), aI E (qa 3) 9 (hm 3), (qm 4, .inr (4, [.ref (qa 4), .int (hp 4), .int (hv 4), .int (hf 4)])), aI E (qa 4) 9 (hm 4), (qm 5, .inr (4, [.ref (qa 5), .int (hp 5), .int (hv 5), .int (hf 5)])), aI E (qa 5) 9 (hm 5), (qm 6, .inr (4, [.ref (qa 6), .int (hp 6), .int (hv 6), .int (hf 6)])), aI E (qa 6) 9 (hm 6), (qm 7, .inr (4, [.ref (qa 7), .int pl, .int vg, .int fp])), aI E (qa 7) 9 (va_cpy ma (hm 7) 0 0 9), (qm 8, .inr (4, [.ref (qa 8), .int (hp 8), .int (hv 8), .int (hf 8)])), aI E (qa 8) 9 (hm 8), (qm 9, .inr (4, [.ref (qa 9), .int (hp 9), .int (hv 9), .int (hf 9)])), aI E (qa 9) 9 (hm 9), (o, .inr (4, [.ref om, .int pl, .int vg, .int fp])), aI E om 9 ma]) C kwX2 tyX2 tyX2_ok nmX2 0 rfl rfl 1 (by decide) kfX2_26 rfl rfl rfl (Nat.le_of_ble_eq_true rfl) rfl dX2_remember_38 ?_
    exact g_vret C hR (⟨rfl, rfl⟩) dX2_remember_41
  · skip
    show G k E 0 0 0 [some (.ref h), some (.ref o)] [] [(h, .inr (2, [.ref pa, .int (nI kn), .int (nI 8)])), aM E pa 10 pf, (qm 0, .inr (4, [.ref (qa 0), .int (hp 0), .int (hv 0), .int (hf 0)])), aI E (qa 0) 9 (hm 0), (qm 1, .inr (4, [.ref (qa 1), .int (hp 1), .int (hv 1), .int (hf 1)])), aI E (qa 1) 9 (hm 1), (qm 2, .inr (4, [.ref (qa 2), .int (hp 2), .int (hv 2), .int (hf 2)])), aI E (qa 2) 9 (hm 2), (qm 3, .inr (4, [.ref (qa 3), .int (hp 3), .int (hv 3), .int (hf 3)])), aI E (qa 3) 9 (hm 3), (qm 4, .inr (4, [.ref (qa 4), .int (hp 4), .int (hv 4), .int (hf 4)])), aI E (qa 4) 9 (hm 4), (qm 5, .inr (4, [.ref (qa 5), .int (hp 5), .int (hv 5), .int (hf 5)])), aI E (qa 5) 9 (hm 5), (qm 6, .inr (4, [.ref (qa 6), .int (hp 6), .int (hv 6), .int (hf 6)])), aI E (qa 6) 9 (hm 6), (qm 7, .inr (4, [.ref (qa 7), .int (hp 7), .int (hv 7), .int (hf 7)])), aI E (qa 7) 9 (hm 7), (qm 8, .inr (4, [.ref (qa 8), .int (hp 8), .int (hv 8), .int (hf 8)])), aI E (qa 8) 9 (hm 8), (qm 9, .inr (4, [.ref (qa 9), .int (hp 9), .int (hv 9), .int (hf 9)])), aI E (qa 9) 9 (hm 9), (o, .inr (4, [.ref om, .int pl, .int vg, .int fp])), aI E om 9 ma]
    refine g_aload_n C dX2_remember_0 rfl ?_
    refine g_get C kwX2 0 rfl rfl 0 (by decide) kfX2_11 rfl dX2_remember_1 ?_
    refine g_aload_n C dX2_remember_4 rfl ?_
    refine g_get C kwX2 0 rfl rfl 2 (by decide) kfX2_18 rfl dX2_remember_5 ?_
    refine g_aald (b := qm 8) C 1 8 rfl (rfl) (by decide) (by decide) (hpf 8 (by decide)) dX2_remember_8 ?_
    refine g_aload_n C dX2_remember_9 rfl ?_
    refine g_callV C (c_X4_copy k.l E (qm 8) (qa 8) (hp 8) (hv 8) (hf 8) (hm 8) o om pl vg fp ma) kmX2_22 kiX4_copy ksX4_copy knX4 kcX4_copy ⟨rfl, rfl⟩ ⟨rfl, kdX4_copy⟩ ⟨by decide, by decide⟩ ⟨by decide, by decide⟩ [18, 19, 22, 23] [0, 1, 2, 3, 4, 5, 6, 7, 8, 9, 10, 11, 12, 13, 14, 15, 16, 17, 20, 21] rfl (wr := [(h, .inr (2, [.ref pa, .int (nI kn), .int (nI 8)])), aM E pa 10 pf, (qm 0, .inr (4, [.ref (qa 0), .int (hp 0), .int (hv 0), .int (hf 0)])), aI E (qa 0) 9 (hm 0), (qm 1, .inr (4, [.ref (qa 1), .int (hp 1), .int (hv 1), .int (hf 1)])), aI E (qa 1) 9 (hm 1), (qm 2, .inr (4, [.ref (qa 2), .int (hp 2), .int (hv 2), .int (hf 2)])), aI E (qa 2) 9 (hm 2), (qm 3, .inr (4, [.ref (qa 3), .int (hp 3), .int (hv 3), .int (hf 3)])), aI E (qa 3) 9 (hm 3), (qm 4, .inr (4, [.ref (qa 4), .int (hp 4), .int (hv 4), .int (hf 4)])), aI E (qa 4) 9 (hm 4), (qm 5, .inr (4, [.ref (qa 5), .int (hp 5), .int (hv 5), .int (hf 5)])), aI E (qa 5) 9 (hm 5), (qm 6, .inr (4, [.ref (qa 6), .int (hp 6), .int (hv 6), .int (hf 6)])), aI E (qa 6) 9 (hm 6), (qm 7, .inr (4, [.ref (qa 7), .int (hp 7), .int (hv 7), .int (hf 7)])), aI E (qa 7) 9 (hm 7), (qm 9, .inr (4, [.ref (qa 9), .int (hp 9), .int (hv 9), .int (hf 9)])), aI E (qa 9) 9 (hm 9)]) rfl rfl rfl (by decide) 18 4 rfl rfl rfl (As := [.ref o]) (rest := []) rfl (Nat.le_of_ble_eq_true rfl) dX2_remember_10 (fun rv_ rw_ hp_ => ?_)
    obtain ⟨rfl, rfl⟩ := hp_
    refine g_rep [0, 1, 2, 3, 4, 5, 6, 7, 8, 9, 10, 11, 12, 13, 14, 15, 16, 17, 20, 21, 18, 19, 22, 23] (ws' := [(h, .inr (2, [.ref pa, .int (nI kn), .int (nI 8)])), aM E pa 10 pf, (qm 0, .inr (4, [.ref (qa 0), .int (hp 0), .int (hv 0), .int (hf 0)])), aI E (qa 0) 9 (hm 0), (qm 1, .inr (4, [.ref (qa 1), .int (hp 1), .int (hv 1), .int (hf 1)])), aI E (qa 1) 9 (hm 1), (qm 2, .inr (4, [.ref (qa 2), .int (hp 2), .int (hv 2), .int (hf 2)])), aI E (qa 2) 9 (hm 2), (qm 3, .inr (4, [.ref (qa 3), .int (hp 3), .int (hv 3), .int (hf 3)])), aI E (qa 3) 9 (hm 3), (qm 4, .inr (4, [.ref (qa 4), .int (hp 4), .int (hv 4), .int (hf 4)])), aI E (qa 4) 9 (hm 4), (qm 5, .inr (4, [.ref (qa 5), .int (hp 5), .int (hv 5), .int (hf 5)])), aI E (qa 5) 9 (hm 5), (qm 6, .inr (4, [.ref (qa 6), .int (hp 6), .int (hv 6), .int (hf 6)])), aI E (qa 6) 9 (hm 6), (qm 7, .inr (4, [.ref (qa 7), .int (hp 7), .int (hv 7), .int (hf 7)])), aI E (qa 7) 9 (hm 7), (qm 8, .inr (4, [.ref (qa 8), .int pl, .int vg, .int fp])), aI E (qa 8) 9 (va_cpy ma (hm 8) 0 0 9), (qm 9, .inr (4, [.ref (qa 9), .int (hp 9), .int (hv 9), .int (hf 9)])), aI E (qa 9) 9 (hm 9), (o, .inr (4, [.ref om, .int pl, .int vg, .int fp])), aI E om 9 ma]) (st' := []) (n' := 0) (z' := 0) (pc' := 13) rfl rfl rfl rfl rfl rfl ?_
    refine g_aload_n C dX2_remember_13 rfl ?_
    refine g_aload_n C dX2_remember_14 rfl ?_
    refine g_get C kwX2 0 rfl rfl 2 (by decide) kfX2_18 rfl dX2_remember_15 ?_
    refine g_iconst (v := 1) C dX2_remember_18 (by decide) ?_
    refine g_iadd C dX2_remember_19 ?_
    refine g_bipush (v := 10) C dX2_remember_20 (by decide) ?_
    refine g_irem C dX2_remember_22 (by decide) ?_
    refine g_topi (v := nI ((8 + 1) % 10)) (by decide) ?_
    refine g_put (ws' := [(h, .inr (2, [.ref pa, .int (nI kn), .int (nI ((8 + 1) % 10))])), aM E pa 10 pf, (qm 0, .inr (4, [.ref (qa 0), .int (hp 0), .int (hv 0), .int (hf 0)])), aI E (qa 0) 9 (hm 0), (qm 1, .inr (4, [.ref (qa 1), .int (hp 1), .int (hv 1), .int (hf 1)])), aI E (qa 1) 9 (hm 1), (qm 2, .inr (4, [.ref (qa 2), .int (hp 2), .int (hv 2), .int (hf 2)])), aI E (qa 2) 9 (hm 2), (qm 3, .inr (4, [.ref (qa 3), .int (hp 3), .int (hv 3), .int (hf 3)])), aI E (qa 3) 9 (hm 3), (qm 4, .inr (4, [.ref (qa 4), .int (hp 4), .int (hv 4), .int (hf 4)])), aI E (qa 4) 9 (hm 4), (qm 5, .inr (4, [.ref (qa 5), .int (hp 5), .int (hv 5), .int (hf 5)])), aI E (qa 5) 9 (hm 5), (qm 6, .inr (4, [.ref (qa 6), .int (hp 6), .int (hv 6), .int (hf 6)])), aI E (qa 6) 9 (hm 6), (qm 7, .inr (4, [.ref (qa 7), .int (hp 7), .int (hv 7), .int (hf 7)])), aI E (qa 7) 9 (hm 7), (qm 8, .inr (4, [.ref (qa 8), .int pl, .int vg, .int fp])), aI E (qa 8) 9 (va_cpy ma (hm 8) 0 0 9), (qm 9, .inr (4, [.ref (qa 9), .int (hp 9), .int (hv 9), .int (hf 9)])), aI E (qa 9) 9 (hm 9), (o, .inr (4, [.ref om, .int pl, .int vg, .int fp])), aI E om 9 ma]) C kwX2 tyX2 tyX2_ok nmX2 0 rfl rfl 2 (by decide) kfX2_18 rfl rfl rfl (Nat.le_of_ble_eq_true rfl) rfl dX2_remember_23 ?_
    refine g_aload_n C dX2_remember_26 rfl ?_
    refine g_bipush (v := 10) C dX2_remember_27 (by decide) ?_
    refine g_aload_n C dX2_remember_29 rfl ?_
    refine g_get C kwX2 0 rfl rfl 1 (by decide) kfX2_26 rfl dX2_remember_30 ?_
    refine g_iconst (v := 1) C dX2_remember_33 (by decide) ?_
    refine g_iadd C dX2_remember_34 ?_
    refine g_min C kmX2_29 (by decide) (Nat.le_of_ble_eq_true rfl) ⟨by decide, by decide⟩ dX2_remember_35 ?_
    refine g_topi (v := nI (if kn + 1 < 10 then kn + 1 else 10)) (min10 hkn) ?_
    refine g_put (ws' := [(h, .inr (2, [.ref pa, .int (nI (if kn + 1 < 10 then kn + 1 else 10)), .int (nI ((8 + 1) % 10))])), aM E pa 10 pf, (qm 0, .inr (4, [.ref (qa 0), .int (hp 0), .int (hv 0), .int (hf 0)])), aI E (qa 0) 9 (hm 0), (qm 1, .inr (4, [.ref (qa 1), .int (hp 1), .int (hv 1), .int (hf 1)])), aI E (qa 1) 9 (hm 1), (qm 2, .inr (4, [.ref (qa 2), .int (hp 2), .int (hv 2), .int (hf 2)])), aI E (qa 2) 9 (hm 2), (qm 3, .inr (4, [.ref (qa 3), .int (hp 3), .int (hv 3), .int (hf 3)])), aI E (qa 3) 9 (hm 3), (qm 4, .inr (4, [.ref (qa 4), .int (hp 4), .int (hv 4), .int (hf 4)])), aI E (qa 4) 9 (hm 4), (qm 5, .inr (4, [.ref (qa 5), .int (hp 5), .int (hv 5), .int (hf 5)])), aI E (qa 5) 9 (hm 5), (qm 6, .inr (4, [.ref (qa 6), .int (hp 6), .int (hv 6), .int (hf 6)])), aI E (qa 6) 9 (hm 6), (qm 7, .inr (4, [.ref (qa 7), .int (hp 7), .int (hv 7), .int (hf 7)])), aI E (qa 7) 9 (hm 7), (qm 8, .inr (4, [.ref (qa 8), .int pl, .int vg, .int fp])), aI E (qa 8) 9 (va_cpy ma (hm 8) 0 0 9), (qm 9, .inr (4, [.ref (qa 9), .int (hp 9), .int (hv 9), .int (hf 9)])), aI E (qa 9) 9 (hm 9), (o, .inr (4, [.ref om, .int pl, .int vg, .int fp])), aI E om 9 ma]) C kwX2 tyX2 tyX2_ok nmX2 0 rfl rfl 1 (by decide) kfX2_26 rfl rfl rfl (Nat.le_of_ble_eq_true rfl) rfl dX2_remember_38 ?_
    exact g_vret C hR (⟨rfl, rfl⟩) dX2_remember_41
  · skip
    show G k E 0 0 0 [some (.ref h), some (.ref o)] [] [(h, .inr (2, [.ref pa, .int (nI kn), .int (nI 9)])), aM E pa 10 pf, (qm 0, .inr (4, [.ref (qa 0), .int (hp 0), .int (hv 0), .int (hf 0)])), aI E (qa 0) 9 (hm 0), (qm 1, .inr (4, [.ref (qa 1), .int (hp 1), .int (hv 1), .int (hf 1)])), aI E (qa 1) 9 (hm 1), (qm 2, .inr (4, [.ref (qa 2), .int (hp 2), .int (hv 2), .int (hf 2)])), aI E (qa 2) 9 (hm 2), (qm 3, .inr (4, [.ref (qa 3), .int (hp 3), .int (hv 3), .int (hf 3)])), aI E (qa 3) 9 (hm 3), (qm 4, .inr (4, [.ref (qa 4), .int (hp 4), .int (hv 4), .int (hf 4)])), aI E (qa 4) 9 (hm 4), (qm 5, .inr (4, [.ref (qa 5), .int (hp 5), .int (hv 5), .int (hf 5)])), aI E (qa 5) 9 (hm 5), (qm 6, .inr (4, [.ref (qa 6), .int (hp 6), .int (hv 6), .int (hf 6)])), aI E (qa 6) 9 (hm 6), (qm 7, .inr (4, [.ref (qa 7), .int (hp 7), .int (hv 7), .int (hf 7)])), aI E (qa 7) 9 (hm 7), (qm 8, .inr (4, [.ref (qa 8), .int (hp 8), .int (hv 8), .int (hf 8)])), aI E (qa 8) 9 (hm 8), (qm 9, .inr (4, [.ref (qa 9), .int (hp 9), .int (hv 9), .int (hf 9)])), aI E (qa 9) 9 (hm 9), (o, .inr (4, [.ref om, .int pl, .int vg, .int fp])), aI E om 9 ma]
    refine g_aload_n C dX2_remember_0 rfl ?_
    refine g_get C kwX2 0 rfl rfl 0 (by decide) kfX2_11 rfl dX2_remember_1 ?_
    refine g_aload_n C dX2_remember_4 rfl ?_
    refine g_get C kwX2 0 rfl rfl 2 (by decide) kfX2_18 rfl dX2_remember_5 ?_
    refine g_aald (b := qm 9) C 1 9 rfl (rfl) (by decide) (by decide) (hpf 9 (by decide)) dX2_remember_8 ?_
    refine g_aload_n C dX2_remember_9 rfl ?_
    refine g_callV C (c_X4_copy k.l E (qm 9) (qa 9) (hp 9) (hv 9) (hf 9) (hm 9) o om pl vg fp ma) kmX2_22 kiX4_copy ksX4_copy knX4 kcX4_copy ⟨rfl, rfl⟩ ⟨rfl, kdX4_copy⟩ ⟨by decide, by decide⟩ ⟨by decide, by decide⟩ [20, 21, 22, 23] [0, 1, 2, 3, 4, 5, 6, 7, 8, 9, 10, 11, 12, 13, 14, 15, 16, 17, 18, 19] rfl (wr := [(h, .inr (2, [.ref pa, .int (nI kn), .int (nI 9)])), aM E pa 10 pf, (qm 0, .inr (4, [.ref (qa 0), .int (hp 0), .int (hv 0), .int (hf 0)])), aI E (qa 0) 9 (hm 0), (qm 1, .inr (4, [.ref (qa 1), .int (hp 1), .int (hv 1), .int (hf 1)])), aI E (qa 1) 9 (hm 1), (qm 2, .inr (4, [.ref (qa 2), .int (hp 2), .int (hv 2), .int (hf 2)])), aI E (qa 2) 9 (hm 2), (qm 3, .inr (4, [.ref (qa 3), .int (hp 3), .int (hv 3), .int (hf 3)])), aI E (qa 3) 9 (hm 3), (qm 4, .inr (4, [.ref (qa 4), .int (hp 4), .int (hv 4), .int (hf 4)])), aI E (qa 4) 9 (hm 4), (qm 5, .inr (4, [.ref (qa 5), .int (hp 5), .int (hv 5), .int (hf 5)])), aI E (qa 5) 9 (hm 5), (qm 6, .inr (4, [.ref (qa 6), .int (hp 6), .int (hv 6), .int (hf 6)])), aI E (qa 6) 9 (hm 6), (qm 7, .inr (4, [.ref (qa 7), .int (hp 7), .int (hv 7), .int (hf 7)])), aI E (qa 7) 9 (hm 7), (qm 8, .inr (4, [.ref (qa 8), .int (hp 8), .int (hv 8), .int (hf 8)])), aI E (qa 8) 9 (hm 8)]) rfl rfl rfl (by decide) 20 4 rfl rfl rfl (As := [.ref o]) (rest := []) rfl (Nat.le_of_ble_eq_true rfl) dX2_remember_10 (fun rv_ rw_ hp_ => ?_)
    obtain ⟨rfl, rfl⟩ := hp_
    refine g_rep [0, 1, 2, 3, 4, 5, 6, 7, 8, 9, 10, 11, 12, 13, 14, 15, 16, 17, 18, 19, 20, 21, 22, 23] (ws' := [(h, .inr (2, [.ref pa, .int (nI kn), .int (nI 9)])), aM E pa 10 pf, (qm 0, .inr (4, [.ref (qa 0), .int (hp 0), .int (hv 0), .int (hf 0)])), aI E (qa 0) 9 (hm 0), (qm 1, .inr (4, [.ref (qa 1), .int (hp 1), .int (hv 1), .int (hf 1)])), aI E (qa 1) 9 (hm 1), (qm 2, .inr (4, [.ref (qa 2), .int (hp 2), .int (hv 2), .int (hf 2)])), aI E (qa 2) 9 (hm 2), (qm 3, .inr (4, [.ref (qa 3), .int (hp 3), .int (hv 3), .int (hf 3)])), aI E (qa 3) 9 (hm 3), (qm 4, .inr (4, [.ref (qa 4), .int (hp 4), .int (hv 4), .int (hf 4)])), aI E (qa 4) 9 (hm 4), (qm 5, .inr (4, [.ref (qa 5), .int (hp 5), .int (hv 5), .int (hf 5)])), aI E (qa 5) 9 (hm 5), (qm 6, .inr (4, [.ref (qa 6), .int (hp 6), .int (hv 6), .int (hf 6)])), aI E (qa 6) 9 (hm 6), (qm 7, .inr (4, [.ref (qa 7), .int (hp 7), .int (hv 7), .int (hf 7)])), aI E (qa 7) 9 (hm 7), (qm 8, .inr (4, [.ref (qa 8), .int (hp 8), .int (hv 8), .int (hf 8)])), aI E (qa 8) 9 (hm 8), (qm 9, .inr (4, [.ref (qa 9), .int pl, .int vg, .int fp])), aI E (qa 9) 9 (va_cpy ma (hm 9) 0 0 9), (o, .inr (4, [.ref om, .int pl, .int vg, .int fp])), aI E om 9 ma]) (st' := []) (n' := 0) (z' := 0) (pc' := 13) rfl rfl rfl rfl rfl rfl ?_
    refine g_aload_n C dX2_remember_13 rfl ?_
    refine g_aload_n C dX2_remember_14 rfl ?_
    refine g_get C kwX2 0 rfl rfl 2 (by decide) kfX2_18 rfl dX2_remember_15 ?_
    refine g_iconst (v := 1) C dX2_remember_18 (by decide) ?_
    refine g_iadd C dX2_remember_19 ?_
    refine g_bipush (v := 10) C dX2_remember_20 (by decide) ?_
    refine g_irem C dX2_remember_22 (by decide) ?_
    refine g_topi (v := nI ((9 + 1) % 10)) (by decide) ?_
    refine g_put (ws' := [(h, .inr (2, [.ref pa, .int (nI kn), .int (nI ((9 + 1) % 10))])), aM E pa 10 pf, (qm 0, .inr (4, [.ref (qa 0), .int (hp 0), .int (hv 0), .int (hf 0)])), aI E (qa 0) 9 (hm 0), (qm 1, .inr (4, [.ref (qa 1), .int (hp 1), .int (hv 1), .int (hf 1)])), aI E (qa 1) 9 (hm 1), (qm 2, .inr (4, [.ref (qa 2), .int (hp 2), .int (hv 2), .int (hf 2)])), aI E (qa 2) 9 (hm 2), (qm 3, .inr (4, [.ref (qa 3), .int (hp 3), .int (hv 3), .int (hf 3)])), aI E (qa 3) 9 (hm 3), (qm 4, .inr (4, [.ref (qa 4), .int (hp 4), .int (hv 4), .int (hf 4)])), aI E (qa 4) 9 (hm 4), (qm 5, .inr (4, [.ref (qa 5), .int (hp 5), .int (hv 5), .int (hf 5)])), aI E (qa 5) 9 (hm 5), (qm 6, .inr (4, [.ref (qa 6), .int (hp 6), .int (hv 6), .int (hf 6)])), aI E (qa 6) 9 (hm 6), (qm 7, .inr (4, [.ref (qa 7), .int (hp 7), .int (hv 7), .int (hf 7)])), aI E (qa 7) 9 (hm 7), (qm 8, .inr (4, [.ref (qa 8), .int (hp 8), .int (hv 8), .int (hf 8)])), aI E (qa 8) 9 (hm 8), (qm 9, .inr (4, [.ref (qa 9), .int pl, .int vg, .int fp])), aI E (qa 9) 9 (va_cpy ma (hm 9) 0 0 9), (o, .inr (4, [.ref om, .int pl, .int vg, .int fp])), aI E om 9 ma]) C kwX2 tyX2 tyX2_ok nmX2 0 rfl rfl 2 (by decide) kfX2_18 rfl rfl rfl (Nat.le_of_ble_eq_true rfl) rfl dX2_remember_23 ?_
    refine g_aload_n C dX2_remember_26 rfl ?_
    refine g_bipush (v := 10) C dX2_remember_27 (by decide) ?_
    refine g_aload_n C dX2_remember_29 rfl ?_
    refine g_get C kwX2 0 rfl rfl 1 (by decide) kfX2_26 rfl dX2_remember_30 ?_
    refine g_iconst (v := 1) C dX2_remember_33 (by decide) ?_
    refine g_iadd C dX2_remember_34 ?_
    refine g_min C kmX2_29 (by decide) (Nat.le_of_ble_eq_true rfl) ⟨by decide, by decide⟩ dX2_remember_35 ?_
    refine g_topi (v := nI (if kn + 1 < 10 then kn + 1 else 10)) (min10 hkn) ?_
    refine g_put (ws' := [(h, .inr (2, [.ref pa, .int (nI (if kn + 1 < 10 then kn + 1 else 10)), .int (nI ((9 + 1) % 10))])), aM E pa 10 pf, (qm 0, .inr (4, [.ref (qa 0), .int (hp 0), .int (hv 0), .int (hf 0)])), aI E (qa 0) 9 (hm 0), (qm 1, .inr (4, [.ref (qa 1), .int (hp 1), .int (hv 1), .int (hf 1)])), aI E (qa 1) 9 (hm 1), (qm 2, .inr (4, [.ref (qa 2), .int (hp 2), .int (hv 2), .int (hf 2)])), aI E (qa 2) 9 (hm 2), (qm 3, .inr (4, [.ref (qa 3), .int (hp 3), .int (hv 3), .int (hf 3)])), aI E (qa 3) 9 (hm 3), (qm 4, .inr (4, [.ref (qa 4), .int (hp 4), .int (hv 4), .int (hf 4)])), aI E (qa 4) 9 (hm 4), (qm 5, .inr (4, [.ref (qa 5), .int (hp 5), .int (hv 5), .int (hf 5)])), aI E (qa 5) 9 (hm 5), (qm 6, .inr (4, [.ref (qa 6), .int (hp 6), .int (hv 6), .int (hf 6)])), aI E (qa 6) 9 (hm 6), (qm 7, .inr (4, [.ref (qa 7), .int (hp 7), .int (hv 7), .int (hf 7)])), aI E (qa 7) 9 (hm 7), (qm 8, .inr (4, [.ref (qa 8), .int (hp 8), .int (hv 8), .int (hf 8)])), aI E (qa 8) 9 (hm 8), (qm 9, .inr (4, [.ref (qa 9), .int pl, .int vg, .int fp])), aI E (qa 9) 9 (va_cpy ma (hm 9) 0 0 9), (o, .inr (4, [.ref om, .int pl, .int vg, .int fp])), aI E om 9 ma]) C kwX2 tyX2 tyX2_ok nmX2 0 rfl rfl 1 (by decide) kfX2_26 rfl rfl rfl (Nat.le_of_ble_eq_true rfl) rfl dX2_remember_38 ?_
    exact g_vret C hR (⟨rfl, rfl⟩) dX2_remember_41

set_option maxHeartbeats 4000000 in
set_option maxRecDepth 100000 in
/-- undone -/
theorem c_X2_restore (l : Launch) (E : EX) (h : Nat) (pa : Nat) (pf : Nat → Option Nat) (qm : Nat → Nat) (qa : Nat → Nat) (kn : Nat) (fr : Nat) (hp : Nat → Int32) (hv : Nat → Int32) (hf : Nat → Int32) (hm : Nat → Nat → Int32) (o : Nat) (om : Nat) (pl : Int32) (vg : Int32) (fp : Int32) (ma : Nat → Int32) (hpf : ∀ i, i < 10 → pf i = some (qm i)) (hfr : fr < 10) (hkn : kn ≤ 10) : Ct l E yX2_restore cX2_restore 2 (some .boolean) (rmL 2 0 0) [.ref h, .ref o] [(h, .inr (2, [.ref pa, .int (nI (kn + 1)), .int (nI fr)])), aM E pa 10 pf, (qm 0, .inr (4, [.ref (qa 0), .int (hp 0), .int (hv 0), .int (hf 0)])), aI E (qa 0) 9 (hm 0), (qm 1, .inr (4, [.ref (qa 1), .int (hp 1), .int (hv 1), .int (hf 1)])), aI E (qa 1) 9 (hm 1), (qm 2, .inr (4, [.ref (qa 2), .int (hp 2), .int (hv 2), .int (hf 2)])), aI E (qa 2) 9 (hm 2), (qm 3, .inr (4, [.ref (qa 3), .int (hp 3), .int (hv 3), .int (hf 3)])), aI E (qa 3) 9 (hm 3), (qm 4, .inr (4, [.ref (qa 4), .int (hp 4), .int (hv 4), .int (hf 4)])), aI E (qa 4) 9 (hm 4), (qm 5, .inr (4, [.ref (qa 5), .int (hp 5), .int (hv 5), .int (hf 5)])), aI E (qa 5) 9 (hm 5), (qm 6, .inr (4, [.ref (qa 6), .int (hp 6), .int (hv 6), .int (hf 6)])), aI E (qa 6) 9 (hm 6), (qm 7, .inr (4, [.ref (qa 7), .int (hp 7), .int (hv 7), .int (hf 7)])), aI E (qa 7) 9 (hm 7), (qm 8, .inr (4, [.ref (qa 8), .int (hp 8), .int (hv 8), .int (hf 8)])), aI E (qa 8) 9 (hm 8), (qm 9, .inr (4, [.ref (qa 9), .int (hp 9), .int (hv 9), .int (hf 9)])), aI E (qa 9) 9 (hm 9), (o, .inr (4, [.ref om, .int pl, .int vg, .int fp])), aI E om 9 ma] (fun (rv_ : Option Value) (rw_ : va_W) => rv_ = some (.int 1) ∧ rw_ = [(h, .inr (2, [.ref pa, .int (nI kn), .int (nI ((fr + 9) % 10))])), aM E pa 10 pf, (qm 0, .inr (4, [.ref (qa 0), .int (hp 0), .int (hv 0), .int (hf 0)])), aI E (qa 0) 9 (hm 0), (qm 1, .inr (4, [.ref (qa 1), .int (hp 1), .int (hv 1), .int (hf 1)])), aI E (qa 1) 9 (hm 1), (qm 2, .inr (4, [.ref (qa 2), .int (hp 2), .int (hv 2), .int (hf 2)])), aI E (qa 2) 9 (hm 2), (qm 3, .inr (4, [.ref (qa 3), .int (hp 3), .int (hv 3), .int (hf 3)])), aI E (qa 3) 9 (hm 3), (qm 4, .inr (4, [.ref (qa 4), .int (hp 4), .int (hv 4), .int (hf 4)])), aI E (qa 4) 9 (hm 4), (qm 5, .inr (4, [.ref (qa 5), .int (hp 5), .int (hv 5), .int (hf 5)])), aI E (qa 5) 9 (hm 5), (qm 6, .inr (4, [.ref (qa 6), .int (hp 6), .int (hv 6), .int (hf 6)])), aI E (qa 6) 9 (hm 6), (qm 7, .inr (4, [.ref (qa 7), .int (hp 7), .int (hv 7), .int (hf 7)])), aI E (qa 7) 9 (hm 7), (qm 8, .inr (4, [.ref (qa 8), .int (hp 8), .int (hv 8), .int (hf 8)])), aI E (qa 8) 9 (hm 8), (qm 9, .inr (4, [.ref (qa 9), .int (hp 9), .int (hv 9), .int (hf 9)])), aI E (qa 9) 9 (hm 9), (o, .inr (4, [.ref om, .int (hp ((fr + 9) % 10)), .int (hv ((fr + 9) % 10)), .int (hf ((fr + 9) % 10))])), aI E om 9 (va_cpy (hm ((fr + 9) % 10)) ma 0 0 9)]) 0 0 := by
  refine Ct_of (by decide) (Nat.le_of_ble_eq_true rfl) ?_
  intro k hkl hnl C hR hm_
  subst hkl
  have h10 : fr = 0 ∨ fr = 1 ∨ fr = 2 ∨ fr = 3 ∨ fr = 4 ∨ fr = 5 ∨ fr = 6 ∨ fr = 7 ∨ fr = 8 ∨ fr = 9 := by omega
  rcases h10 with rfl | rfl | rfl | rfl | rfl | rfl | rfl | rfl | rfl | rfl
  · skip
    show G k E 0 0 0 [some (.ref h), some (.ref o)] [] [(h, .inr (2, [.ref pa, .int (nI (kn + 1)), .int (nI 0)])), aM E pa 10 pf, (qm 0, .inr (4, [.ref (qa 0), .int (hp 0), .int (hv 0), .int (hf 0)])), aI E (qa 0) 9 (hm 0), (qm 1, .inr (4, [.ref (qa 1), .int (hp 1), .int (hv 1), .int (hf 1)])), aI E (qa 1) 9 (hm 1), (qm 2, .inr (4, [.ref (qa 2), .int (hp 2), .int (hv 2), .int (hf 2)])), aI E (qa 2) 9 (hm 2), (qm 3, .inr (4, [.ref (qa 3), .int (hp 3), .int (hv 3), .int (hf 3)])), aI E (qa 3) 9 (hm 3), (qm 4, .inr (4, [.ref (qa 4), .int (hp 4), .int (hv 4), .int (hf 4)])), aI E (qa 4) 9 (hm 4), (qm 5, .inr (4, [.ref (qa 5), .int (hp 5), .int (hv 5), .int (hf 5)])), aI E (qa 5) 9 (hm 5), (qm 6, .inr (4, [.ref (qa 6), .int (hp 6), .int (hv 6), .int (hf 6)])), aI E (qa 6) 9 (hm 6), (qm 7, .inr (4, [.ref (qa 7), .int (hp 7), .int (hv 7), .int (hf 7)])), aI E (qa 7) 9 (hm 7), (qm 8, .inr (4, [.ref (qa 8), .int (hp 8), .int (hv 8), .int (hf 8)])), aI E (qa 8) 9 (hm 8), (qm 9, .inr (4, [.ref (qa 9), .int (hp 9), .int (hv 9), .int (hf 9)])), aI E (qa 9) 9 (hm 9), (o, .inr (4, [.ref om, .int pl, .int vg, .int fp])), aI E om 9 ma]
    refine g_aload_n C dX2_restore_0 rfl ?_
    refine g_get C kwX2 0 rfl rfl 1 (by decide) kfX2_26 rfl dX2_restore_1 ?_
    refine g_if_ne (tgt := 9) C dX2_restore_4 (by decide) (fun c4 => ?_) (fun c4 => ?_)
    · skip
      refine g_aload_n C dX2_restore_9 rfl ?_
      refine g_aload_n C dX2_restore_10 rfl ?_
      refine g_get C kwX2 0 rfl rfl 2 (by decide) kfX2_18 rfl dX2_restore_11 ?_
      refine g_bipush (v := 10) C dX2_restore_14 (by decide) ?_
      refine g_iadd C dX2_restore_16 ?_
      refine g_iconst (v := 1) C dX2_restore_17 (by decide) ?_
      refine g_isub C dX2_restore_18 ?_
      refine g_bipush (v := 10) C dX2_restore_19 (by decide) ?_
      refine g_irem C dX2_restore_21 (by decide) ?_
      refine g_topi (v := nI ((0 + 9) % 10)) (by decide) ?_
      refine g_put (ws' := [(h, .inr (2, [.ref pa, .int (nI (kn + 1)), .int (nI ((0 + 9) % 10))])), aM E pa 10 pf, (qm 0, .inr (4, [.ref (qa 0), .int (hp 0), .int (hv 0), .int (hf 0)])), aI E (qa 0) 9 (hm 0), (qm 1, .inr (4, [.ref (qa 1), .int (hp 1), .int (hv 1), .int (hf 1)])), aI E (qa 1) 9 (hm 1), (qm 2, .inr (4, [.ref (qa 2), .int (hp 2), .int (hv 2), .int (hf 2)])), aI E (qa 2) 9 (hm 2), (qm 3, .inr (4, [.ref (qa 3), .int (hp 3), .int (hv 3), .int (hf 3)])), aI E (qa 3) 9 (hm 3), (qm 4, .inr (4, [.ref (qa 4), .int (hp 4), .int (hv 4), .int (hf 4)])), aI E (qa 4) 9 (hm 4), (qm 5, .inr (4, [.ref (qa 5), .int (hp 5), .int (hv 5), .int (hf 5)])), aI E (qa 5) 9 (hm 5), (qm 6, .inr (4, [.ref (qa 6), .int (hp 6), .int (hv 6), .int (hf 6)])), aI E (qa 6) 9 (hm 6), (qm 7, .inr (4, [.ref (qa 7), .int (hp 7), .int (hv 7), .int (hf 7)])), aI E (qa 7) 9 (hm 7), (qm 8, .inr (4, [.ref (qa 8), .int (hp 8), .int (hv 8), .int (hf 8)])), aI E (qa 8) 9 (hm 8), (qm 9, .inr (4, [.ref (qa 9), .int (hp 9), .int (hv 9), .int (hf 9)])), aI E (qa 9) 9 (hm 9), (o, .inr (4, [.ref om, .int pl, .int vg, .int fp])), aI E om 9 ma]) C kwX2 tyX2 tyX2_ok nmX2 0 rfl rfl 2 (by decide) kfX2_18 rfl rfl rfl (Nat.le_of_ble_eq_true rfl) rfl dX2_restore_22 ?_
      refine g_aload_n C dX2_restore_25 rfl ?_
      refine g_aload_n C dX2_restore_26 rfl ?_
      refine g_get C kwX2 0 rfl rfl 0 (by decide) kfX2_11 rfl dX2_restore_27 ?_
      refine g_aload_n C dX2_restore_30 rfl ?_
      refine g_get C kwX2 0 rfl rfl 2 (by decide) kfX2_18 rfl dX2_restore_31 ?_
      refine g_aald (b := qm 9) C 1 9 rfl (rfl) (by decide) (by decide) (hpf 9 (by decide)) dX2_restore_34 ?_
      refine g_callV C (c_X4_copy k.l E o om pl vg fp ma (qm 9) (qa 9) (hp 9) (hv 9) (hf 9) (hm 9)) kmX2_22 kiX4_copy ksX4_copy knX4 kcX4_copy ⟨rfl, rfl⟩ ⟨rfl, kdX4_copy⟩ ⟨by decide, by decide⟩ ⟨by decide, by decide⟩ [22, 23, 20, 21] [0, 1, 2, 3, 4, 5, 6, 7, 8, 9, 10, 11, 12, 13, 14, 15, 16, 17, 18, 19] rfl (wr := [(h, .inr (2, [.ref pa, .int (nI (kn + 1)), .int (nI ((0 + 9) % 10))])), aM E pa 10 pf, (qm 0, .inr (4, [.ref (qa 0), .int (hp 0), .int (hv 0), .int (hf 0)])), aI E (qa 0) 9 (hm 0), (qm 1, .inr (4, [.ref (qa 1), .int (hp 1), .int (hv 1), .int (hf 1)])), aI E (qa 1) 9 (hm 1), (qm 2, .inr (4, [.ref (qa 2), .int (hp 2), .int (hv 2), .int (hf 2)])), aI E (qa 2) 9 (hm 2), (qm 3, .inr (4, [.ref (qa 3), .int (hp 3), .int (hv 3), .int (hf 3)])), aI E (qa 3) 9 (hm 3), (qm 4, .inr (4, [.ref (qa 4), .int (hp 4), .int (hv 4), .int (hf 4)])), aI E (qa 4) 9 (hm 4), (qm 5, .inr (4, [.ref (qa 5), .int (hp 5), .int (hv 5), .int (hf 5)])), aI E (qa 5) 9 (hm 5), (qm 6, .inr (4, [.ref (qa 6), .int (hp 6), .int (hv 6), .int (hf 6)])), aI E (qa 6) 9 (hm 6), (qm 7, .inr (4, [.ref (qa 7), .int (hp 7), .int (hv 7), .int (hf 7)])), aI E (qa 7) 9 (hm 7), (qm 8, .inr (4, [.ref (qa 8), .int (hp 8), .int (hv 8), .int (hf 8)])), aI E (qa 8) 9 (hm 8)]) rfl rfl rfl (by decide) 22 4 rfl rfl rfl (As := [.ref (qm 9)]) (rest := []) rfl (Nat.le_of_ble_eq_true rfl) dX2_restore_35 (fun rv_ rw_ hp_ => ?_)
      obtain ⟨rfl, rfl⟩ := hp_
      refine g_rep [0, 1, 2, 3, 4, 5, 6, 7, 8, 9, 10, 11, 12, 13, 14, 15, 16, 17, 18, 19, 22, 23, 20, 21] (ws' := [(h, .inr (2, [.ref pa, .int (nI (kn + 1)), .int (nI ((0 + 9) % 10))])), aM E pa 10 pf, (qm 0, .inr (4, [.ref (qa 0), .int (hp 0), .int (hv 0), .int (hf 0)])), aI E (qa 0) 9 (hm 0), (qm 1, .inr (4, [.ref (qa 1), .int (hp 1), .int (hv 1), .int (hf 1)])), aI E (qa 1) 9 (hm 1), (qm 2, .inr (4, [.ref (qa 2), .int (hp 2), .int (hv 2), .int (hf 2)])), aI E (qa 2) 9 (hm 2), (qm 3, .inr (4, [.ref (qa 3), .int (hp 3), .int (hv 3), .int (hf 3)])), aI E (qa 3) 9 (hm 3), (qm 4, .inr (4, [.ref (qa 4), .int (hp 4), .int (hv 4), .int (hf 4)])), aI E (qa 4) 9 (hm 4), (qm 5, .inr (4, [.ref (qa 5), .int (hp 5), .int (hv 5), .int (hf 5)])), aI E (qa 5) 9 (hm 5), (qm 6, .inr (4, [.ref (qa 6), .int (hp 6), .int (hv 6), .int (hf 6)])), aI E (qa 6) 9 (hm 6), (qm 7, .inr (4, [.ref (qa 7), .int (hp 7), .int (hv 7), .int (hf 7)])), aI E (qa 7) 9 (hm 7), (qm 8, .inr (4, [.ref (qa 8), .int (hp 8), .int (hv 8), .int (hf 8)])), aI E (qa 8) 9 (hm 8), (qm 9, .inr (4, [.ref (qa 9), .int (hp 9), .int (hv 9), .int (hf 9)])), aI E (qa 9) 9 (hm 9), (o, .inr (4, [.ref om, .int (hp 9), .int (hv 9), .int (hf 9)])), aI E om 9 (va_cpy (hm 9) ma 0 0 9)]) (st' := []) (n' := 0) (z' := 0) (pc' := 38) rfl rfl rfl rfl rfl rfl ?_
      refine g_aload_n C dX2_restore_38 rfl ?_
      refine g_dup C dX2_restore_39 rfl ?_
      refine g_get C kwX2 0 rfl rfl 1 (by decide) kfX2_26 rfl dX2_restore_40 ?_
      refine g_iconst (v := 1) C dX2_restore_43 (by decide) ?_
      refine g_isub C dX2_restore_44 ?_
      refine g_topi (v := nI kn) (nx_pred kn) ?_
      refine g_put (ws' := [(h, .inr (2, [.ref pa, .int (nI kn), .int (nI ((0 + 9) % 10))])), aM E pa 10 pf, (qm 0, .inr (4, [.ref (qa 0), .int (hp 0), .int (hv 0), .int (hf 0)])), aI E (qa 0) 9 (hm 0), (qm 1, .inr (4, [.ref (qa 1), .int (hp 1), .int (hv 1), .int (hf 1)])), aI E (qa 1) 9 (hm 1), (qm 2, .inr (4, [.ref (qa 2), .int (hp 2), .int (hv 2), .int (hf 2)])), aI E (qa 2) 9 (hm 2), (qm 3, .inr (4, [.ref (qa 3), .int (hp 3), .int (hv 3), .int (hf 3)])), aI E (qa 3) 9 (hm 3), (qm 4, .inr (4, [.ref (qa 4), .int (hp 4), .int (hv 4), .int (hf 4)])), aI E (qa 4) 9 (hm 4), (qm 5, .inr (4, [.ref (qa 5), .int (hp 5), .int (hv 5), .int (hf 5)])), aI E (qa 5) 9 (hm 5), (qm 6, .inr (4, [.ref (qa 6), .int (hp 6), .int (hv 6), .int (hf 6)])), aI E (qa 6) 9 (hm 6), (qm 7, .inr (4, [.ref (qa 7), .int (hp 7), .int (hv 7), .int (hf 7)])), aI E (qa 7) 9 (hm 7), (qm 8, .inr (4, [.ref (qa 8), .int (hp 8), .int (hv 8), .int (hf 8)])), aI E (qa 8) 9 (hm 8), (qm 9, .inr (4, [.ref (qa 9), .int (hp 9), .int (hv 9), .int (hf 9)])), aI E (qa 9) 9 (hm 9), (o, .inr (4, [.ref om, .int (hp 9), .int (hv 9), .int (hf 9)])), aI E om 9 (va_cpy (hm 9) ma 0 0 9)]) C kwX2 tyX2 tyX2_ok nmX2 0 rfl rfl 1 (by decide) kfX2_26 rfl rfl rfl (Nat.le_of_ble_eq_true rfl) rfl dX2_restore_45 ?_
      refine g_iconst (v := 1) C dX2_restore_48 (by decide) ?_
      exact g_zret C hR (by first | exact Or.inl rfl | exact Or.inr rfl | exact bI01 _) (⟨rfl, rfl⟩) dX2_restore_49
    · skip
      exact absurd c4 (by rw [nI_succ]; exact nx_succ_ne (by omega))
  · skip
    show G k E 0 0 0 [some (.ref h), some (.ref o)] [] [(h, .inr (2, [.ref pa, .int (nI (kn + 1)), .int (nI 1)])), aM E pa 10 pf, (qm 0, .inr (4, [.ref (qa 0), .int (hp 0), .int (hv 0), .int (hf 0)])), aI E (qa 0) 9 (hm 0), (qm 1, .inr (4, [.ref (qa 1), .int (hp 1), .int (hv 1), .int (hf 1)])), aI E (qa 1) 9 (hm 1), (qm 2, .inr (4, [.ref (qa 2), .int (hp 2), .int (hv 2), .int (hf 2)])), aI E (qa 2) 9 (hm 2), (qm 3, .inr (4, [.ref (qa 3), .int (hp 3), .int (hv 3), .int (hf 3)])), aI E (qa 3) 9 (hm 3), (qm 4, .inr (4, [.ref (qa 4), .int (hp 4), .int (hv 4), .int (hf 4)])), aI E (qa 4) 9 (hm 4), (qm 5, .inr (4, [.ref (qa 5), .int (hp 5), .int (hv 5), .int (hf 5)])), aI E (qa 5) 9 (hm 5), (qm 6, .inr (4, [.ref (qa 6), .int (hp 6), .int (hv 6), .int (hf 6)])), aI E (qa 6) 9 (hm 6), (qm 7, .inr (4, [.ref (qa 7), .int (hp 7), .int (hv 7), .int (hf 7)])), aI E (qa 7) 9 (hm 7), (qm 8, .inr (4, [.ref (qa 8), .int (hp 8), .int (hv 8), .int (hf 8)])), aI E (qa 8) 9 (hm 8), (qm 9, .inr (4, [.ref (qa 9), .int (hp 9), .int (hv 9), .int (hf 9)])), aI E (qa 9) 9 (hm 9), (o, .inr (4, [.ref om, .int pl, .int vg, .int fp])), aI E om 9 ma]
    refine g_aload_n C dX2_restore_0 rfl ?_
    refine g_get C kwX2 0 rfl rfl 1 (by decide) kfX2_26 rfl dX2_restore_1 ?_
    refine g_if_ne (tgt := 9) C dX2_restore_4 (by decide) (fun c4 => ?_) (fun c4 => ?_)
    · skip
      refine g_aload_n C dX2_restore_9 rfl ?_
      refine g_aload_n C dX2_restore_10 rfl ?_
      refine g_get C kwX2 0 rfl rfl 2 (by decide) kfX2_18 rfl dX2_restore_11 ?_
      refine g_bipush (v := 10) C dX2_restore_14 (by decide) ?_
      refine g_iadd C dX2_restore_16 ?_
      refine g_iconst (v := 1) C dX2_restore_17 (by decide) ?_
      refine g_isub C dX2_restore_18 ?_
      refine g_bipush (v := 10) C dX2_restore_19 (by decide) ?_
      refine g_irem C dX2_restore_21 (by decide) ?_
      refine g_topi (v := nI ((1 + 9) % 10)) (by decide) ?_
      refine g_put (ws' := [(h, .inr (2, [.ref pa, .int (nI (kn + 1)), .int (nI ((1 + 9) % 10))])), aM E pa 10 pf, (qm 0, .inr (4, [.ref (qa 0), .int (hp 0), .int (hv 0), .int (hf 0)])), aI E (qa 0) 9 (hm 0), (qm 1, .inr (4, [.ref (qa 1), .int (hp 1), .int (hv 1), .int (hf 1)])), aI E (qa 1) 9 (hm 1), (qm 2, .inr (4, [.ref (qa 2), .int (hp 2), .int (hv 2), .int (hf 2)])), aI E (qa 2) 9 (hm 2), (qm 3, .inr (4, [.ref (qa 3), .int (hp 3), .int (hv 3), .int (hf 3)])), aI E (qa 3) 9 (hm 3), (qm 4, .inr (4, [.ref (qa 4), .int (hp 4), .int (hv 4), .int (hf 4)])), aI E (qa 4) 9 (hm 4), (qm 5, .inr (4, [.ref (qa 5), .int (hp 5), .int (hv 5), .int (hf 5)])), aI E (qa 5) 9 (hm 5), (qm 6, .inr (4, [.ref (qa 6), .int (hp 6), .int (hv 6), .int (hf 6)])), aI E (qa 6) 9 (hm 6), (qm 7, .inr (4, [.ref (qa 7), .int (hp 7), .int (hv 7), .int (hf 7)])), aI E (qa 7) 9 (hm 7), (qm 8, .inr (4, [.ref (qa 8), .int (hp 8), .int (hv 8), .int (hf 8)])), aI E (qa 8) 9 (hm 8), (qm 9, .inr (4, [.ref (qa 9), .int (hp 9), .int (hv 9), .int (hf 9)])), aI E (qa 9) 9 (hm 9), (o, .inr (4, [.ref om, .int pl, .int vg, .int fp])), aI E om 9 ma]) C kwX2 tyX2 tyX2_ok nmX2 0 rfl rfl 2 (by decide) kfX2_18 rfl rfl rfl (Nat.le_of_ble_eq_true rfl) rfl dX2_restore_22 ?_
      refine g_aload_n C dX2_restore_25 rfl ?_
      refine g_aload_n C dX2_restore_26 rfl ?_
      refine g_get C kwX2 0 rfl rfl 0 (by decide) kfX2_11 rfl dX2_restore_27 ?_
      refine g_aload_n C dX2_restore_30 rfl ?_
      refine g_get C kwX2 0 rfl rfl 2 (by decide) kfX2_18 rfl dX2_restore_31 ?_
      refine g_aald (b := qm 0) C 1 0 rfl (rfl) (by decide) (by decide) (hpf 0 (by decide)) dX2_restore_34 ?_
      refine g_callV C (c_X4_copy k.l E o om pl vg fp ma (qm 0) (qa 0) (hp 0) (hv 0) (hf 0) (hm 0)) kmX2_22 kiX4_copy ksX4_copy knX4 kcX4_copy ⟨rfl, rfl⟩ ⟨rfl, kdX4_copy⟩ ⟨by decide, by decide⟩ ⟨by decide, by decide⟩ [22, 23, 2, 3] [0, 1, 4, 5, 6, 7, 8, 9, 10, 11, 12, 13, 14, 15, 16, 17, 18, 19, 20, 21] rfl (wr := [(h, .inr (2, [.ref pa, .int (nI (kn + 1)), .int (nI ((1 + 9) % 10))])), aM E pa 10 pf, (qm 1, .inr (4, [.ref (qa 1), .int (hp 1), .int (hv 1), .int (hf 1)])), aI E (qa 1) 9 (hm 1), (qm 2, .inr (4, [.ref (qa 2), .int (hp 2), .int (hv 2), .int (hf 2)])), aI E (qa 2) 9 (hm 2), (qm 3, .inr (4, [.ref (qa 3), .int (hp 3), .int (hv 3), .int (hf 3)])), aI E (qa 3) 9 (hm 3), (qm 4, .inr (4, [.ref (qa 4), .int (hp 4), .int (hv 4), .int (hf 4)])), aI E (qa 4) 9 (hm 4), (qm 5, .inr (4, [.ref (qa 5), .int (hp 5), .int (hv 5), .int (hf 5)])), aI E (qa 5) 9 (hm 5), (qm 6, .inr (4, [.ref (qa 6), .int (hp 6), .int (hv 6), .int (hf 6)])), aI E (qa 6) 9 (hm 6), (qm 7, .inr (4, [.ref (qa 7), .int (hp 7), .int (hv 7), .int (hf 7)])), aI E (qa 7) 9 (hm 7), (qm 8, .inr (4, [.ref (qa 8), .int (hp 8), .int (hv 8), .int (hf 8)])), aI E (qa 8) 9 (hm 8), (qm 9, .inr (4, [.ref (qa 9), .int (hp 9), .int (hv 9), .int (hf 9)])), aI E (qa 9) 9 (hm 9)]) rfl rfl rfl (by decide) 22 4 rfl rfl rfl (As := [.ref (qm 0)]) (rest := []) rfl (Nat.le_of_ble_eq_true rfl) dX2_restore_35 (fun rv_ rw_ hp_ => ?_)
      obtain ⟨rfl, rfl⟩ := hp_
      refine g_rep [0, 1, 22, 23, 2, 3, 4, 5, 6, 7, 8, 9, 10, 11, 12, 13, 14, 15, 16, 17, 18, 19, 20, 21] (ws' := [(h, .inr (2, [.ref pa, .int (nI (kn + 1)), .int (nI ((1 + 9) % 10))])), aM E pa 10 pf, (qm 0, .inr (4, [.ref (qa 0), .int (hp 0), .int (hv 0), .int (hf 0)])), aI E (qa 0) 9 (hm 0), (qm 1, .inr (4, [.ref (qa 1), .int (hp 1), .int (hv 1), .int (hf 1)])), aI E (qa 1) 9 (hm 1), (qm 2, .inr (4, [.ref (qa 2), .int (hp 2), .int (hv 2), .int (hf 2)])), aI E (qa 2) 9 (hm 2), (qm 3, .inr (4, [.ref (qa 3), .int (hp 3), .int (hv 3), .int (hf 3)])), aI E (qa 3) 9 (hm 3), (qm 4, .inr (4, [.ref (qa 4), .int (hp 4), .int (hv 4), .int (hf 4)])), aI E (qa 4) 9 (hm 4), (qm 5, .inr (4, [.ref (qa 5), .int (hp 5), .int (hv 5), .int (hf 5)])), aI E (qa 5) 9 (hm 5), (qm 6, .inr (4, [.ref (qa 6), .int (hp 6), .int (hv 6), .int (hf 6)])), aI E (qa 6) 9 (hm 6), (qm 7, .inr (4, [.ref (qa 7), .int (hp 7), .int (hv 7), .int (hf 7)])), aI E (qa 7) 9 (hm 7), (qm 8, .inr (4, [.ref (qa 8), .int (hp 8), .int (hv 8), .int (hf 8)])), aI E (qa 8) 9 (hm 8), (qm 9, .inr (4, [.ref (qa 9), .int (hp 9), .int (hv 9), .int (hf 9)])), aI E (qa 9) 9 (hm 9), (o, .inr (4, [.ref om, .int (hp 0), .int (hv 0), .int (hf 0)])), aI E om 9 (va_cpy (hm 0) ma 0 0 9)]) (st' := []) (n' := 0) (z' := 0) (pc' := 38) rfl rfl rfl rfl rfl rfl ?_
      refine g_aload_n C dX2_restore_38 rfl ?_
      refine g_dup C dX2_restore_39 rfl ?_
      refine g_get C kwX2 0 rfl rfl 1 (by decide) kfX2_26 rfl dX2_restore_40 ?_
      refine g_iconst (v := 1) C dX2_restore_43 (by decide) ?_
      refine g_isub C dX2_restore_44 ?_
      refine g_topi (v := nI kn) (nx_pred kn) ?_
      refine g_put (ws' := [(h, .inr (2, [.ref pa, .int (nI kn), .int (nI ((1 + 9) % 10))])), aM E pa 10 pf, (qm 0, .inr (4, [.ref (qa 0), .int (hp 0), .int (hv 0), .int (hf 0)])), aI E (qa 0) 9 (hm 0), (qm 1, .inr (4, [.ref (qa 1), .int (hp 1), .int (hv 1), .int (hf 1)])), aI E (qa 1) 9 (hm 1), (qm 2, .inr (4, [.ref (qa 2), .int (hp 2), .int (hv 2), .int (hf 2)])), aI E (qa 2) 9 (hm 2), (qm 3, .inr (4, [.ref (qa 3), .int (hp 3), .int (hv 3), .int (hf 3)])), aI E (qa 3) 9 (hm 3), (qm 4, .inr (4, [.ref (qa 4), .int (hp 4), .int (hv 4), .int (hf 4)])), aI E (qa 4) 9 (hm 4), (qm 5, .inr (4, [.ref (qa 5), .int (hp 5), .int (hv 5), .int (hf 5)])), aI E (qa 5) 9 (hm 5), (qm 6, .inr (4, [.ref (qa 6), .int (hp 6), .int (hv 6), .int (hf 6)])), aI E (qa 6) 9 (hm 6), (qm 7, .inr (4, [.ref (qa 7), .int (hp 7), .int (hv 7), .int (hf 7)])), aI E (qa 7) 9 (hm 7), (qm 8, .inr (4, [.ref (qa 8), .int (hp 8), .int (hv 8), .int (hf 8)])), aI E (qa 8) 9 (hm 8), (qm 9, .inr (4, [.ref (qa 9), .int (hp 9), .int (hv 9), .int (hf 9)])), aI E (qa 9) 9 (hm 9), (o, .inr (4, [.ref om, .int (hp 0), .int (hv 0), .int (hf 0)])), aI E om 9 (va_cpy (hm 0) ma 0 0 9)]) C kwX2 tyX2 tyX2_ok nmX2 0 rfl rfl 1 (by decide) kfX2_26 rfl rfl rfl (Nat.le_of_ble_eq_true rfl) rfl dX2_restore_45 ?_
      refine g_iconst (v := 1) C dX2_restore_48 (by decide) ?_
      exact g_zret C hR (by first | exact Or.inl rfl | exact Or.inr rfl | exact bI01 _) (⟨rfl, rfl⟩) dX2_restore_49
    · skip
      exact absurd c4 (by rw [nI_succ]; exact nx_succ_ne (by omega))
  · skip
    show G k E 0 0 0 [some (.ref h), some (.ref o)] [] [(h, .inr (2, [.ref pa, .int (nI (kn + 1)), .int (nI 2)])), aM E pa 10 pf, (qm 0, .inr (4, [.ref (qa 0), .int (hp 0), .int (hv 0), .int (hf 0)])), aI E (qa 0) 9 (hm 0), (qm 1, .inr (4, [.ref (qa 1), .int (hp 1), .int (hv 1), .int (hf 1)])), aI E (qa 1) 9 (hm 1), (qm 2, .inr (4, [.ref (qa 2), .int (hp 2), .int (hv 2), .int (hf 2)])), aI E (qa 2) 9 (hm 2), (qm 3, .inr (4, [.ref (qa 3), .int (hp 3), .int (hv 3), .int (hf 3)])), aI E (qa 3) 9 (hm 3), (qm 4, .inr (4, [.ref (qa 4), .int (hp 4), .int (hv 4), .int (hf 4)])), aI E (qa 4) 9 (hm 4), (qm 5, .inr (4, [.ref (qa 5), .int (hp 5), .int (hv 5), .int (hf 5)])), aI E (qa 5) 9 (hm 5), (qm 6, .inr (4, [.ref (qa 6), .int (hp 6), .int (hv 6), .int (hf 6)])), aI E (qa 6) 9 (hm 6), (qm 7, .inr (4, [.ref (qa 7), .int (hp 7), .int (hv 7), .int (hf 7)])), aI E (qa 7) 9 (hm 7), (qm 8, .inr (4, [.ref (qa 8), .int (hp 8), .int (hv 8), .int (hf 8)])), aI E (qa 8) 9 (hm 8), (qm 9, .inr (4, [.ref (qa 9), .int (hp 9), .int (hv 9), .int (hf 9)])), aI E (qa 9) 9 (hm 9), (o, .inr (4, [.ref om, .int pl, .int vg, .int fp])), aI E om 9 ma]
    refine g_aload_n C dX2_restore_0 rfl ?_
    refine g_get C kwX2 0 rfl rfl 1 (by decide) kfX2_26 rfl dX2_restore_1 ?_
    refine g_if_ne (tgt := 9) C dX2_restore_4 (by decide) (fun c4 => ?_) (fun c4 => ?_)
    · skip
      refine g_aload_n C dX2_restore_9 rfl ?_
      refine g_aload_n C dX2_restore_10 rfl ?_
      refine g_get C kwX2 0 rfl rfl 2 (by decide) kfX2_18 rfl dX2_restore_11 ?_
      refine g_bipush (v := 10) C dX2_restore_14 (by decide) ?_
      refine g_iadd C dX2_restore_16 ?_
      refine g_iconst (v := 1) C dX2_restore_17 (by decide) ?_
      refine g_isub C dX2_restore_18 ?_
      refine g_bipush (v := 10) C dX2_restore_19 (by decide) ?_
      refine g_irem C dX2_restore_21 (by decide) ?_
      refine g_topi (v := nI ((2 + 9) % 10)) (by decide) ?_
      refine g_put (ws' := [(h, .inr (2, [.ref pa, .int (nI (kn + 1)), .int (nI ((2 + 9) % 10))])), aM E pa 10 pf, (qm 0, .inr (4, [.ref (qa 0), .int (hp 0), .int (hv 0), .int (hf 0)])), aI E (qa 0) 9 (hm 0), (qm 1, .inr (4, [.ref (qa 1), .int (hp 1), .int (hv 1), .int (hf 1)])), aI E (qa 1) 9 (hm 1), (qm 2, .inr (4, [.ref (qa 2), .int (hp 2), .int (hv 2), .int (hf 2)])), aI E (qa 2) 9 (hm 2), (qm 3, .inr (4, [.ref (qa 3), .int (hp 3), .int (hv 3), .int (hf 3)])), aI E (qa 3) 9 (hm 3), (qm 4, .inr (4, [.ref (qa 4), .int (hp 4), .int (hv 4), .int (hf 4)])), aI E (qa 4) 9 (hm 4), (qm 5, .inr (4, [.ref (qa 5), .int (hp 5), .int (hv 5), .int (hf 5)])), aI E (qa 5) 9 (hm 5), (qm 6, .inr (4, [.ref (qa 6), .int (hp 6), .int (hv 6), .int (hf 6)])), aI E (qa 6) 9 (hm 6), (qm 7, .inr (4, [.ref (qa 7), .int (hp 7), .int (hv 7), .int (hf 7)])), aI E (qa 7) 9 (hm 7), (qm 8, .inr (4, [.ref (qa 8), .int (hp 8), .int (hv 8), .int (hf 8)])), aI E (qa 8) 9 (hm 8), (qm 9, .inr (4, [.ref (qa 9), .int (hp 9), .int (hv 9), .int (hf 9)])), aI E (qa 9) 9 (hm 9), (o, .inr (4, [.ref om, .int pl, .int vg, .int fp])), aI E om 9 ma]) C kwX2 tyX2 tyX2_ok nmX2 0 rfl rfl 2 (by decide) kfX2_18 rfl rfl rfl (Nat.le_of_ble_eq_true rfl) rfl dX2_restore_22 ?_
      refine g_aload_n C dX2_restore_25 rfl ?_
      refine g_aload_n C dX2_restore_26 rfl ?_
      refine g_get C kwX2 0 rfl rfl 0 (by decide) kfX2_11 rfl dX2_restore_27 ?_
      refine g_aload_n C dX2_restore_30 rfl ?_
      refine g_get C kwX2 0 rfl rfl 2 (by decide) kfX2_18 rfl dX2_restore_31 ?_
      refine g_aald (b := qm 1) C 1 1 rfl (rfl) (by decide) (by decide) (hpf 1 (by decide)) dX2_restore_34 ?_
      refine g_callV C (c_X4_copy k.l E o om pl vg fp ma (qm 1) (qa 1) (hp 1) (hv 1) (hf 1) (hm 1)) kmX2_22 kiX4_copy ksX4_copy knX4 kcX4_copy ⟨rfl, rfl⟩ ⟨rfl, kdX4_copy⟩ ⟨by decide, by decide⟩ ⟨by decide, by decide⟩ [22, 23, 4, 5] [0, 1, 2, 3, 6, 7, 8, 9, 10, 11, 12, 13, 14, 15, 16, 17, 18, 19, 20, 21] rfl (wr := [(h, .inr (2, [.ref pa, .int (nI (kn + 1)), .int (nI ((2 + 9) % 10))])), aM E pa 10 pf, (qm 0, .inr (4, [.ref (qa 0), .int (hp 0), .int (hv 0), .int (hf 0)])), aI E (qa 0) 9 (hm 0), (qm 2, .inr (4, [.ref (qa 2), .int (hp 2), .int (hv 2), .int (hf 2)])), aI E (qa 2) 9 (hm 2), (qm 3, .inr (4, [.ref (qa 3), .int (hp 3), .int (hv 3), .int (hf 3)])), aI E (qa 3) 9 (hm 3), (qm 4, .inr (4, [.ref (qa 4), .int (hp 4), .int (hv 4), .int (hf 4)])), aI E (qa 4) 9 (hm 4), (qm 5, .inr (4, [.ref (qa 5), .int (hp 5), .int (hv 5), .int (hf 5)])), aI E (qa 5) 9 (hm 5), (qm 6, .inr (4, [.ref (qa 6), .int (hp 6), .int (hv 6), .int (hf 6)])), aI E (qa 6) 9 (hm 6), (qm 7, .inr (4, [.ref (qa 7), .int (hp 7), .int (hv 7), .int (hf 7)])), aI E (qa 7) 9 (hm 7), (qm 8, .inr (4, [.ref (qa 8), .int (hp 8), .int (hv 8), .int (hf 8)])), aI E (qa 8) 9 (hm 8), (qm 9, .inr (4, [.ref (qa 9), .int (hp 9), .int (hv 9), .int (hf 9)])), aI E (qa 9) 9 (hm 9)]) rfl rfl rfl (by decide) 22 4 rfl rfl rfl (As := [.ref (qm 1)]) (rest := []) rfl (Nat.le_of_ble_eq_true rfl) dX2_restore_35 (fun rv_ rw_ hp_ => ?_)
      obtain ⟨rfl, rfl⟩ := hp_
      refine g_rep [0, 1, 2, 3, 22, 23, 4, 5, 6, 7, 8, 9, 10, 11, 12, 13, 14, 15, 16, 17, 18, 19, 20, 21] (ws' := [(h, .inr (2, [.ref pa, .int (nI (kn + 1)), .int (nI ((2 + 9) % 10))])), aM E pa 10 pf, (qm 0, .inr (4, [.ref (qa 0), .int (hp 0), .int (hv 0), .int (hf 0)])), aI E (qa 0) 9 (hm 0), (qm 1, .inr (4, [.ref (qa 1), .int (hp 1), .int (hv 1), .int (hf 1)])), aI E (qa 1) 9 (hm 1), (qm 2, .inr (4, [.ref (qa 2), .int (hp 2), .int (hv 2), .int (hf 2)])), aI E (qa 2) 9 (hm 2), (qm 3, .inr (4, [.ref (qa 3), .int (hp 3), .int (hv 3), .int (hf 3)])), aI E (qa 3) 9 (hm 3), (qm 4, .inr (4, [.ref (qa 4), .int (hp 4), .int (hv 4), .int (hf 4)])), aI E (qa 4) 9 (hm 4), (qm 5, .inr (4, [.ref (qa 5), .int (hp 5), .int (hv 5), .int (hf 5)])), aI E (qa 5) 9 (hm 5), (qm 6, .inr (4, [.ref (qa 6), .int (hp 6), .int (hv 6), .int (hf 6)])), aI E (qa 6) 9 (hm 6), (qm 7, .inr (4, [.ref (qa 7), .int (hp 7), .int (hv 7), .int (hf 7)])), aI E (qa 7) 9 (hm 7), (qm 8, .inr (4, [.ref (qa 8), .int (hp 8), .int (hv 8), .int (hf 8)])), aI E (qa 8) 9 (hm 8), (qm 9, .inr (4, [.ref (qa 9), .int (hp 9), .int (hv 9), .int (hf 9)])), aI E (qa 9) 9 (hm 9), (o, .inr (4, [.ref om, .int (hp 1), .int (hv 1), .int (hf 1)])), aI E om 9 (va_cpy (hm 1) ma 0 0 9)]) (st' := []) (n' := 0) (z' := 0) (pc' := 38) rfl rfl rfl rfl rfl rfl ?_
      refine g_aload_n C dX2_restore_38 rfl ?_
      refine g_dup C dX2_restore_39 rfl ?_
      refine g_get C kwX2 0 rfl rfl 1 (by decide) kfX2_26 rfl dX2_restore_40 ?_
      refine g_iconst (v := 1) C dX2_restore_43 (by decide) ?_
      refine g_isub C dX2_restore_44 ?_
      refine g_topi (v := nI kn) (nx_pred kn) ?_
      refine g_put (ws' := [(h, .inr (2, [.ref pa, .int (nI kn), .int (nI ((2 + 9) % 10))])), aM E pa 10 pf, (qm 0, .inr (4, [.ref (qa 0), .int (hp 0), .int (hv 0), .int (hf 0)])), aI E (qa 0) 9 (hm 0), (qm 1, .inr (4, [.ref (qa 1), .int (hp 1), .int (hv 1), .int (hf 1)])), aI E (qa 1) 9 (hm 1), (qm 2, .inr (4, [.ref (qa 2), .int (hp 2), .int (hv 2), .int (hf 2)])), aI E (qa 2) 9 (hm 2), (qm 3, .inr (4, [.ref (qa 3), .int (hp 3), .int (hv 3), .int (hf 3)])), aI E (qa 3) 9 (hm 3), (qm 4, .inr (4, [.ref (qa 4), .int (hp 4), .int (hv 4), .int (hf 4)])), aI E (qa 4) 9 (hm 4), (qm 5, .inr (4, [.ref (qa 5), .int (hp 5), .int (hv 5), .int (hf 5)])), aI E (qa 5) 9 (hm 5), (qm 6, .inr (4, [.ref (qa 6), .int (hp 6), .int (hv 6), .int (hf 6)])), aI E (qa 6) 9 (hm 6), (qm 7, .inr (4, [.ref (qa 7), .int (hp 7), .int (hv 7), .int (hf 7)])), aI E (qa 7) 9 (hm 7), (qm 8, .inr (4, [.ref (qa 8), .int (hp 8), .int (hv 8), .int (hf 8)])), aI E (qa 8) 9 (hm 8), (qm 9, .inr (4, [.ref (qa 9), .int (hp 9), .int (hv 9), .int (hf 9)])), aI E (qa 9) 9 (hm 9), (o, .inr (4, [.ref om, .int (hp 1), .int (hv 1), .int (hf 1)])), aI E om 9 (va_cpy (hm 1) ma 0 0 9)]) C kwX2 tyX2 tyX2_ok nmX2 0 rfl rfl 1 (by decide) kfX2_26 rfl rfl rfl (Nat.le_of_ble_eq_true rfl) rfl dX2_restore_45 ?_
      refine g_iconst (v := 1) C dX2_restore_48 (by decide) ?_
      exact g_zret C hR (by first | exact Or.inl rfl | exact Or.inr rfl | exact bI01 _) (⟨rfl, rfl⟩) dX2_restore_49
    · skip
      exact absurd c4 (by rw [nI_succ]; exact nx_succ_ne (by omega))
  · skip
    show G k E 0 0 0 [some (.ref h), some (.ref o)] [] [(h, .inr (2, [.ref pa, .int (nI (kn + 1)), .int (nI 3)])), aM E pa 10 pf, (qm 0, .inr (4, [.ref (qa 0), .int (hp 0), .int (hv 0), .int (hf 0)])), aI E (qa 0) 9 (hm 0), (qm 1, .inr (4, [.ref (qa 1), .int (hp 1), .int (hv 1), .int (hf 1)])), aI E (qa 1) 9 (hm 1), (qm 2, .inr (4, [.ref (qa 2), .int (hp 2), .int (hv 2), .int (hf 2)])), aI E (qa 2) 9 (hm 2), (qm 3, .inr (4, [.ref (qa 3), .int (hp 3), .int (hv 3), .int (hf 3)])), aI E (qa 3) 9 (hm 3), (qm 4, .inr (4, [.ref (qa 4), .int (hp 4), .int (hv 4), .int (hf 4)])), aI E (qa 4) 9 (hm 4), (qm 5, .inr (4, [.ref (qa 5), .int (hp 5), .int (hv 5), .int (hf 5)])), aI E (qa 5) 9 (hm 5), (qm 6, .inr (4, [.ref (qa 6), .int (hp 6), .int (hv 6), .int (hf 6)])), aI E (qa 6) 9 (hm 6), (qm 7, .inr (4, [.ref (qa 7), .int (hp 7), .int (hv 7), .int (hf 7)])), aI E (qa 7) 9 (hm 7), (qm 8, .inr (4, [.ref (qa 8), .int (hp 8), .int (hv 8), .int (hf 8)])), aI E (qa 8) 9 (hm 8), (qm 9, .inr (4, [.ref (qa 9), .int (hp 9), .int (hv 9), .int (hf 9)])), aI E (qa 9) 9 (hm 9), (o, .inr (4, [.ref om, .int pl, .int vg, .int fp])), aI E om 9 ma]
    refine g_aload_n C dX2_restore_0 rfl ?_
    refine g_get C kwX2 0 rfl rfl 1 (by decide) kfX2_26 rfl dX2_restore_1 ?_
    refine g_if_ne (tgt := 9) C dX2_restore_4 (by decide) (fun c4 => ?_) (fun c4 => ?_)
    · skip
      refine g_aload_n C dX2_restore_9 rfl ?_
      refine g_aload_n C dX2_restore_10 rfl ?_
      refine g_get C kwX2 0 rfl rfl 2 (by decide) kfX2_18 rfl dX2_restore_11 ?_
      refine g_bipush (v := 10) C dX2_restore_14 (by decide) ?_
      refine g_iadd C dX2_restore_16 ?_
      refine g_iconst (v := 1) C dX2_restore_17 (by decide) ?_
      refine g_isub C dX2_restore_18 ?_
      refine g_bipush (v := 10) C dX2_restore_19 (by decide) ?_
      refine g_irem C dX2_restore_21 (by decide) ?_
      refine g_topi (v := nI ((3 + 9) % 10)) (by decide) ?_
      refine g_put (ws' := [(h, .inr (2, [.ref pa, .int (nI (kn + 1)), .int (nI ((3 + 9) % 10))])), aM E pa 10 pf, (qm 0, .inr (4, [.ref (qa 0), .int (hp 0), .int (hv 0), .int (hf 0)])), aI E (qa 0) 9 (hm 0), (qm 1, .inr (4, [.ref (qa 1), .int (hp 1), .int (hv 1), .int (hf 1)])), aI E (qa 1) 9 (hm 1), (qm 2, .inr (4, [.ref (qa 2), .int (hp 2), .int (hv 2), .int (hf 2)])), aI E (qa 2) 9 (hm 2), (qm 3, .inr (4, [.ref (qa 3), .int (hp 3), .int (hv 3), .int (hf 3)])), aI E (qa 3) 9 (hm 3), (qm 4, .inr (4, [.ref (qa 4), .int (hp 4), .int (hv 4), .int (hf 4)])), aI E (qa 4) 9 (hm 4), (qm 5, .inr (4, [.ref (qa 5), .int (hp 5), .int (hv 5), .int (hf 5)])), aI E (qa 5) 9 (hm 5), (qm 6, .inr (4, [.ref (qa 6), .int (hp 6), .int (hv 6), .int (hf 6)])), aI E (qa 6) 9 (hm 6), (qm 7, .inr (4, [.ref (qa 7), .int (hp 7), .int (hv 7), .int (hf 7)])), aI E (qa 7) 9 (hm 7), (qm 8, .inr (4, [.ref (qa 8), .int (hp 8), .int (hv 8), .int (hf 8)])), aI E (qa 8) 9 (hm 8), (qm 9, .inr (4, [.ref (qa 9), .int (hp 9), .int (hv 9), .int (hf 9)])), aI E (qa 9) 9 (hm 9), (o, .inr (4, [.ref om, .int pl, .int vg, .int fp])), aI E om 9 ma]) C kwX2 tyX2 tyX2_ok nmX2 0 rfl rfl 2 (by decide) kfX2_18 rfl rfl rfl (Nat.le_of_ble_eq_true rfl) rfl dX2_restore_22 ?_
      refine g_aload_n C dX2_restore_25 rfl ?_
      refine g_aload_n C dX2_restore_26 rfl ?_
      refine g_get C kwX2 0 rfl rfl 0 (by decide) kfX2_11 rfl dX2_restore_27 ?_
      refine g_aload_n C dX2_restore_30 rfl ?_
      refine g_get C kwX2 0 rfl rfl 2 (by decide) kfX2_18 rfl dX2_restore_31 ?_
      refine g_aald (b := qm 2) C 1 2 rfl (rfl) (by decide) (by decide) (hpf 2 (by decide)) dX2_restore_34 ?_
      refine g_callV C (c_X4_copy k.l E o om pl vg fp ma (qm 2) (qa 2) (hp 2) (hv 2) (hf 2) (hm 2)) kmX2_22 kiX4_copy ksX4_copy knX4 kcX4_copy ⟨rfl, rfl⟩ ⟨rfl, kdX4_copy⟩ ⟨by decide, by decide⟩ ⟨by decide, by decide⟩ [22, 23, 6, 7] [0, 1, 2, 3, 4, 5, 8, 9, 10, 11, 12, 13, 14, 15, 16, 17, 18, 19, 20, 21] rfl (wr := [(h, .inr (2, [.ref pa, .int (nI (kn + 1)), .int (nI ((3 + 9) % 10))])), aM E pa 10 pf, (qm 0, .inr (4, [.ref (qa 0), .int (hp 0), .int (hv 0), .int (hf 0)])), aI E (qa 0) 9 (hm 0), (qm 1, .inr (4, [.ref (qa 1), .int (hp 1), .int (hv 1), .int (hf 1)])), aI E (qa 1) 9 (hm 1), (qm 3, .inr (4, [.ref (qa 3), .int (hp 3), .int (hv 3), .int (hf 3)])), aI E (qa 3) 9 (hm 3), (qm 4, .inr (4, [.ref (qa 4), .int (hp 4), .int (hv 4), .int (hf 4)])), aI E (qa 4) 9 (hm 4), (qm 5, .inr (4, [.ref (qa 5), .int (hp 5), .int (hv 5), .int (hf 5)])), aI E (qa 5) 9 (hm 5), (qm 6, .inr (4, [.ref (qa 6), .int (hp 6), .int (hv 6), .int (hf 6)])), aI E (qa 6) 9 (hm 6), (qm 7, .inr (4, [.ref (qa 7), .int (hp 7), .int (hv 7), .int (hf 7)])), aI E (qa 7) 9 (hm 7), (qm 8, .inr (4, [.ref (qa 8), .int (hp 8), .int (hv 8), .int (hf 8)])), aI E (qa 8) 9 (hm 8), (qm 9, .inr (4, [.ref (qa 9), .int (hp 9), .int (hv 9), .int (hf 9)])), aI E (qa 9) 9 (hm 9)]) rfl rfl rfl (by decide) 22 4 rfl rfl rfl (As := [.ref (qm 2)]) (rest := []) rfl (Nat.le_of_ble_eq_true rfl) dX2_restore_35 (fun rv_ rw_ hp_ => ?_)
      obtain ⟨rfl, rfl⟩ := hp_
      refine g_rep [0, 1, 2, 3, 4, 5, 22, 23, 6, 7, 8, 9, 10, 11, 12, 13, 14, 15, 16, 17, 18, 19, 20, 21] (ws' := [(h, .inr (2, [.ref pa, .int (nI (kn + 1)), .int (nI ((3 + 9) % 10))])), aM E pa 10 pf, (qm 0, .inr (4, [.ref (qa 0), .int (hp 0), .int (hv 0), .int (hf 0)])), aI E (qa 0) 9 (hm 0), (qm 1, .inr (4, [.ref (qa 1), .int (hp 1), .int (hv 1), .int (hf 1)])), aI E (qa 1) 9 (hm 1), (qm 2, .inr (4, [.ref (qa 2), .int (hp 2), .int (hv 2), .int (hf 2)])), aI E (qa 2) 9 (hm 2), (qm 3, .inr (4, [.ref (qa 3), .int (hp 3), .int (hv 3), .int (hf 3)])), aI E (qa 3) 9 (hm 3), (qm 4, .inr (4, [.ref (qa 4), .int (hp 4), .int (hv 4), .int (hf 4)])), aI E (qa 4) 9 (hm 4), (qm 5, .inr (4, [.ref (qa 5), .int (hp 5), .int (hv 5), .int (hf 5)])), aI E (qa 5) 9 (hm 5), (qm 6, .inr (4, [.ref (qa 6), .int (hp 6), .int (hv 6), .int (hf 6)])), aI E (qa 6) 9 (hm 6), (qm 7, .inr (4, [.ref (qa 7), .int (hp 7), .int (hv 7), .int (hf 7)])), aI E (qa 7) 9 (hm 7), (qm 8, .inr (4, [.ref (qa 8), .int (hp 8), .int (hv 8), .int (hf 8)])), aI E (qa 8) 9 (hm 8), (qm 9, .inr (4, [.ref (qa 9), .int (hp 9), .int (hv 9), .int (hf 9)])), aI E (qa 9) 9 (hm 9), (o, .inr (4, [.ref om, .int (hp 2), .int (hv 2), .int (hf 2)])), aI E om 9 (va_cpy (hm 2) ma 0 0 9)]) (st' := []) (n' := 0) (z' := 0) (pc' := 38) rfl rfl rfl rfl rfl rfl ?_
      refine g_aload_n C dX2_restore_38 rfl ?_
      refine g_dup C dX2_restore_39 rfl ?_
      refine g_get C kwX2 0 rfl rfl 1 (by decide) kfX2_26 rfl dX2_restore_40 ?_
      refine g_iconst (v := 1) C dX2_restore_43 (by decide) ?_
      refine g_isub C dX2_restore_44 ?_
      refine g_topi (v := nI kn) (nx_pred kn) ?_
      refine g_put (ws' := [(h, .inr (2, [.ref pa, .int (nI kn), .int (nI ((3 + 9) % 10))])), aM E pa 10 pf, (qm 0, .inr (4, [.ref (qa 0), .int (hp 0), .int (hv 0), .int (hf 0)])), aI E (qa 0) 9 (hm 0), (qm 1, .inr (4, [.ref (qa 1), .int (hp 1), .int (hv 1), .int (hf 1)])), aI E (qa 1) 9 (hm 1), (qm 2, .inr (4, [.ref (qa 2), .int (hp 2), .int (hv 2), .int (hf 2)])), aI E (qa 2) 9 (hm 2), (qm 3, .inr (4, [.ref (qa 3), .int (hp 3), .int (hv 3), .int (hf 3)])), aI E (qa 3) 9 (hm 3), (qm 4, .inr (4, [.ref (qa 4), .int (hp 4), .int (hv 4), .int (hf 4)])), aI E (qa 4) 9 (hm 4), (qm 5, .inr (4, [.ref (qa 5), .int (hp 5), .int (hv 5), .int (hf 5)])), aI E (qa 5) 9 (hm 5), (qm 6, .inr (4, [.ref (qa 6), .int (hp 6), .int (hv 6), .int (hf 6)])), aI E (qa 6) 9 (hm 6), (qm 7, .inr (4, [.ref (qa 7), .int (hp 7), .int (hv 7), .int (hf 7)])), aI E (qa 7) 9 (hm 7), (qm 8, .inr (4, [.ref (qa 8), .int (hp 8), .int (hv 8), .int (hf 8)])), aI E (qa 8) 9 (hm 8), (qm 9, .inr (4, [.ref (qa 9), .int (hp 9), .int (hv 9), .int (hf 9)])), aI E (qa 9) 9 (hm 9), (o, .inr (4, [.ref om, .int (hp 2), .int (hv 2), .int (hf 2)])), aI E om 9 (va_cpy (hm 2) ma 0 0 9)]) C kwX2 tyX2 tyX2_ok nmX2 0 rfl rfl 1 (by decide) kfX2_26 rfl rfl rfl (Nat.le_of_ble_eq_true rfl) rfl dX2_restore_45 ?_
      refine g_iconst (v := 1) C dX2_restore_48 (by decide) ?_
      exact g_zret C hR (by first | exact Or.inl rfl | exact Or.inr rfl | exact bI01 _) (⟨rfl, rfl⟩) dX2_restore_49
    · skip
      exact absurd c4 (by rw [nI_succ]; exact nx_succ_ne (by omega))
  · skip
    show G k E 0 0 0 [some (.ref h), some (.ref o)] [] [(h, .inr (2, [.ref pa, .int (nI (kn + 1)), .int (nI 4)])), aM E pa 10 pf, (qm 0, .inr (4, [.ref (qa 0), .int (hp 0), .int (hv 0), .int (hf 0)])), aI E (qa 0) 9 (hm 0), (qm 1, .inr (4, [.ref (qa 1), .int (hp 1), .int (hv 1), .int (hf 1)])), aI E (qa 1) 9 (hm 1), (qm 2, .inr (4, [.ref (qa 2), .int (hp 2), .int (hv 2), .int (hf 2)])), aI E (qa 2) 9 (hm 2), (qm 3, .inr (4, [.ref (qa 3), .int (hp 3), .int (hv 3), .int (hf 3)])), aI E (qa 3) 9 (hm 3), (qm 4, .inr (4, [.ref (qa 4), .int (hp 4), .int (hv 4), .int (hf 4)])), aI E (qa 4) 9 (hm 4), (qm 5, .inr (4, [.ref (qa 5), .int (hp 5), .int (hv 5), .int (hf 5)])), aI E (qa 5) 9 (hm 5), (qm 6, .inr (4, [.ref (qa 6), .int (hp 6), .int (hv 6), .int (hf 6)])), aI E (qa 6) 9 (hm 6), (qm 7, .inr (4, [.ref (qa 7), .int (hp 7), .int (hv 7), .int (hf 7)])), aI E (qa 7) 9 (hm 7), (qm 8, .inr (4, [.ref (qa 8), .int (hp 8), .int (hv 8), .int (hf 8)])), aI E (qa 8) 9 (hm 8), (qm 9, .inr (4, [.ref (qa 9), .int (hp 9), .int (hv 9), .int (hf 9)])), aI E (qa 9) 9 (hm 9), (o, .inr (4, [.ref om, .int pl, .int vg, .int fp])), aI E om 9 ma]
    refine g_aload_n C dX2_restore_0 rfl ?_
    refine g_get C kwX2 0 rfl rfl 1 (by decide) kfX2_26 rfl dX2_restore_1 ?_
    refine g_if_ne (tgt := 9) C dX2_restore_4 (by decide) (fun c4 => ?_) (fun c4 => ?_)
    · skip
      refine g_aload_n C dX2_restore_9 rfl ?_
      refine g_aload_n C dX2_restore_10 rfl ?_
      refine g_get C kwX2 0 rfl rfl 2 (by decide) kfX2_18 rfl dX2_restore_11 ?_
      refine g_bipush (v := 10) C dX2_restore_14 (by decide) ?_
      refine g_iadd C dX2_restore_16 ?_
      refine g_iconst (v := 1) C dX2_restore_17 (by decide) ?_
      refine g_isub C dX2_restore_18 ?_
      refine g_bipush (v := 10) C dX2_restore_19 (by decide) ?_
      refine g_irem C dX2_restore_21 (by decide) ?_
      refine g_topi (v := nI ((4 + 9) % 10)) (by decide) ?_
      refine g_put (ws' := [(h, .inr (2, [.ref pa, .int (nI (kn + 1)), .int (nI ((4 + 9) % 10))])), aM E pa 10 pf, (qm 0, .inr (4, [.ref (qa 0), .int (hp 0), .int (hv 0), .int (hf 0)])), aI E (qa 0) 9 (hm 0), (qm 1, .inr (4, [.ref (qa 1), .int (hp 1), .int (hv 1), .int (hf 1)])), aI E (qa 1) 9 (hm 1), (qm 2, .inr (4, [.ref (qa 2), .int (hp 2), .int (hv 2), .int (hf 2)])), aI E (qa 2) 9 (hm 2), (qm 3, .inr (4, [.ref (qa 3), .int (hp 3), .int (hv 3), .int (hf 3)])), aI E (qa 3) 9 (hm 3), (qm 4, .inr (4, [.ref (qa 4), .int (hp 4), .int (hv 4), .int (hf 4)])), aI E (qa 4) 9 (hm 4), (qm 5, .inr (4, [.ref (qa 5), .int (hp 5), .int (hv 5), .int (hf 5)])), aI E (qa 5) 9 (hm 5), (qm 6, .inr (4, [.ref (qa 6), .int (hp 6), .int (hv 6), .int (hf 6)])), aI E (qa 6) 9 (hm 6), (qm 7, .inr (4, [.ref (qa 7), .int (hp 7), .int (hv 7), .int (hf 7)])), aI E (qa 7) 9 (hm 7), (qm 8, .inr (4, [.ref (qa 8), .int (hp 8), .int (hv 8), .int (hf 8)])), aI E (qa 8) 9 (hm 8), (qm 9, .inr (4, [.ref (qa 9), .int (hp 9), .int (hv 9), .int (hf 9)])), aI E (qa 9) 9 (hm 9), (o, .inr (4, [.ref om, .int pl, .int vg, .int fp])), aI E om 9 ma]) C kwX2 tyX2 tyX2_ok nmX2 0 rfl rfl 2 (by decide) kfX2_18 rfl rfl rfl (Nat.le_of_ble_eq_true rfl) rfl dX2_restore_22 ?_
      refine g_aload_n C dX2_restore_25 rfl ?_
      refine g_aload_n C dX2_restore_26 rfl ?_
      refine g_get C kwX2 0 rfl rfl 0 (by decide) kfX2_11 rfl dX2_restore_27 ?_
      refine g_aload_n C dX2_restore_30 rfl ?_
      refine g_get C kwX2 0 rfl rfl 2 (by decide) kfX2_18 rfl dX2_restore_31 ?_
      refine g_aald (b := qm 3) C 1 3 rfl (rfl) (by decide) (by decide) (hpf 3 (by decide)) dX2_restore_34 ?_
      refine g_callV C (c_X4_copy k.l E o om pl vg fp ma (qm 3) (qa 3) (hp 3) (hv 3) (hf 3) (hm 3)) kmX2_22 kiX4_copy ksX4_copy knX4 kcX4_copy ⟨rfl, rfl⟩ ⟨rfl, kdX4_copy⟩ ⟨by decide, by decide⟩ ⟨by decide, by decide⟩ [22, 23, 8, 9] [0, 1, 2, 3, 4, 5, 6, 7, 10, 11, 12, 13, 14, 15, 16, 17, 18, 19, 20, 21] rfl (wr := [(h, .inr (2, [.ref pa, .int (nI (kn + 1)), .int (nI ((4 + 9) % 10))])), aM E pa 10 pf, (qm 0, .inr (4, [.ref (qa 0), .int (hp 0), .int (hv 0), .int (hf 0)])), aI E (qa 0) 9 (hm 0), (qm 1, .inr (4, [.ref (qa 1), .int (hp 1), .int (hv 1), .int (hf 1)])), aI E (qa 1) 9 (hm 1), (qm 2, .inr (4, [.ref (qa 2), .int (hp 2), .int (hv 2), .int (hf 2)])), aI E (qa 2) 9 (hm 2), (qm 4, .inr (4, [.ref (qa 4), .int (hp 4), .int (hv 4), .int (hf 4)])), aI E (qa 4) 9 (hm 4), (qm 5, .inr (4, [.ref (qa 5), .int (hp 5), .int (hv 5), .int (hf 5)])), aI E (qa 5) 9 (hm 5), (qm 6, .inr (4, [.ref (qa 6), .int (hp 6), .int (hv 6), .int (hf 6)])), aI E (qa 6) 9 (hm 6), (qm 7, .inr (4, [.ref (qa 7), .int (hp 7), .int (hv 7), .int (hf 7)])), aI E (qa 7) 9 (hm 7), (qm 8, .inr (4, [.ref (qa 8), .int (hp 8), .int (hv 8), .int (hf 8)])), aI E (qa 8) 9 (hm 8), (qm 9, .inr (4, [.ref (qa 9), .int (hp 9), .int (hv 9), .int (hf 9)])), aI E (qa 9) 9 (hm 9)]) rfl rfl rfl (by decide) 22 4 rfl rfl rfl (As := [.ref (qm 3)]) (rest := []) rfl (Nat.le_of_ble_eq_true rfl) dX2_restore_35 (fun rv_ rw_ hp_ => ?_)
      obtain ⟨rfl, rfl⟩ := hp_
      refine g_rep [0, 1, 2, 3, 4, 5, 6, 7, 22, 23, 8, 9, 10, 11, 12, 13, 14, 15, 16, 17, 18, 19, 20, 21] (ws' := [(h, .inr (2, [.ref pa, .int (nI (kn + 1)), .int (nI ((4 + 9) % 10))])), aM E pa 10 pf, (qm 0, .inr (4, [.ref (qa 0), .int (hp 0), .int (hv 0), .int (hf 0)])), aI E (qa 0) 9 (hm 0), (qm 1, .inr (4, [.ref (qa 1), .int (hp 1), .int (hv 1), .int (hf 1)])), aI E (qa 1) 9 (hm 1), (qm 2, .inr (4, [.ref (qa 2), .int (hp 2), .int (hv 2), .int (hf 2)])), aI E (qa 2) 9 (hm 2), (qm 3, .inr (4, [.ref (qa 3), .int (hp 3), .int (hv 3), .int (hf 3)])), aI E (qa 3) 9 (hm 3), (qm 4, .inr (4, [.ref (qa 4), .int (hp 4), .int (hv 4), .int (hf 4)])), aI E (qa 4) 9 (hm 4), (qm 5, .inr (4, [.ref (qa 5), .int (hp 5), .int (hv 5), .int (hf 5)])), aI E (qa 5) 9 (hm 5), (qm 6, .inr (4, [.ref (qa 6), .int (hp 6), .int (hv 6), .int (hf 6)])), aI E (qa 6) 9 (hm 6), (qm 7, .inr (4, [.ref (qa 7), .int (hp 7), .int (hv 7), .int (hf 7)])), aI E (qa 7) 9 (hm 7), (qm 8, .inr (4, [.ref (qa 8), .int (hp 8), .int (hv 8), .int (hf 8)])), aI E (qa 8) 9 (hm 8), (qm 9, .inr (4, [.ref (qa 9), .int (hp 9), .int (hv 9), .int (hf 9)])), aI E (qa 9) 9 (hm 9), (o, .inr (4, [.ref om, .int (hp 3), .int (hv 3), .int (hf 3)])), aI E om 9 (va_cpy (hm 3) ma 0 0 9)]) (st' := []) (n' := 0) (z' := 0) (pc' := 38) rfl rfl rfl rfl rfl rfl ?_
      refine g_aload_n C dX2_restore_38 rfl ?_
      refine g_dup C dX2_restore_39 rfl ?_
      refine g_get C kwX2 0 rfl rfl 1 (by decide) kfX2_26 rfl dX2_restore_40 ?_
      refine g_iconst (v := 1) C dX2_restore_43 (by decide) ?_
      refine g_isub C dX2_restore_44 ?_
      refine g_topi (v := nI kn) (nx_pred kn) ?_
      refine g_put (ws' := [(h, .inr (2, [.ref pa, .int (nI kn), .int (nI ((4 + 9) % 10))])), aM E pa 10 pf, (qm 0, .inr (4, [.ref (qa 0), .int (hp 0), .int (hv 0), .int (hf 0)])), aI E (qa 0) 9 (hm 0), (qm 1, .inr (4, [.ref (qa 1), .int (hp 1), .int (hv 1), .int (hf 1)])), aI E (qa 1) 9 (hm 1), (qm 2, .inr (4, [.ref (qa 2), .int (hp 2), .int (hv 2), .int (hf 2)])), aI E (qa 2) 9 (hm 2), (qm 3, .inr (4, [.ref (qa 3), .int (hp 3), .int (hv 3), .int (hf 3)])), aI E (qa 3) 9 (hm 3), (qm 4, .inr (4, [.ref (qa 4), .int (hp 4), .int (hv 4), .int (hf 4)])), aI E (qa 4) 9 (hm 4), (qm 5, .inr (4, [.ref (qa 5), .int (hp 5), .int (hv 5), .int (hf 5)])), aI E (qa 5) 9 (hm 5), (qm 6, .inr (4, [.ref (qa 6), .int (hp 6), .int (hv 6), .int (hf 6)])), aI E (qa 6) 9 (hm 6), (qm 7, .inr (4, [.ref (qa 7), .int (hp 7), .int (hv 7), .int (hf 7)])), aI E (qa 7) 9 (hm 7), (qm 8, .inr (4, [.ref (qa 8), .int (hp 8), .int (hv 8), .int (hf 8)])), aI E (qa 8) 9 (hm 8), (qm 9, .inr (4, [.ref (qa 9), .int (hp 9), .int (hv 9), .int (hf 9)])), aI E (qa 9) 9 (hm 9), (o, .inr (4, [.ref om, .int (hp 3), .int (hv 3), .int (hf 3)])), aI E om 9 (va_cpy (hm 3) ma 0 0 9)]) C kwX2 tyX2 tyX2_ok nmX2 0 rfl rfl 1 (by decide) kfX2_26 rfl rfl rfl (Nat.le_of_ble_eq_true rfl) rfl dX2_restore_45 ?_
      refine g_iconst (v := 1) C dX2_restore_48 (by decide) ?_
      exact g_zret C hR (by first | exact Or.inl rfl | exact Or.inr rfl | exact bI01 _) (⟨rfl, rfl⟩) dX2_restore_49
    · skip
      exact absurd c4 (by rw [nI_succ]; exact nx_succ_ne (by omega))
  · skip
    show G k E 0 0 0 [some (.ref h), some (.ref o)] [] [(h, .inr (2, [.ref pa, .int (nI (kn + 1)), .int (nI 5)])), aM E pa 10 pf, (qm 0, .inr (4, [.ref (qa 0), .int (hp 0), .int (hv 0), .int (hf 0)])), aI E (qa 0) 9 (hm 0), (qm 1, .inr (4, [.ref (qa 1), .int (hp 1), .int (hv 1), .int (hf 1)])), aI E (qa 1) 9 (hm 1), (qm 2, .inr (4, [.ref (qa 2), .int (hp 2), .int (hv 2), .int (hf 2)])), aI E (qa 2) 9 (hm 2), (qm 3, .inr (4, [.ref (qa 3), .int (hp 3), .int (hv 3), .int (hf 3)])), aI E (qa 3) 9 (hm 3), (qm 4, .inr (4, [.ref (qa 4), .int (hp 4), .int (hv 4), .int (hf 4)])), aI E (qa 4) 9 (hm 4), (qm 5, .inr (4, [.ref (qa 5), .int (hp 5), .int (hv 5), .int (hf 5)])), aI E (qa 5) 9 (hm 5), (qm 6, .inr (4, [.ref (qa 6), .int (hp 6), .int (hv 6), .int (hf 6)])), aI E (qa 6) 9 (hm 6), (qm 7, .inr (4, [.ref (qa 7), .int (hp 7), .int (hv 7), .int (hf 7)])), aI E (qa 7) 9 (hm 7), (qm 8, .inr (4, [.ref (qa 8), .int (hp 8), .int (hv 8), .int (hf 8)])), aI E (qa 8) 9 (hm 8), (qm 9, .inr (4, [.ref (qa 9), .int (hp 9), .int (hv 9), .int (hf 9)])), aI E (qa 9) 9 (hm 9), (o, .inr (4, [.ref om, .int pl, .int vg, .int fp])), aI E om 9 ma]
    refine g_aload_n C dX2_restore_0 rfl ?_
    refine g_get C kwX2 0 rfl rfl 1 (by decide) kfX2_26 rfl dX2_restore_1 ?_
    refine g_if_ne (tgt := 9) C dX2_restore_4 (by decide) (fun c4 => ?_) (fun c4 => ?_)
    · skip
      refine g_aload_n C dX2_restore_9 rfl ?_
      refine g_aload_n C dX2_restore_10 rfl ?_
      refine g_get C kwX2 0 rfl rfl 2 (by decide) kfX2_18 rfl dX2_restore_11 ?_
      refine g_bipush (v := 10) C dX2_restore_14 (by decide) ?_
      refine g_iadd C dX2_restore_16 ?_
      refine g_iconst (v := 1) C dX2_restore_17 (by decide) ?_
      refine g_isub C dX2_restore_18 ?_
      refine g_bipush (v := 10) C dX2_restore_19 (by decide) ?_
      refine g_irem C dX2_restore_21 (by decide) ?_
      refine g_topi (v := nI ((5 + 9) % 10)) (by decide) ?_
      refine g_put (ws' := [(h, .inr (2, [.ref pa, .int (nI (kn + 1)), .int (nI ((5 + 9) % 10))])), aM E pa 10 pf, (qm 0, .inr (4, [.ref (qa 0), .int (hp 0), .int (hv 0), .int (hf 0)])), aI E (qa 0) 9 (hm 0), (qm 1, .inr (4, [.ref (qa 1), .int (hp 1), .int (hv 1), .int (hf 1)])), aI E (qa 1) 9 (hm 1), (qm 2, .inr (4, [.ref (qa 2), .int (hp 2), .int (hv 2), .int (hf 2)])), aI E (qa 2) 9 (hm 2), (qm 3, .inr (4, [.ref (qa 3), .int (hp 3), .int (hv 3), .int (hf 3)])), aI E (qa 3) 9 (hm 3), (qm 4, .inr (4, [.ref (qa 4), .int (hp 4), .int (hv 4), .int (hf 4)])), aI E (qa 4) 9 (hm 4), (qm 5, .inr (4, [.ref (qa 5), .int (hp 5), .int (hv 5), .int (hf 5)])), aI E (qa 5) 9 (hm 5), (qm 6, .inr (4, [.ref (qa 6), .int (hp 6), .int (hv 6), .int (hf 6)])), aI E (qa 6) 9 (hm 6), (qm 7, .inr (4, [.ref (qa 7), .int (hp 7), .int (hv 7), .int (hf 7)])), aI E (qa 7) 9 (hm 7), (qm 8, .inr (4, [.ref (qa 8), .int (hp 8), .int (hv 8), .int (hf 8)])), aI E (qa 8) 9 (hm 8), (qm 9, .inr (4, [.ref (qa 9), .int (hp 9), .int (hv 9), .int (hf 9)])), aI E (qa 9) 9 (hm 9), (o, .inr (4, [.ref om, .int pl, .int vg, .int fp])), aI E om 9 ma]) C kwX2 tyX2 tyX2_ok nmX2 0 rfl rfl 2 (by decide) kfX2_18 rfl rfl rfl (Nat.le_of_ble_eq_true rfl) rfl dX2_restore_22 ?_
      refine g_aload_n C dX2_restore_25 rfl ?_
      refine g_aload_n C dX2_restore_26 rfl ?_
      refine g_get C kwX2 0 rfl rfl 0 (by decide) kfX2_11 rfl dX2_restore_27 ?_
      refine g_aload_n C dX2_restore_30 rfl ?_
      refine g_get C kwX2 0 rfl rfl 2 (by decide) kfX2_18 rfl dX2_restore_31 ?_
      refine g_aald (b := qm 4) C 1 4 rfl (rfl) (by decide) (by decide) (hpf 4 (by decide)) dX2_restore_34 ?_
      refine g_callV C (c_X4_copy k.l E o om pl vg fp ma (qm 4) (qa 4) (hp 4) (hv 4) (hf 4) (hm 4)) kmX2_22 kiX4_copy ksX4_copy knX4 kcX4_copy ⟨rfl, rfl⟩ ⟨rfl, kdX4_copy⟩ ⟨by decide, by decide⟩ ⟨by decide, by decide⟩ [22, 23, 10, 11] [0, 1, 2, 3, 4, 5, 6, 7, 8, 9, 12, 13, 14, 15, 16, 17, 18, 19, 20, 21] rfl (wr := [(h, .inr (2, [.ref pa, .int (nI (kn + 1)), .int (nI ((5 + 9) % 10))])), aM E pa 10 pf, (qm 0, .inr (4, [.ref (qa 0), .int (hp 0), .int (hv 0), .int (hf 0)])), aI E (qa 0) 9 (hm 0), (qm 1, .inr (4, [.ref (qa 1), .int (hp 1), .int (hv 1), .int (hf 1)])), aI E (qa 1) 9 (hm 1), (qm 2, .inr (4, [.ref (qa 2), .int (hp 2), .int (hv 2), .int (hf 2)])), aI E (qa 2) 9 (hm 2), (qm 3, .inr (4, [.ref (qa 3), .int (hp 3), .int (hv 3), .int (hf 3)])), aI E (qa 3) 9 (hm 3), (qm 5, .inr (4, [.ref (qa 5), .int (hp 5), .int (hv 5), .int (hf 5)])), aI E (qa 5) 9 (hm 5), (qm 6, .inr (4, [.ref (qa 6), .int (hp 6), .int (hv 6), .int (hf 6)])), aI E (qa 6) 9 (hm 6), (qm 7, .inr (4, [.ref (qa 7), .int (hp 7), .int (hv 7), .int (hf 7)])), aI E (qa 7) 9 (hm 7), (qm 8, .inr (4, [.ref (qa 8), .int (hp 8), .int (hv 8), .int (hf 8)])), aI E (qa 8) 9 (hm 8), (qm 9, .inr (4, [.ref (qa 9), .int (hp 9), .int (hv 9), .int (hf 9)])), aI E (qa 9) 9 (hm 9)]) rfl rfl rfl (by decide) 22 4 rfl rfl rfl (As := [.ref (qm 4)]) (rest := []) rfl (Nat.le_of_ble_eq_true rfl) dX2_restore_35 (fun rv_ rw_ hp_ => ?_)
      obtain ⟨rfl, rfl⟩ := hp_
      refine g_rep [0, 1, 2, 3, 4, 5, 6, 7, 8, 9, 22, 23, 10, 11, 12, 13, 14, 15, 16, 17, 18, 19, 20, 21] (ws' := [(h, .inr (2, [.ref pa, .int (nI (kn + 1)), .int (nI ((5 + 9) % 10))])), aM E pa 10 pf, (qm 0, .inr (4, [.ref (qa 0), .int (hp 0), .int (hv 0), .int (hf 0)])), aI E (qa 0) 9 (hm 0), (qm 1, .inr (4, [.ref (qa 1), .int (hp 1), .int (hv 1), .int (hf 1)])), aI E (qa 1) 9 (hm 1), (qm 2, .inr (4, [.ref (qa 2), .int (hp 2), .int (hv 2), .int (hf 2)])), aI E (qa 2) 9 (hm 2), (qm 3, .inr (4, [.ref (qa 3), .int (hp 3), .int (hv 3), .int (hf 3)])), aI E (qa 3) 9 (hm 3), (qm 4, .inr (4, [.ref (qa 4), .int (hp 4), .int (hv 4), .int (hf 4)])), aI E (qa 4) 9 (hm 4), (qm 5, .inr (4, [.ref (qa 5), .int (hp 5), .int (hv 5), .int (hf 5)])), aI E (qa 5) 9 (hm 5), (qm 6, .inr (4, [.ref (qa 6), .int (hp 6), .int (hv 6), .int (hf 6)])), aI E (qa 6) 9 (hm 6), (qm 7, .inr (4, [.ref (qa 7), .int (hp 7), .int (hv 7), .int (hf 7)])), aI E (qa 7) 9 (hm 7), (qm 8, .inr (4, [.ref (qa 8), .int (hp 8), .int (hv 8), .int (hf 8)])), aI E (qa 8) 9 (hm 8), (qm 9, .inr (4, [.ref (qa 9), .int (hp 9), .int (hv 9), .int (hf 9)])), aI E (qa 9) 9 (hm 9), (o, .inr (4, [.ref om, .int (hp 4), .int (hv 4), .int (hf 4)])), aI E om 9 (va_cpy (hm 4) ma 0 0 9)]) (st' := []) (n' := 0) (z' := 0) (pc' := 38) rfl rfl rfl rfl rfl rfl ?_
      refine g_aload_n C dX2_restore_38 rfl ?_
      refine g_dup C dX2_restore_39 rfl ?_
      refine g_get C kwX2 0 rfl rfl 1 (by decide) kfX2_26 rfl dX2_restore_40 ?_
      refine g_iconst (v := 1) C dX2_restore_43 (by decide) ?_
      refine g_isub C dX2_restore_44 ?_
      refine g_topi (v := nI kn) (nx_pred kn) ?_
      refine g_put (ws' := [(h, .inr (2, [.ref pa, .int (nI kn), .int (nI ((5 + 9) % 10))])), aM E pa 10 pf, (qm 0, .inr (4, [.ref (qa 0), .int (hp 0), .int (hv 0), .int (hf 0)])), aI E (qa 0) 9 (hm 0), (qm 1, .inr (4, [.ref (qa 1), .int (hp 1), .int (hv 1), .int (hf 1)])), aI E (qa 1) 9 (hm 1), (qm 2, .inr (4, [.ref (qa 2), .int (hp 2), .int (hv 2), .int (hf 2)])), aI E (qa 2) 9 (hm 2), (qm 3, .inr (4, [.ref (qa 3), .int (hp 3), .int (hv 3), .int (hf 3)])), aI E (qa 3) 9 (hm 3), (qm 4, .inr (4, [.ref (qa 4), .int (hp 4), .int (hv 4), .int (hf 4)])), aI E (qa 4) 9 (hm 4), (qm 5, .inr (4, [.ref (qa 5), .int (hp 5), .int (hv 5), .int (hf 5)])), aI E (qa 5) 9 (hm 5), (qm 6, .inr (4, [.ref (qa 6), .int (hp 6), .int (hv 6), .int (hf 6)])), aI E (qa 6) 9 (hm 6), (qm 7, .inr (4, [.ref (qa 7), .int (hp 7), .int (hv 7), .int (hf 7)])), aI E (qa 7) 9 (hm 7), (qm 8, .inr (4, [.ref (qa 8), .int (hp 8), .int (hv 8), .int (hf 8)])), aI E (qa 8) 9 (hm 8), (qm 9, .inr (4, [.ref (qa 9), .int (hp 9), .int (hv 9), .int (hf 9)])), aI E (qa 9) 9 (hm 9), (o, .inr (4, [.ref om, .int (hp 4), .int (hv 4), .int (hf 4)])), aI E om 9 (va_cpy (hm 4) ma 0 0 9)]) C kwX2 tyX2 tyX2_ok nmX2 0 rfl rfl 1 (by decide) kfX2_26 rfl rfl rfl (Nat.le_of_ble_eq_true rfl) rfl dX2_restore_45 ?_
      refine g_iconst (v := 1) C dX2_restore_48 (by decide) ?_
      exact g_zret C hR (by first | exact Or.inl rfl | exact Or.inr rfl | exact bI01 _) (⟨rfl, rfl⟩) dX2_restore_49
    · skip
      exact absurd c4 (by rw [nI_succ]; exact nx_succ_ne (by omega))
  · skip
    show G k E 0 0 0 [some (.ref h), some (.ref o)] [] [(h, .inr (2, [.ref pa, .int (nI (kn + 1)), .int (nI 6)])), aM E pa 10 pf, (qm 0, .inr (4, [.ref (qa 0), .int (hp 0), .int (hv 0), .int (hf 0)])), aI E (qa 0) 9 (hm 0), (qm 1, .inr (4, [.ref (qa 1), .int (hp 1), .int (hv 1), .int (hf 1)])), aI E (qa 1) 9 (hm 1), (qm 2, .inr (4, [.ref (qa 2), .int (hp 2), .int (hv 2), .int (hf 2)])), aI E (qa 2) 9 (hm 2), (qm 3, .inr (4, [.ref (qa 3), .int (hp 3), .int (hv 3), .int (hf 3)])), aI E (qa 3) 9 (hm 3), (qm 4, .inr (4, [.ref (qa 4), .int (hp 4), .int (hv 4), .int (hf 4)])), aI E (qa 4) 9 (hm 4), (qm 5, .inr (4, [.ref (qa 5), .int (hp 5), .int (hv 5), .int (hf 5)])), aI E (qa 5) 9 (hm 5), (qm 6, .inr (4, [.ref (qa 6), .int (hp 6), .int (hv 6), .int (hf 6)])), aI E (qa 6) 9 (hm 6), (qm 7, .inr (4, [.ref (qa 7), .int (hp 7), .int (hv 7), .int (hf 7)])), aI E (qa 7) 9 (hm 7), (qm 8, .inr (4, [.ref (qa 8), .int (hp 8), .int (hv 8), .int (hf 8)])), aI E (qa 8) 9 (hm 8), (qm 9, .inr (4, [.ref (qa 9), .int (hp 9), .int (hv 9), .int (hf 9)])), aI E (qa 9) 9 (hm 9), (o, .inr (4, [.ref om, .int pl, .int vg, .int fp])), aI E om 9 ma]
    refine g_aload_n C dX2_restore_0 rfl ?_
    refine g_get C kwX2 0 rfl rfl 1 (by decide) kfX2_26 rfl dX2_restore_1 ?_
    refine g_if_ne (tgt := 9) C dX2_restore_4 (by decide) (fun c4 => ?_) (fun c4 => ?_)
    · skip
      refine g_aload_n C dX2_restore_9 rfl ?_
      refine g_aload_n C dX2_restore_10 rfl ?_
      refine g_get C kwX2 0 rfl rfl 2 (by decide) kfX2_18 rfl dX2_restore_11 ?_
      refine g_bipush (v := 10) C dX2_restore_14 (by decide) ?_
      refine g_iadd C dX2_restore_16 ?_
      refine g_iconst (v := 1) C dX2_restore_17 (by decide) ?_
      refine g_isub C dX2_restore_18 ?_
      refine g_bipush (v := 10) C dX2_restore_19 (by decide) ?_
      refine g_irem C dX2_restore_21 (by decide) ?_
      refine g_topi (v := nI ((6 + 9) % 10)) (by decide) ?_
      refine g_put (ws' := [(h, .inr (2, [.ref pa, .int (nI (kn + 1)), .int (nI ((6 + 9) % 10))])), aM E pa 10 pf, (qm 0, .inr (4, [.ref (qa 0), .int (hp 0), .int (hv 0), .int (hf 0)])), aI E (qa 0) 9 (hm 0), (qm 1, .inr (4, [.ref (qa 1), .int (hp 1), .int (hv 1), .int (hf 1)])), aI E (qa 1) 9 (hm 1), (qm 2, .inr (4, [.ref (qa 2), .int (hp 2), .int (hv 2), .int (hf 2)])), aI E (qa 2) 9 (hm 2), (qm 3, .inr (4, [.ref (qa 3), .int (hp 3), .int (hv 3), .int (hf 3)])), aI E (qa 3) 9 (hm 3), (qm 4, .inr (4, [.ref (qa 4), .int (hp 4), .int (hv 4), .int (hf 4)])), aI E (qa 4) 9 (hm 4), (qm 5, .inr (4, [.ref (qa 5), .int (hp 5), .int (hv 5), .int (hf 5)])), aI E (qa 5) 9 (hm 5), (qm 6, .inr (4, [.ref (qa 6), .int (hp 6), .int (hv 6), .int (hf 6)])), aI E (qa 6) 9 (hm 6), (qm 7, .inr (4, [.ref (qa 7), .int (hp 7), .int (hv 7), .int (hf 7)])), aI E (qa 7) 9 (hm 7), (qm 8, .inr (4, [.ref (qa 8), .int (hp 8), .int (hv 8), .int (hf 8)])), aI E (qa 8) 9 (hm 8), (qm 9, .inr (4, [.ref (qa 9), .int (hp 9), .int (hv 9), .int (hf 9)])), aI E (qa 9) 9 (hm 9), (o, .inr (4, [.ref om, .int pl, .int vg, .int fp])), aI E om 9 ma]) C kwX2 tyX2 tyX2_ok nmX2 0 rfl rfl 2 (by decide) kfX2_18 rfl rfl rfl (Nat.le_of_ble_eq_true rfl) rfl dX2_restore_22 ?_
      refine g_aload_n C dX2_restore_25 rfl ?_
      refine g_aload_n C dX2_restore_26 rfl ?_
      refine g_get C kwX2 0 rfl rfl 0 (by decide) kfX2_11 rfl dX2_restore_27 ?_
      refine g_aload_n C dX2_restore_30 rfl ?_
      refine g_get C kwX2 0 rfl rfl 2 (by decide) kfX2_18 rfl dX2_restore_31 ?_
      refine g_aald (b := qm 5) C 1 5 rfl (rfl) (by decide) (by decide) (hpf 5 (by decide)) dX2_restore_34 ?_
      refine g_callV C (c_X4_copy k.l E o om pl vg fp ma (qm 5) (qa 5) (hp 5) (hv 5) (hf 5) (hm 5)) kmX2_22 kiX4_copy ksX4_copy knX4 kcX4_copy ⟨rfl, rfl⟩ ⟨rfl, kdX4_copy⟩ ⟨by decide, by decide⟩ ⟨by decide, by decide⟩ [22, 23, 12, 13] [0, 1, 2, 3, 4, 5, 6, 7, 8, 9, 10, 11, 14, 15, 16, 17, 18, 19, 20, 21] rfl (wr := [(h, .inr (2, [.ref pa, .int (nI (kn + 1)), .int (nI ((6 + 9) % 10))])), aM E pa 10 pf, (qm 0, .inr (4, [.ref (qa 0), .int (hp 0), .int (hv 0), .int (hf 0)])), aI E (qa 0) 9 (hm 0), (qm 1, .inr (4, [.ref (qa 1), .int (hp 1), .int (hv 1), .int (hf 1)])), aI E (qa 1) 9 (hm 1), (qm 2, .inr (4, [.ref (qa 2), .int (hp 2), .int (hv 2), .int (hf 2)])), aI E (qa 2) 9 (hm 2), (qm 3, .inr (4, [.ref (qa 3), .int (hp 3), .int (hv 3), .int (hf 3)])), aI E (qa 3) 9 (hm 3), (qm 4, .inr (4, [.ref (qa 4), .int (hp 4), .int (hv 4), .int (hf 4)])), aI E (qa 4) 9 (hm 4), (qm 6, .inr (4, [.ref (qa 6), .int (hp 6), .int (hv 6), .int (hf 6)])), aI E (qa 6) 9 (hm 6), (qm 7, .inr (4, [.ref (qa 7), .int (hp 7), .int (hv 7), .int (hf 7)])), aI E (qa 7) 9 (hm 7), (qm 8, .inr (4, [.ref (qa 8), .int (hp 8), .int (hv 8), .int (hf 8)])), aI E (qa 8) 9 (hm 8), (qm 9, .inr (4, [.ref (qa 9), .int (hp 9), .int (hv 9), .int (hf 9)])), aI E (qa 9) 9 (hm 9)]) rfl rfl rfl (by decide) 22 4 rfl rfl rfl (As := [.ref (qm 5)]) (rest := []) rfl (Nat.le_of_ble_eq_true rfl) dX2_restore_35 (fun rv_ rw_ hp_ => ?_)
      obtain ⟨rfl, rfl⟩ := hp_
      refine g_rep [0, 1, 2, 3, 4, 5, 6, 7, 8, 9, 10, 11, 22, 23, 12, 13, 14, 15, 16, 17, 18, 19, 20, 21] (ws' := [(h, .inr (2, [.ref pa, .int (nI (kn + 1)), .int (nI ((6 + 9) % 10))])), aM E pa 10 pf, (qm 0, .inr (4, [.ref (qa 0), .int (hp 0), .int (hv 0), .int (hf 0)])), aI E (qa 0) 9 (hm 0), (qm 1, .inr (4, [.ref (qa 1), .int (hp 1), .int (hv 1), .int (hf 1)])), aI E (qa 1) 9 (hm 1), (qm 2, .inr (4, [.ref (qa 2), .int (hp 2), .int (hv 2), .int (hf 2)])), aI E (qa 2) 9 (hm 2), (qm 3, .inr (4, [.ref (qa 3), .int (hp 3), .int (hv 3), .int (hf 3)])), aI E (qa 3) 9 (hm 3), (qm 4, .inr (4, [.ref (qa 4), .int (hp 4), .int (hv 4), .int (hf 4)])), aI E (qa 4) 9 (hm 4), (qm 5, .inr (4, [.ref (qa 5), .int (hp 5), .int (hv 5), .int (hf 5)])), aI E (qa 5) 9 (hm 5), (qm 6, .inr (4, [.ref (qa 6), .int (hp 6), .int (hv 6), .int (hf 6)])), aI E (qa 6) 9 (hm 6), (qm 7, .inr (4, [.ref (qa 7), .int (hp 7), .int (hv 7), .int (hf 7)])), aI E (qa 7) 9 (hm 7), (qm 8, .inr (4, [.ref (qa 8), .int (hp 8), .int (hv 8), .int (hf 8)])), aI E (qa 8) 9 (hm 8), (qm 9, .inr (4, [.ref (qa 9), .int (hp 9), .int (hv 9), .int (hf 9)])), aI E (qa 9) 9 (hm 9), (o, .inr (4, [.ref om, .int (hp 5), .int (hv 5), .int (hf 5)])), aI E om 9 (va_cpy (hm 5) ma 0 0 9)]) (st' := []) (n' := 0) (z' := 0) (pc' := 38) rfl rfl rfl rfl rfl rfl ?_
      refine g_aload_n C dX2_restore_38 rfl ?_
      refine g_dup C dX2_restore_39 rfl ?_
      refine g_get C kwX2 0 rfl rfl 1 (by decide) kfX2_26 rfl dX2_restore_40 ?_
      refine g_iconst (v := 1) C dX2_restore_43 (by decide) ?_
      refine g_isub C dX2_restore_44 ?_
      refine g_topi (v := nI kn) (nx_pred kn) ?_
      refine g_put (ws' := [(h, .inr (2, [.ref pa, .int (nI kn), .int (nI ((6 + 9) % 10))])), aM E pa 10 pf, (qm 0, .inr (4, [.ref (qa 0), .int (hp 0), .int (hv 0), .int (hf 0)])), aI E (qa 0) 9 (hm 0), (qm 1, .inr (4, [.ref (qa 1), .int (hp 1), .int (hv 1), .int (hf 1)])), aI E (qa 1) 9 (hm 1), (qm 2, .inr (4, [.ref (qa 2), .int (hp 2), .int (hv 2), .int (hf 2)])), aI E (qa 2) 9 (hm 2), (qm 3, .inr (4, [.ref (qa 3), .int (hp 3), .int (hv 3), .int (hf 3)])), aI E (qa 3) 9 (hm 3), (qm 4, .inr (4, [.ref (qa 4), .int (hp 4), .int (hv 4), .int (hf 4)])), aI E (qa 4) 9 (hm 4), (qm 5, .inr (4, [.ref (qa 5), .int (hp 5), .int (hv 5), .int (hf 5)])), aI E (qa 5) 9 (hm 5), (qm 6, .inr (4, [.ref (qa 6), .int (hp 6), .int (hv 6), .int (hf 6)])), aI E (qa 6) 9 (hm 6), (qm 7, .inr (4, [.ref (qa 7), .int (hp 7), .int (hv 7), .int (hf 7)])), aI E (qa 7) 9 (hm 7), (qm 8, .inr (4, [.ref (qa 8), .int (hp 8), .int (hv 8), .int (hf 8)])), aI E (qa 8) 9 (hm 8), (qm 9, .inr (4, [.ref (qa 9), .int (hp 9), .int (hv 9), .int (hf 9)])), aI E (qa 9) 9 (hm 9), (o, .inr (4, [.ref om, .int (hp 5), .int (hv 5), .int (hf 5)])), aI E om 9 (va_cpy (hm 5) ma 0 0 9)]) C kwX2 tyX2 tyX2_ok nmX2 0 rfl rfl 1 (by decide) kfX2_26 rfl rfl rfl (Nat.le_of_ble_eq_true rfl) rfl dX2_restore_45 ?_
      refine g_iconst (v := 1) C dX2_restore_48 (by decide) ?_
      exact g_zret C hR (by first | exact Or.inl rfl | exact Or.inr rfl | exact bI01 _) (⟨rfl, rfl⟩) dX2_restore_49
    · skip
      exact absurd c4 (by rw [nI_succ]; exact nx_succ_ne (by omega))
  · skip
    show G k E 0 0 0 [some (.ref h), some (.ref o)] [] [(h, .inr (2, [.ref pa, .int (nI (kn + 1)), .int (nI 7)])), aM E pa 10 pf, (qm 0, .inr (4, [.ref (qa 0), .int (hp 0), .int (hv 0), .int (hf 0)])), aI E (qa 0) 9 (hm 0), (qm 1, .inr (4, [.ref (qa 1), .int (hp 1), .int (hv 1), .int (hf 1)])), aI E (qa 1) 9 (hm 1), (qm 2, .inr (4, [.ref (qa 2), .int (hp 2), .int (hv 2), .int (hf 2)])), aI E (qa 2) 9 (hm 2), (qm 3, .inr (4, [.ref (qa 3), .int (hp 3), .int (hv 3), .int (hf 3)])), aI E (qa 3) 9 (hm 3), (qm 4, .inr (4, [.ref (qa 4), .int (hp 4), .int (hv 4), .int (hf 4)])), aI E (qa 4) 9 (hm 4), (qm 5, .inr (4, [.ref (qa 5), .int (hp 5), .int (hv 5), .int (hf 5)])), aI E (qa 5) 9 (hm 5), (qm 6, .inr (4, [.ref (qa 6), .int (hp 6), .int (hv 6), .int (hf 6)])), aI E (qa 6) 9 (hm 6), (qm 7, .inr (4, [.ref (qa 7), .int (hp 7), .int (hv 7), .int (hf 7)])), aI E (qa 7) 9 (hm 7), (qm 8, .inr (4, [.ref (qa 8), .int (hp 8), .int (hv 8), .int (hf 8)])), aI E (qa 8) 9 (hm 8), (qm 9, .inr (4, [.ref (qa 9), .int (hp 9), .int (hv 9), .int (hf 9)])), aI E (qa 9) 9 (hm 9), (o, .inr (4, [.ref om, .int pl, .int vg, .int fp])), aI E om 9 ma]
    refine g_aload_n C dX2_restore_0 rfl ?_
    refine g_get C kwX2 0 rfl rfl 1 (by decide) kfX2_26 rfl dX2_restore_1 ?_
    refine g_if_ne (tgt := 9) C dX2_restore_4 (by decide) (fun c4 => ?_) (fun c4 => ?_)
    · skip
      refine g_aload_n C dX2_restore_9 rfl ?_
      refine g_aload_n C dX2_restore_10 rfl ?_
      refine g_get C kwX2 0 rfl rfl 2 (by decide) kfX2_18 rfl dX2_restore_11 ?_
      refine g_bipush (v := 10) C dX2_restore_14 (by decide) ?_
      refine g_iadd C dX2_restore_16 ?_
      refine g_iconst (v := 1) C dX2_restore_17 (by decide) ?_
      refine g_isub C dX2_restore_18 ?_
      refine g_bipush (v := 10) C dX2_restore_19 (by decide) ?_
      refine g_irem C dX2_restore_21 (by decide) ?_
      refine g_topi (v := nI ((7 + 9) % 10)) (by decide) ?_
      refine g_put (ws' := [(h, .inr (2, [.ref pa, .int (nI (kn + 1)), .int (nI ((7 + 9) % 10))])), aM E pa 10 pf, (qm 0, .inr (4, [.ref (qa 0), .int (hp 0), .int (hv 0), .int (hf 0)])), aI E (qa 0) 9 (hm 0), (qm 1, .inr (4, [.ref (qa 1), .int (hp 1), .int (hv 1), .int (hf 1)])), aI E (qa 1) 9 (hm 1), (qm 2, .inr (4, [.ref (qa 2), .int (hp 2), .int (hv 2), .int (hf 2)])), aI E (qa 2) 9 (hm 2), (qm 3, .inr (4, [.ref (qa 3), .int (hp 3), .int (hv 3), .int (hf 3)])), aI E (qa 3) 9 (hm 3), (qm 4, .inr (4, [.ref (qa 4), .int (hp 4), .int (hv 4), .int (hf 4)])), aI E (qa 4) 9 (hm 4), (qm 5, .inr (4, [.ref (qa 5), .int (hp 5), .int (hv 5), .int (hf 5)])), aI E (qa 5) 9 (hm 5), (qm 6, .inr (4, [.ref (qa 6), .int (hp 6), .int (hv 6), .int (hf 6)])), aI E (qa 6) 9 (hm 6), (qm 7, .inr (4, [.ref (qa 7), .int (hp 7), .int (hv 7), .int (hf 7)])), aI E (qa 7) 9 (hm 7), (qm 8, .inr (4, [.ref (qa 8), .int (hp 8), .int (hv 8), .int (hf 8)])), aI E (qa 8) 9 (hm 8), (qm 9, .inr (4, [.ref (qa 9), .int (hp 9), .int (hv 9), .int (hf 9)])), aI E (qa 9) 9 (hm 9), (o, .inr (4, [.ref om, .int pl, .int vg, .int fp])), aI E om 9 ma]) C kwX2 tyX2 tyX2_ok nmX2 0 rfl rfl 2 (by decide) kfX2_18 rfl rfl rfl (Nat.le_of_ble_eq_true rfl) rfl dX2_restore_22 ?_
      refine g_aload_n C dX2_restore_25 rfl ?_
      refine g_aload_n C dX2_restore_26 rfl ?_
      refine g_get C kwX2 0 rfl rfl 0 (by decide) kfX2_11 rfl dX2_restore_27 ?_
      refine g_aload_n C dX2_restore_30 rfl ?_
      refine g_get C kwX2 0 rfl rfl 2 (by decide) kfX2_18 rfl dX2_restore_31 ?_
      refine g_aald (b := qm 6) C 1 6 rfl (rfl) (by decide) (by decide) (hpf 6 (by decide)) dX2_restore_34 ?_
      refine g_callV C (c_X4_copy k.l E o om pl vg fp ma (qm 6) (qa 6) (hp 6) (hv 6) (hf 6) (hm 6)) kmX2_22 kiX4_copy ksX4_copy knX4 kcX4_copy ⟨rfl, rfl⟩ ⟨rfl, kdX4_copy⟩ ⟨by decide, by decide⟩ ⟨by decide, by decide⟩ [22, 23, 14, 15] [0, 1, 2, 3, 4, 5, 6, 7, 8, 9, 10, 11, 12, 13, 16, 17, 18, 19, 20, 21] rfl (wr := [(h, .inr (2, [.ref pa, .int (nI (kn + 1)), .int (nI ((7 + 9) % 10))])), aM E pa 10 pf, (qm 0, .inr (4, [.ref (qa 0), .int (hp 0), .int (hv 0), .int (hf 0)])), aI E (qa 0) 9 (hm 0), (qm 1, .inr (4, [.ref (qa 1), .int (hp 1), .int (hv 1), .int (hf 1)])), aI E (qa 1) 9 (hm 1), (qm 2, .inr (4, [.ref (qa 2), .int (hp 2), .int (hv 2), .int (hf 2)])), aI E (qa 2) 9 (hm 2), (qm 3, .inr (4, [.ref (qa 3), .int (hp 3), .int (hv 3), .int (hf 3)])), aI E (qa 3) 9 (hm 3), (qm 4, .inr (4, [.ref (qa 4), .int (hp 4), .int (hv 4), .int (hf 4)])), aI E (qa 4) 9 (hm 4), (qm 5, .inr (4, [.ref (qa 5), .int (hp 5), .int (hv 5), .int (hf 5)])), aI E (qa 5) 9 (hm 5), (qm 7, .inr (4, [.ref (qa 7), .int (hp 7), .int (hv 7), .int (hf 7)])), aI E (qa 7) 9 (hm 7), (qm 8, .inr (4, [.ref (qa 8), .int (hp 8), .int (hv 8), .int (hf 8)])), aI E (qa 8) 9 (hm 8), (qm 9, .inr (4, [.ref (qa 9), .int (hp 9), .int (hv 9), .int (hf 9)])), aI E (qa 9) 9 (hm 9)]) rfl rfl rfl (by decide) 22 4 rfl rfl rfl (As := [.ref (qm 6)]) (rest := []) rfl (Nat.le_of_ble_eq_true rfl) dX2_restore_35 (fun rv_ rw_ hp_ => ?_)
      obtain ⟨rfl, rfl⟩ := hp_
      refine g_rep [0, 1, 2, 3, 4, 5, 6, 7, 8, 9, 10, 11, 12, 13, 22, 23, 14, 15, 16, 17, 18, 19, 20, 21] (ws' := [(h, .inr (2, [.ref pa, .int (nI (kn + 1)), .int (nI ((7 + 9) % 10))])), aM E pa 10 pf, (qm 0, .inr (4, [.ref (qa 0), .int (hp 0), .int (hv 0), .int (hf 0)])), aI E (qa 0) 9 (hm 0), (qm 1, .inr (4, [.ref (qa 1), .int (hp 1), .int (hv 1), .int (hf 1)])), aI E (qa 1) 9 (hm 1), (qm 2, .inr (4, [.ref (qa 2), .int (hp 2), .int (hv 2), .int (hf 2)])), aI E (qa 2) 9 (hm 2), (qm 3, .inr (4, [.ref (qa 3), .int (hp 3), .int (hv 3), .int (hf 3)])), aI E (qa 3) 9 (hm 3), (qm 4, .inr (4, [.ref (qa 4), .int (hp 4), .int (hv 4), .int (hf 4)])), aI E (qa 4) 9 (hm 4), (qm 5, .inr (4, [.ref (qa 5), .int (hp 5), .int (hv 5), .int (hf 5)])), aI E (qa 5) 9 (hm 5), (qm 6, .inr (4, [.ref (qa 6), .int (hp 6), .int (hv 6), .int (hf 6)])), aI E (qa 6) 9 (hm 6), (qm 7, .inr (4, [.ref (qa 7), .int (hp 7), .int (hv 7), .int (hf 7)])), aI E (qa 7) 9 (hm 7), (qm 8, .inr (4, [.ref (qa 8), .int (hp 8), .int (hv 8), .int (hf 8)])), aI E (qa 8) 9 (hm 8), (qm 9, .inr (4, [.ref (qa 9), .int (hp 9), .int (hv 9), .int (hf 9)])), aI E (qa 9) 9 (hm 9), (o, .inr (4, [.ref om, .int (hp 6), .int (hv 6), .int (hf 6)])), aI E om 9 (va_cpy (hm 6) ma 0 0 9)]) (st' := []) (n' := 0) (z' := 0) (pc' := 38) rfl rfl rfl rfl rfl rfl ?_
      refine g_aload_n C dX2_restore_38 rfl ?_
      refine g_dup C dX2_restore_39 rfl ?_
      refine g_get C kwX2 0 rfl rfl 1 (by decide) kfX2_26 rfl dX2_restore_40 ?_
      refine g_iconst (v := 1) C dX2_restore_43 (by decide) ?_
      refine g_isub C dX2_restore_44 ?_
      refine g_topi (v := nI kn) (nx_pred kn) ?_
      refine g_put (ws' := [(h, .inr (2, [.ref pa, .int (nI kn), .int (nI ((7 + 9) % 10))])), aM E pa 10 pf, (qm 0, .inr (4, [.ref (qa 0), .int (hp 0), .int (hv 0), .int (hf 0)])), aI E (qa 0) 9 (hm 0), (qm 1, .inr (4, [.ref (qa 1), .int (hp 1), .int (hv 1), .int (hf 1)])), aI E (qa 1) 9 (hm 1), (qm 2, .inr (4, [.ref (qa 2), .int (hp 2), .int (hv 2), .int (hf 2)])), aI E (qa 2) 9 (hm 2), (qm 3, .inr (4, [.ref (qa 3), .int (hp 3), .int (hv 3), .int (hf 3)])), aI E (qa 3) 9 (hm 3), (qm 4, .inr (4, [.ref (qa 4), .int (hp 4), .int (hv 4), .int (hf 4)])), aI E (qa 4) 9 (hm 4), (qm 5, .inr (4, [.ref (qa 5), .int (hp 5), .int (hv 5), .int (hf 5)])), aI E (qa 5) 9 (hm 5), (qm 6, .inr (4, [.ref (qa 6), .int (hp 6), .int (hv 6), .int (hf 6)])), aI E (qa 6) 9 (hm 6), (qm 7, .inr (4, [.ref (qa 7), .int (hp 7), .int (hv 7), .int (hf 7)])), aI E (qa 7) 9 (hm 7), (qm 8, .inr (4, [.ref (qa 8), .int (hp 8), .int (hv 8), .int (hf 8)])), aI E (qa 8) 9 (hm 8), (qm 9, .inr (4, [.ref (qa 9), .int (hp 9), .int (hv 9), .int (hf 9)])), aI E (qa 9) 9 (hm 9), (o, .inr (4, [.ref om, .int (hp 6), .int (hv 6), .int (hf 6)])), aI E om 9 (va_cpy (hm 6) ma 0 0 9)]) C kwX2 tyX2 tyX2_ok nmX2 0 rfl rfl 1 (by decide) kfX2_26 rfl rfl rfl (Nat.le_of_ble_eq_true rfl) rfl dX2_restore_45 ?_
      refine g_iconst (v := 1) C dX2_restore_48 (by decide) ?_
      exact g_zret C hR (by first | exact Or.inl rfl | exact Or.inr rfl | exact bI01 _) (⟨rfl, rfl⟩) dX2_restore_49
    · skip
      exact absurd c4 (by rw [nI_succ]; exact nx_succ_ne (by omega))
  · skip
    show G k E 0 0 0 [some (.ref h), some (.ref o)] [] [(h, .inr (2, [.ref pa, .int (nI (kn + 1)), .int (nI 8)])), aM E pa 10 pf, (qm 0, .inr (4, [.ref (qa 0), .int (hp 0), .int (hv 0), .int (hf 0)])), aI E (qa 0) 9 (hm 0), (qm 1, .inr (4, [.ref (qa 1), .int (hp 1), .int (hv 1), .int (hf 1)])), aI E (qa 1) 9 (hm 1), (qm 2, .inr (4, [.ref (qa 2), .int (hp 2), .int (hv 2), .int (hf 2)])), aI E (qa 2) 9 (hm 2), (qm 3, .inr (4, [.ref (qa 3), .int (hp 3), .int (hv 3), .int (hf 3)])), aI E (qa 3) 9 (hm 3), (qm 4, .inr (4, [.ref (qa 4), .int (hp 4), .int (hv 4), .int (hf 4)])), aI E (qa 4) 9 (hm 4), (qm 5, .inr (4, [.ref (qa 5), .int (hp 5), .int (hv 5), .int (hf 5)])), aI E (qa 5) 9 (hm 5), (qm 6, .inr (4, [.ref (qa 6), .int (hp 6), .int (hv 6), .int (hf 6)])), aI E (qa 6) 9 (hm 6), (qm 7, .inr (4, [.ref (qa 7), .int (hp 7), .int (hv 7), .int (hf 7)])), aI E (qa 7) 9 (hm 7), (qm 8, .inr (4, [.ref (qa 8), .int (hp 8), .int (hv 8), .int (hf 8)])), aI E (qa 8) 9 (hm 8), (qm 9, .inr (4, [.ref (qa 9), .int (hp 9), .int (hv 9), .int (hf 9)])), aI E (qa 9) 9 (hm 9), (o, .inr (4, [.ref om, .int pl, .int vg, .int fp])), aI E om 9 ma]
    refine g_aload_n C dX2_restore_0 rfl ?_
    refine g_get C kwX2 0 rfl rfl 1 (by decide) kfX2_26 rfl dX2_restore_1 ?_
    refine g_if_ne (tgt := 9) C dX2_restore_4 (by decide) (fun c4 => ?_) (fun c4 => ?_)
    · skip
      refine g_aload_n C dX2_restore_9 rfl ?_
      refine g_aload_n C dX2_restore_10 rfl ?_
      refine g_get C kwX2 0 rfl rfl 2 (by decide) kfX2_18 rfl dX2_restore_11 ?_
      refine g_bipush (v := 10) C dX2_restore_14 (by decide) ?_
      refine g_iadd C dX2_restore_16 ?_
      refine g_iconst (v := 1) C dX2_restore_17 (by decide) ?_
      refine g_isub C dX2_restore_18 ?_
      refine g_bipush (v := 10) C dX2_restore_19 (by decide) ?_
      refine g_irem C dX2_restore_21 (by decide) ?_
      refine g_topi (v := nI ((8 + 9) % 10)) (by decide) ?_
      refine g_put (ws' := [(h, .inr (2, [.ref pa, .int (nI (kn + 1)), .int (nI ((8 + 9) % 10))])), aM E pa 10 pf, (qm 0, .inr (4, [.ref (qa 0), .int (hp 0), .int (hv 0), .int (hf 0)])), aI E (qa 0) 9 (hm 0), (qm 1, .inr (4, [.ref (qa 1), .int (hp 1), .int (hv 1), .int (hf 1)])), aI E (qa 1) 9 (hm 1), (qm 2, .inr (4, [.ref (qa 2), .int (hp 2), .int (hv 2), .int (hf 2)])), aI E (qa 2) 9 (hm 2), (qm 3, .inr (4, [.ref (qa 3), .int (hp 3), .int (hv 3), .int (hf 3)])), aI E (qa 3) 9 (hm 3), (qm 4, .inr (4, [.ref (qa 4), .int (hp 4), .int (hv 4), .int (hf 4)])), aI E (qa 4) 9 (hm 4), (qm 5, .inr (4, [.ref (qa 5), .int (hp 5), .int (hv 5), .int (hf 5)])), aI E (qa 5) 9 (hm 5), (qm 6, .inr (4, [.ref (qa 6), .int (hp 6), .int (hv 6), .int (hf 6)])), aI E (qa 6) 9 (hm 6), (qm 7, .inr (4, [.ref (qa 7), .int (hp 7), .int (hv 7), .int (hf 7)])), aI E (qa 7) 9 (hm 7), (qm 8, .inr (4, [.ref (qa 8), .int (hp 8), .int (hv 8), .int (hf 8)])), aI E (qa 8) 9 (hm 8), (qm 9, .inr (4, [.ref (qa 9), .int (hp 9), .int (hv 9), .int (hf 9)])), aI E (qa 9) 9 (hm 9), (o, .inr (4, [.ref om, .int pl, .int vg, .int fp])), aI E om 9 ma]) C kwX2 tyX2 tyX2_ok nmX2 0 rfl rfl 2 (by decide) kfX2_18 rfl rfl rfl (Nat.le_of_ble_eq_true rfl) rfl dX2_restore_22 ?_
      refine g_aload_n C dX2_restore_25 rfl ?_
      refine g_aload_n C dX2_restore_26 rfl ?_
      refine g_get C kwX2 0 rfl rfl 0 (by decide) kfX2_11 rfl dX2_restore_27 ?_
      refine g_aload_n C dX2_restore_30 rfl ?_
      refine g_get C kwX2 0 rfl rfl 2 (by decide) kfX2_18 rfl dX2_restore_31 ?_
      refine g_aald (b := qm 7) C 1 7 rfl (rfl) (by decide) (by decide) (hpf 7 (by decide)) dX2_restore_34 ?_
      refine g_callV C (c_X4_copy k.l E o om pl vg fp ma (qm 7) (qa 7) (hp 7) (hv 7) (hf 7) (hm 7)) kmX2_22 kiX4_copy ksX4_copy knX4 kcX4_copy ⟨rfl, rfl⟩ ⟨rfl, kdX4_copy⟩ ⟨by decide, by decide⟩ ⟨by decide, by decide⟩ [22, 23, 16, 17] [0, 1, 2, 3, 4, 5, 6, 7, 8, 9, 10, 11, 12, 13, 14, 15, 18, 19, 20, 21] rfl (wr := [(h, .inr (2, [.ref pa, .int (nI (kn + 1)), .int (nI ((8 + 9) % 10))])), aM E pa 10 pf, (qm 0, .inr (4, [.ref (qa 0), .int (hp 0), .int (hv 0), .int (hf 0)])), aI E (qa 0) 9 (hm 0), (qm 1, .inr (4, [.ref (qa 1), .int (hp 1), .int (hv 1), .int (hf 1)])), aI E (qa 1) 9 (hm 1), (qm 2, .inr (4, [.ref (qa 2), .int (hp 2), .int (hv 2), .int (hf 2)])), aI E (qa 2) 9 (hm 2), (qm 3, .inr (4, [.ref (qa 3), .int (hp 3), .int (hv 3), .int (hf 3)])), aI E (qa 3) 9 (hm 3), (qm 4, .inr (4, [.ref (qa 4), .int (hp 4), .int (hv 4), .int (hf 4)])), aI E (qa 4) 9 (hm 4), (qm 5, .inr (4, [.ref (qa 5), .int (hp 5), .int (hv 5), .int (hf 5)])), aI E (qa 5) 9 (hm 5), (qm 6, .inr (4, [.ref (qa 6), .int (hp 6), .int (hv 6), .int (hf 6)])), aI E (qa 6) 9 (hm 6), (qm 8, .inr (4, [.ref (qa 8), .int (hp 8), .int (hv 8), .int (hf 8)])), aI E (qa 8) 9 (hm 8), (qm 9, .inr (4, [.ref (qa 9), .int (hp 9), .int (hv 9), .int (hf 9)])), aI E (qa 9) 9 (hm 9)]) rfl rfl rfl (by decide) 22 4 rfl rfl rfl (As := [.ref (qm 7)]) (rest := []) rfl (Nat.le_of_ble_eq_true rfl) dX2_restore_35 (fun rv_ rw_ hp_ => ?_)
      obtain ⟨rfl, rfl⟩ := hp_
      refine g_rep [0, 1, 2, 3, 4, 5, 6, 7, 8, 9, 10, 11, 12, 13, 14, 15, 22, 23, 16, 17, 18, 19, 20, 21] (ws' := [(h, .inr (2, [.ref pa, .int (nI (kn + 1)), .int (nI ((8 + 9) % 10))])), aM E pa 10 pf, (qm 0, .inr (4, [.ref (qa 0), .int (hp 0), .int (hv 0), .int (hf 0)])), aI E (qa 0) 9 (hm 0), (qm 1, .inr (4, [.ref (qa 1), .int (hp 1), .int (hv 1), .int (hf 1)])), aI E (qa 1) 9 (hm 1), (qm 2, .inr (4, [.ref (qa 2), .int (hp 2), .int (hv 2), .int (hf 2)])), aI E (qa 2) 9 (hm 2), (qm 3, .inr (4, [.ref (qa 3), .int (hp 3), .int (hv 3), .int (hf 3)])), aI E (qa 3) 9 (hm 3), (qm 4, .inr (4, [.ref (qa 4), .int (hp 4), .int (hv 4), .int (hf 4)])), aI E (qa 4) 9 (hm 4), (qm 5, .inr (4, [.ref (qa 5), .int (hp 5), .int (hv 5), .int (hf 5)])), aI E (qa 5) 9 (hm 5), (qm 6, .inr (4, [.ref (qa 6), .int (hp 6), .int (hv 6), .int (hf 6)])), aI E (qa 6) 9 (hm 6), (qm 7, .inr (4, [.ref (qa 7), .int (hp 7), .int (hv 7), .int (hf 7)])), aI E (qa 7) 9 (hm 7), (qm 8, .inr (4, [.ref (qa 8), .int (hp 8), .int (hv 8), .int (hf 8)])), aI E (qa 8) 9 (hm 8), (qm 9, .inr (4, [.ref (qa 9), .int (hp 9), .int (hv 9), .int (hf 9)])), aI E (qa 9) 9 (hm 9), (o, .inr (4, [.ref om, .int (hp 7), .int (hv 7), .int (hf 7)])), aI E om 9 (va_cpy (hm 7) ma 0 0 9)]) (st' := []) (n' := 0) (z' := 0) (pc' := 38) rfl rfl rfl rfl rfl rfl ?_
      refine g_aload_n C dX2_restore_38 rfl ?_
      refine g_dup C dX2_restore_39 rfl ?_
      refine g_get C kwX2 0 rfl rfl 1 (by decide) kfX2_26 rfl dX2_restore_40 ?_
      refine g_iconst (v := 1) C dX2_restore_43 (by decide) ?_
      refine g_isub C dX2_restore_44 ?_
      refine g_topi (v := nI kn) (nx_pred kn) ?_
      refine g_put (ws' := [(h, .inr (2, [.ref pa, .int (nI kn), .int (nI ((8 + 9) % 10))])), aM E pa 10 pf, (qm 0, .inr (4, [.ref (qa 0), .int (hp 0), .int (hv 0), .int (hf 0)])), aI E (qa 0) 9 (hm 0), (qm 1, .inr (4, [.ref (qa 1), .int (hp 1), .int (hv 1), .int (hf 1)])), aI E (qa 1) 9 (hm 1), (qm 2, .inr (4, [.ref (qa 2), .int (hp 2), .int (hv 2), .int (hf 2)])), aI E (qa 2) 9 (hm 2), (qm 3, .inr (4, [.ref (qa 3), .int (hp 3), .int (hv 3), .int (hf 3)])), aI E (qa 3) 9 (hm 3), (qm 4, .inr (4, [.ref (qa 4), .int (hp 4), .int (hv 4), .int (hf 4)])), aI E (qa 4) 9 (hm 4), (qm 5, .inr (4, [.ref (qa 5), .int (hp 5), .int (hv 5), .int (hf 5)])), aI E (qa 5) 9 (hm 5), (qm 6, .inr (4, [.ref (qa 6), .int (hp 6), .int (hv 6), .int (hf 6)])), aI E (qa 6) 9 (hm 6), (qm 7, .inr (4, [.ref (qa 7), .int (hp 7), .int (hv 7), .int (hf 7)])), aI E (qa 7) 9 (hm 7), (qm 8, .inr (4, [.ref (qa 8), .int (hp 8), .int (hv 8), .int (hf 8)])), aI E (qa 8) 9 (hm 8), (qm 9, .inr (4, [.ref (qa 9), .int (hp 9), .int (hv 9), .int (hf 9)])), aI E (qa 9) 9 (hm 9), (o, .inr (4, [.ref om, .int (hp 7), .int (hv 7), .int (hf 7)])), aI E om 9 (va_cpy (hm 7) ma 0 0 9)]) C kwX2 tyX2 tyX2_ok nmX2 0 rfl rfl 1 (by decide) kfX2_26 rfl rfl rfl (Nat.le_of_ble_eq_true rfl) rfl dX2_restore_45 ?_
      refine g_iconst (v := 1) C dX2_restore_48 (by decide) ?_
      exact g_zret C hR (by first | exact Or.inl rfl | exact Or.inr rfl | exact bI01 _) (⟨rfl, rfl⟩) dX2_restore_49
    · skip
      exact absurd c4 (by rw [nI_succ]; exact nx_succ_ne (by omega))
  · skip
    show G k E 0 0 0 [some (.ref h), some (.ref o)] [] [(h, .inr (2, [.ref pa, .int (nI (kn + 1)), .int (nI 9)])), aM E pa 10 pf, (qm 0, .inr (4, [.ref (qa 0), .int (hp 0), .int (hv 0), .int (hf 0)])), aI E (qa 0) 9 (hm 0), (qm 1, .inr (4, [.ref (qa 1), .int (hp 1), .int (hv 1), .int (hf 1)])), aI E (qa 1) 9 (hm 1), (qm 2, .inr (4, [.ref (qa 2), .int (hp 2), .int (hv 2), .int (hf 2)])), aI E (qa 2) 9 (hm 2), (qm 3, .inr (4, [.ref (qa 3), .int (hp 3), .int (hv 3), .int (hf 3)])), aI E (qa 3) 9 (hm 3), (qm 4, .inr (4, [.ref (qa 4), .int (hp 4), .int (hv 4), .int (hf 4)])), aI E (qa 4) 9 (hm 4), (qm 5, .inr (4, [.ref (qa 5), .int (hp 5), .int (hv 5), .int (hf 5)])), aI E (qa 5) 9 (hm 5), (qm 6, .inr (4, [.ref (qa 6), .int (hp 6), .int (hv 6), .int (hf 6)])), aI E (qa 6) 9 (hm 6), (qm 7, .inr (4, [.ref (qa 7), .int (hp 7), .int (hv 7), .int (hf 7)])), aI E (qa 7) 9 (hm 7), (qm 8, .inr (4, [.ref (qa 8), .int (hp 8), .int (hv 8), .int (hf 8)])), aI E (qa 8) 9 (hm 8), (qm 9, .inr (4, [.ref (qa 9), .int (hp 9), .int (hv 9), .int (hf 9)])), aI E (qa 9) 9 (hm 9), (o, .inr (4, [.ref om, .int pl, .int vg, .int fp])), aI E om 9 ma]
    refine g_aload_n C dX2_restore_0 rfl ?_
    refine g_get C kwX2 0 rfl rfl 1 (by decide) kfX2_26 rfl dX2_restore_1 ?_
    refine g_if_ne (tgt := 9) C dX2_restore_4 (by decide) (fun c4 => ?_) (fun c4 => ?_)
    · skip
      refine g_aload_n C dX2_restore_9 rfl ?_
      refine g_aload_n C dX2_restore_10 rfl ?_
      refine g_get C kwX2 0 rfl rfl 2 (by decide) kfX2_18 rfl dX2_restore_11 ?_
      refine g_bipush (v := 10) C dX2_restore_14 (by decide) ?_
      refine g_iadd C dX2_restore_16 ?_
      refine g_iconst (v := 1) C dX2_restore_17 (by decide) ?_
      refine g_isub C dX2_restore_18 ?_
      refine g_bipush (v := 10) C dX2_restore_19 (by decide) ?_
      refine g_irem C dX2_restore_21 (by decide) ?_
      refine g_topi (v := nI ((9 + 9) % 10)) (by decide) ?_
      refine g_put (ws' := [(h, .inr (2, [.ref pa, .int (nI (kn + 1)), .int (nI ((9 + 9) % 10))])), aM E pa 10 pf, (qm 0, .inr (4, [.ref (qa 0), .int (hp 0), .int (hv 0), .int (hf 0)])), aI E (qa 0) 9 (hm 0), (qm 1, .inr (4, [.ref (qa 1), .int (hp 1), .int (hv 1), .int (hf 1)])), aI E (qa 1) 9 (hm 1), (qm 2, .inr (4, [.ref (qa 2), .int (hp 2), .int (hv 2), .int (hf 2)])), aI E (qa 2) 9 (hm 2), (qm 3, .inr (4, [.ref (qa 3), .int (hp 3), .int (hv 3), .int (hf 3)])), aI E (qa 3) 9 (hm 3), (qm 4, .inr (4, [.ref (qa 4), .int (hp 4), .int (hv 4), .int (hf 4)])), aI E (qa 4) 9 (hm 4), (qm 5, .inr (4, [.ref (qa 5), .int (hp 5), .int (hv 5), .int (hf 5)])), aI E (qa 5) 9 (hm 5), (qm 6, .inr (4, [.ref (qa 6), .int (hp 6), .int (hv 6), .int (hf 6)])), aI E (qa 6) 9 (hm 6), (qm 7, .inr (4, [.ref (qa 7), .int (hp 7), .int (hv 7), .int (hf 7)])), aI E (qa 7) 9 (hm 7), (qm 8, .inr (4, [.ref (qa 8), .int (hp 8), .int (hv 8), .int (hf 8)])), aI E (qa 8) 9 (hm 8), (qm 9, .inr (4, [.ref (qa 9), .int (hp 9), .int (hv 9), .int (hf 9)])), aI E (qa 9) 9 (hm 9), (o, .inr (4, [.ref om, .int pl, .int vg, .int fp])), aI E om 9 ma]) C kwX2 tyX2 tyX2_ok nmX2 0 rfl rfl 2 (by decide) kfX2_18 rfl rfl rfl (Nat.le_of_ble_eq_true rfl) rfl dX2_restore_22 ?_
      refine g_aload_n C dX2_restore_25 rfl ?_
      refine g_aload_n C dX2_restore_26 rfl ?_
      refine g_get C kwX2 0 rfl rfl 0 (by decide) kfX2_11 rfl dX2_restore_27 ?_
      refine g_aload_n C dX2_restore_30 rfl ?_
      refine g_get C kwX2 0 rfl rfl 2 (by decide) kfX2_18 rfl dX2_restore_31 ?_
      refine g_aald (b := qm 8) C 1 8 rfl (rfl) (by decide) (by decide) (hpf 8 (by decide)) dX2_restore_34 ?_
      refine g_callV C (c_X4_copy k.l E o om pl vg fp ma (qm 8) (qa 8) (hp 8) (hv 8) (hf 8) (hm 8)) kmX2_22 kiX4_copy ksX4_copy knX4 kcX4_copy ⟨rfl, rfl⟩ ⟨rfl, kdX4_copy⟩ ⟨by decide, by decide⟩ ⟨by decide, by decide⟩ [22, 23, 18, 19] [0, 1, 2, 3, 4, 5, 6, 7, 8, 9, 10, 11, 12, 13, 14, 15, 16, 17, 20, 21] rfl (wr := [(h, .inr (2, [.ref pa, .int (nI (kn + 1)), .int (nI ((9 + 9) % 10))])), aM E pa 10 pf, (qm 0, .inr (4, [.ref (qa 0), .int (hp 0), .int (hv 0), .int (hf 0)])), aI E (qa 0) 9 (hm 0), (qm 1, .inr (4, [.ref (qa 1), .int (hp 1), .int (hv 1), .int (hf 1)])), aI E (qa 1) 9 (hm 1), (qm 2, .inr (4, [.ref (qa 2), .int (hp 2), .int (hv 2), .int (hf 2)])), aI E (qa 2) 9 (hm 2), (qm 3, .inr (4, [.ref (qa 3), .int (hp 3), .int (hv 3), .int (hf 3)])), aI E (qa 3) 9 (hm 3), (qm 4, .inr (4, [.ref (qa 4), .int (hp 4), .int (hv 4), .int (hf 4)])), aI E (qa 4) 9 (hm 4), (qm 5, .inr (4, [.ref (qa 5), .int (hp 5), .int (hv 5), .int (hf 5)])), aI E (qa 5) 9 (hm 5), (qm 6, .inr (4, [.ref (qa 6), .int (hp 6), .int (hv 6), .int (hf 6)])), aI E (qa 6) 9 (hm 6), (qm 7, .inr (4, [.ref (qa 7), .int (hp 7), .int (hv 7), .int (hf 7)])), aI E (qa 7) 9 (hm 7), (qm 9, .inr (4, [.ref (qa 9), .int (hp 9), .int (hv 9), .int (hf 9)])), aI E (qa 9) 9 (hm 9)]) rfl rfl rfl (by decide) 22 4 rfl rfl rfl (As := [.ref (qm 8)]) (rest := []) rfl (Nat.le_of_ble_eq_true rfl) dX2_restore_35 (fun rv_ rw_ hp_ => ?_)
      obtain ⟨rfl, rfl⟩ := hp_
      refine g_rep [0, 1, 2, 3, 4, 5, 6, 7, 8, 9, 10, 11, 12, 13, 14, 15, 16, 17, 22, 23, 18, 19, 20, 21] (ws' := [(h, .inr (2, [.ref pa, .int (nI (kn + 1)), .int (nI ((9 + 9) % 10))])), aM E pa 10 pf, (qm 0, .inr (4, [.ref (qa 0), .int (hp 0), .int (hv 0), .int (hf 0)])), aI E (qa 0) 9 (hm 0), (qm 1, .inr (4, [.ref (qa 1), .int (hp 1), .int (hv 1), .int (hf 1)])), aI E (qa 1) 9 (hm 1), (qm 2, .inr (4, [.ref (qa 2), .int (hp 2), .int (hv 2), .int (hf 2)])), aI E (qa 2) 9 (hm 2), (qm 3, .inr (4, [.ref (qa 3), .int (hp 3), .int (hv 3), .int (hf 3)])), aI E (qa 3) 9 (hm 3), (qm 4, .inr (4, [.ref (qa 4), .int (hp 4), .int (hv 4), .int (hf 4)])), aI E (qa 4) 9 (hm 4), (qm 5, .inr (4, [.ref (qa 5), .int (hp 5), .int (hv 5), .int (hf 5)])), aI E (qa 5) 9 (hm 5), (qm 6, .inr (4, [.ref (qa 6), .int (hp 6), .int (hv 6), .int (hf 6)])), aI E (qa 6) 9 (hm 6), (qm 7, .inr (4, [.ref (qa 7), .int (hp 7), .int (hv 7), .int (hf 7)])), aI E (qa 7) 9 (hm 7), (qm 8, .inr (4, [.ref (qa 8), .int (hp 8), .int (hv 8), .int (hf 8)])), aI E (qa 8) 9 (hm 8), (qm 9, .inr (4, [.ref (qa 9), .int (hp 9), .int (hv 9), .int (hf 9)])), aI E (qa 9) 9 (hm 9), (o, .inr (4, [.ref om, .int (hp 8), .int (hv 8), .int (hf 8)])), aI E om 9 (va_cpy (hm 8) ma 0 0 9)]) (st' := []) (n' := 0) (z' := 0) (pc' := 38) rfl rfl rfl rfl rfl rfl ?_
      refine g_aload_n C dX2_restore_38 rfl ?_
      refine g_dup C dX2_restore_39 rfl ?_
      refine g_get C kwX2 0 rfl rfl 1 (by decide) kfX2_26 rfl dX2_restore_40 ?_
      refine g_iconst (v := 1) C dX2_restore_43 (by decide) ?_
      refine g_isub C dX2_restore_44 ?_
      refine g_topi (v := nI kn) (nx_pred kn) ?_
      refine g_put (ws' := [(h, .inr (2, [.ref pa, .int (nI kn), .int (nI ((9 + 9) % 10))])), aM E pa 10 pf, (qm 0, .inr (4, [.ref (qa 0), .int (hp 0), .int (hv 0), .int (hf 0)])), aI E (qa 0) 9 (hm 0), (qm 1, .inr (4, [.ref (qa 1), .int (hp 1), .int (hv 1), .int (hf 1)])), aI E (qa 1) 9 (hm 1), (qm 2, .inr (4, [.ref (qa 2), .int (hp 2), .int (hv 2), .int (hf 2)])), aI E (qa 2) 9 (hm 2), (qm 3, .inr (4, [.ref (qa 3), .int (hp 3), .int (hv 3), .int (hf 3)])), aI E (qa 3) 9 (hm 3), (qm 4, .inr (4, [.ref (qa 4), .int (hp 4), .int (hv 4), .int (hf 4)])), aI E (qa 4) 9 (hm 4), (qm 5, .inr (4, [.ref (qa 5), .int (hp 5), .int (hv 5), .int (hf 5)])), aI E (qa 5) 9 (hm 5), (qm 6, .inr (4, [.ref (qa 6), .int (hp 6), .int (hv 6), .int (hf 6)])), aI E (qa 6) 9 (hm 6), (qm 7, .inr (4, [.ref (qa 7), .int (hp 7), .int (hv 7), .int (hf 7)])), aI E (qa 7) 9 (hm 7), (qm 8, .inr (4, [.ref (qa 8), .int (hp 8), .int (hv 8), .int (hf 8)])), aI E (qa 8) 9 (hm 8), (qm 9, .inr (4, [.ref (qa 9), .int (hp 9), .int (hv 9), .int (hf 9)])), aI E (qa 9) 9 (hm 9), (o, .inr (4, [.ref om, .int (hp 8), .int (hv 8), .int (hf 8)])), aI E om 9 (va_cpy (hm 8) ma 0 0 9)]) C kwX2 tyX2 tyX2_ok nmX2 0 rfl rfl 1 (by decide) kfX2_26 rfl rfl rfl (Nat.le_of_ble_eq_true rfl) rfl dX2_restore_45 ?_
      refine g_iconst (v := 1) C dX2_restore_48 (by decide) ?_
      exact g_zret C hR (by first | exact Or.inl rfl | exact Or.inr rfl | exact bI01 _) (⟨rfl, rfl⟩) dX2_restore_49
    · skip
      exact absurd c4 (by rw [nI_succ]; exact nx_succ_ne (by omega))

set_option maxHeartbeats 4000000 in
set_option maxRecDepth 100000 in
/-- nothing to undo -/
theorem c_X2_restore0 (l : Launch) (E : EX) (h : Nat) (pa : Nat) (f0 : Int32) (o : Nat) : Ct l E yX2_restore cX2_restore 2 (some .boolean) (rmL 2 0 0) [.ref h, .ref o] [(h, .inr (2, [.ref pa, .int 0, .int f0]))] (fun (rv_ : Option Value) (rw_ : va_W) => rv_ = some (.int 0) ∧ rw_ = [(h, .inr (2, [.ref pa, .int 0, .int f0]))]) 0 0 := by
  refine Ct_of (by decide) (Nat.le_of_ble_eq_true rfl) ?_
  intro k hkl hnl C hR hm
  subst hkl
  show G k E 0 0 0 [some (.ref h), some (.ref o)] [] [(h, .inr (2, [.ref pa, .int 0, .int f0]))]
  refine g_aload_n C dX2_restore_0 rfl ?_
  refine g_get C kwX2 0 rfl rfl 1 (by decide) kfX2_26 rfl dX2_restore_1 ?_
  refine g_if_ne (tgt := 9) C dX2_restore_4 (by decide) (fun c4 => ?_) (fun c4 => ?_)
  · skip
    exact absurd rfl c4
  · skip
    refine g_iconst (v := 0) C dX2_restore_7 (by decide) ?_
    exact g_zret C hR (by first | exact Or.inl rfl | exact Or.inr rfl | exact bI01 _) (⟨rfl, rfl⟩) dX2_restore_8
end
