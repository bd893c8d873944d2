section
-- ===== PART A: goes FIRST, ahead of the names: the tables' words, and 'selects' of the private methods out of them =====
/-- a private method of a class that the tables say can be made, by its rows of tables_1 -/
def lw_okq (q : MethodName × Nat) : Prop := (q.1.cls ≠ "java/lang/invoke/MethodHandle" ∧ q.1.cls ≠ "java/lang/invoke/VarHandle") ∧ Cond.instantiable q.1.cls q.2 ∈ tables_1 ∧ Cond.privateMethod q.1 ∈ tables_1 ∧ Cond.instanceMethod q.1 ∈ tables_1
theorem lw_p0 : lw_okq (⟨"WeighedLots", "takeLeastWeights", "()I"⟩, 9) := ⟨⟨by decide +kernel, by decide +kernel⟩, List.mem_of_getElem? (i := 16) (by decide +kernel), List.mem_of_getElem? (i := 323) (by decide +kernel), List.mem_of_getElem? (i := 324) (by decide +kernel)⟩
theorem lw_p1 : lw_okq (⟨"WeighedLots$Scales", "setBounds", "(II)Z"⟩, 8) := ⟨⟨by decide +kernel, by decide +kernel⟩, List.mem_of_getElem? (i := 118) (by decide +kernel), List.mem_of_getElem? (i := 331) (by decide +kernel), List.mem_of_getElem? (i := 332) (by decide +kernel)⟩
theorem lw_p2 : lw_okq (⟨"WeighedLots$Scales", "tryAll", "(II)V"⟩, 8) := ⟨⟨by decide +kernel, by decide +kernel⟩, List.mem_of_getElem? (i := 118) (by decide +kernel), List.mem_of_getElem? (i := 342) (by decide +kernel), List.mem_of_getElem? (i := 343) (by decide +kernel)⟩
theorem lw_p3 : lw_okq (⟨"WeighedLots$Scales", "holdIfLess", "(II)V"⟩, 8) := ⟨⟨by decide +kernel, by decide +kernel⟩, List.mem_of_getElem? (i := 118) (by decide +kernel), List.mem_of_getElem? (i := 346) (by decide +kernel), List.mem_of_getElem? (i := 347) (by decide +kernel)⟩
theorem lw_p4 : lw_okq (⟨"WeighedLots$Scales", "divides", "([III)Z"⟩, 8) := ⟨⟨by decide +kernel, by decide +kernel⟩, List.mem_of_getElem? (i := 118) (by decide +kernel), List.mem_of_getElem? (i := 353) (by decide +kernel), List.mem_of_getElem? (i := 354) (by decide +kernel)⟩
theorem lw_p5 : lw_okq (⟨"WeighedLots$SetupText", "takeClause", "(I)Z"⟩, 7) := ⟨⟨by decide +kernel, by decide +kernel⟩, List.mem_of_getElem? (i := 83) (by decide +kernel), List.mem_of_getElem? (i := 407) (by decide +kernel), List.mem_of_getElem? (i := 408) (by decide +kernel)⟩
theorem lw_p6 : lw_okq (⟨"WeighedLots$SetupText", "sign", "()I"⟩, 7) := ⟨⟨by decide +kernel, by decide +kernel⟩, List.mem_of_getElem? (i := 83) (by decide +kernel), List.mem_of_getElem? (i := 411) (by decide +kernel), List.mem_of_getElem? (i := 412) (by decide +kernel)⟩
theorem lw_p7 : lw_okq (⟨"WeighedLots$SetupText", "takeDigit", "([II)Z"⟩, 7) := ⟨⟨by decide +kernel, by decide +kernel⟩, List.mem_of_getElem? (i := 83) (by decide +kernel), List.mem_of_getElem? (i := 415) (by decide +kernel), List.mem_of_getElem? (i := 416) (by decide +kernel)⟩
theorem lw_p8 : lw_okq (⟨"WeighedLots$SetupText", "isDigit", "()Z"⟩, 7) := ⟨⟨by decide +kernel, by decide +kernel⟩, List.mem_of_getElem? (i := 83) (by decide +kernel), List.mem_of_getElem? (i := 419) (by decide +kernel), List.mem_of_getElem? (i := 420) (by decide +kernel)⟩
theorem lw_p9 : lw_okq (⟨"WeighedLots$SetupText", "takeLot", "(I)V"⟩, 7) := ⟨⟨by decide +kernel, by decide +kernel⟩, List.mem_of_getElem? (i := 83) (by decide +kernel), List.mem_of_getElem? (i := 423) (by decide +kernel), List.mem_of_getElem? (i := 424) (by decide +kernel)⟩
theorem lw_p10 : lw_okq (⟨"WeighedLots$SetupText", "takeNumber", "([II)Z"⟩, 7) := ⟨⟨by decide +kernel, by decide +kernel⟩, List.mem_of_getElem? (i := 83) (by decide +kernel), List.mem_of_getElem? (i := 427) (by decide +kernel), List.mem_of_getElem? (i := 428) (by decide +kernel)⟩
theorem lw_p11 : lw_okq (⟨"WeighedLots", "carryOut", "(III)I"⟩, 9) := ⟨⟨by decide +kernel, by decide +kernel⟩, List.mem_of_getElem? (i := 16) (by decide +kernel), List.mem_of_getElem? (i := 431) (by decide +kernel), List.mem_of_getElem? (i := 432) (by decide +kernel)⟩
theorem lw_p12 : lw_okq (⟨"WeighedLots$Twins", "countKeys", "(II)V"⟩, 1) := ⟨⟨by decide +kernel, by decide +kernel⟩, List.mem_of_getElem? (i := 186) (by decide +kernel), List.mem_of_getElem? (i := 480) (by decide +kernel), List.mem_of_getElem? (i := 481) (by decide +kernel)⟩
theorem lw_p13 : lw_okq (⟨"WeighedLots$Orbit", "forget", "()V"⟩, 4) := ⟨⟨by decide +kernel, by decide +kernel⟩, List.mem_of_getElem? (i := 151) (by decide +kernel), List.mem_of_getElem? (i := 496) (by decide +kernel), List.mem_of_getElem? (i := 497) (by decide +kernel)⟩
theorem lw_p14 : lw_okq (⟨"WeighedLots$Orbit", "meet", "(II)V"⟩, 4) := ⟨⟨by decide +kernel, by decide +kernel⟩, List.mem_of_getElem? (i := 151) (by decide +kernel), List.mem_of_getElem? (i := 500) (by decide +kernel), List.mem_of_getElem? (i := 501) (by decide +kernel)⟩
theorem lw_p15 : lw_okq (⟨"WeighedLots$Orbit", "meetAllBeside", "(III)V"⟩, 4) := ⟨⟨by decide +kernel, by decide +kernel⟩, List.mem_of_getElem? (i := 151) (by decide +kernel), List.mem_of_getElem? (i := 504) (by decide +kernel), List.mem_of_getElem? (i := 505) (by decide +kernel)⟩
def lw_privs_1 : List (MethodName × Nat) := [(⟨"WeighedLots", "takeLeastWeights", "()I"⟩, 9), (⟨"WeighedLots$Scales", "setBounds", "(II)Z"⟩, 8), (⟨"WeighedLots$Scales", "tryAll", "(II)V"⟩, 8), (⟨"WeighedLots$Scales", "holdIfLess", "(II)V"⟩, 8), (⟨"WeighedLots$Scales", "divides", "([III)Z"⟩, 8), (⟨"WeighedLots$SetupText", "takeClause", "(I)Z"⟩, 7), (⟨"WeighedLots$SetupText", "sign", "()I"⟩, 7), (⟨"WeighedLots$SetupText", "takeDigit", "([II)Z"⟩, 7), (⟨"WeighedLots$SetupText", "isDigit", "()Z"⟩, 7), (⟨"WeighedLots$SetupText", "takeLot", "(I)V"⟩, 7), (⟨"WeighedLots$SetupText", "takeNumber", "([II)Z"⟩, 7), (⟨"WeighedLots", "carryOut", "(III)I"⟩, 9), (⟨"WeighedLots$Twins", "countKeys", "(II)V"⟩, 1), (⟨"WeighedLots$Orbit", "forget", "()V"⟩, 4), (⟨"WeighedLots$Orbit", "meet", "(II)V"⟩, 4), (⟨"WeighedLots$Orbit", "meetAllBeside", "(III)V"⟩, 4)]
theorem lw_r1 : ∀ q ∈ lw_privs_1, lw_okq q := List.forall_mem_cons.mpr ⟨lw_p0, List.forall_mem_cons.mpr ⟨lw_p1, List.forall_mem_cons.mpr ⟨lw_p2, List.forall_mem_cons.mpr ⟨lw_p3, List.forall_mem_cons.mpr ⟨lw_p4, List.forall_mem_cons.mpr ⟨lw_p5, List.forall_mem_cons.mpr ⟨lw_p6, List.forall_mem_cons.mpr ⟨lw_p7, List.forall_mem_cons.mpr ⟨lw_p8, List.forall_mem_cons.mpr ⟨lw_p9, List.forall_mem_cons.mpr ⟨lw_p10, List.forall_mem_cons.mpr ⟨lw_p11, List.forall_mem_cons.mpr ⟨lw_p12, List.forall_mem_cons.mpr ⟨lw_p13, List.forall_mem_cons.mpr ⟨lw_p14, List.forall_mem_cons.mpr ⟨lw_p15, fun _ h => absurd h List.not_mem_nil⟩⟩⟩⟩⟩⟩⟩⟩⟩⟩⟩⟩⟩⟩⟩⟩
theorem lw_p16 : lw_okq (⟨"WeighedLots$Trades", "findFor", "(IIII)V"⟩, 2) := ⟨⟨by decide +kernel, by decide +kernel⟩, List.mem_of_getElem? (i := 171) (by decide +kernel), List.mem_of_getElem? (i := 538) (by decide +kernel), List.mem_of_getElem? (i := 539) (by decide +kernel)⟩
theorem lw_p17 : lw_okq (⟨"WeighedLots$Trades", "addTrade", "(IIII)V"⟩, 2) := ⟨⟨by decide +kernel, by decide +kernel⟩, List.mem_of_getElem? (i := 171) (by decide +kernel), List.mem_of_getElem? (i := 542) (by decide +kernel), List.mem_of_getElem? (i := 543) (by decide +kernel)⟩
theorem lw_p18 : lw_okq (⟨"WeighedLots", "addSaying", "(LWeighedLots$Rows;II)I"⟩, 9) := ⟨⟨by decide +kernel, by decide +kernel⟩, List.mem_of_getElem? (i := 16) (by decide +kernel), List.mem_of_getElem? (i := 564) (by decide +kernel), List.mem_of_getElem? (i := 565) (by decide +kernel)⟩
theorem lw_p19 : lw_okq (⟨"WeighedLots", "leastFit", "()I"⟩, 9) := ⟨⟨by decide +kernel, by decide +kernel⟩, List.mem_of_getElem? (i := 16) (by decide +kernel), List.mem_of_getElem? (i := 576) (by decide +kernel), List.mem_of_getElem? (i := 577) (by decide +kernel)⟩
theorem lw_p20 : lw_okq (⟨"WeighedLots", "greatestFit", "()I"⟩, 9) := ⟨⟨by decide +kernel, by decide +kernel⟩, List.mem_of_getElem? (i := 16) (by decide +kernel), List.mem_of_getElem? (i := 581) (by decide +kernel), List.mem_of_getElem? (i := 582) (by decide +kernel)⟩
theorem lw_p21 : lw_okq (⟨"WeighedLots", "eventFinds", "(II)Z"⟩, 9) := ⟨⟨by decide +kernel, by decide +kernel⟩, List.mem_of_getElem? (i := 16) (by decide +kernel), List.mem_of_getElem? (i := 605) (by decide +kernel), List.mem_of_getElem? (i := 606) (by decide +kernel)⟩
theorem lw_p22 : lw_okq (⟨"WeighedLots", "codeBehindEvents", "()I"⟩, 9) := ⟨⟨by decide +kernel, by decide +kernel⟩, List.mem_of_getElem? (i := 16) (by decide +kernel), List.mem_of_getElem? (i := 613) (by decide +kernel), List.mem_of_getElem? (i := 614) (by decide +kernel)⟩
theorem lw_p23 : lw_okq (⟨"WeighedLots", "codeBehind", "(III)I"⟩, 9) := ⟨⟨by decide +kernel, by decide +kernel⟩, List.mem_of_getElem? (i := 16) (by decide +kernel), List.mem_of_getElem? (i := 617) (by decide +kernel), List.mem_of_getElem? (i := 618) (by decide +kernel)⟩
theorem lw_p24 : lw_okq (⟨"WeighedLotsModel", "starts", "(I)V"⟩, 18) := ⟨⟨by decide +kernel, by decide +kernel⟩, List.mem_of_getElem? (i := 695) (by decide +kernel), List.mem_of_getElem? (i := 704) (by decide +kernel), List.mem_of_getElem? (i := 705) (by decide +kernel)⟩
theorem lw_p25 : lw_okq (⟨"WeighedLotsModel", "isLot", "(I)Z"⟩, 18) := ⟨⟨by decide +kernel, by decide +kernel⟩, List.mem_of_getElem? (i := 695) (by decide +kernel), List.mem_of_getElem? (i := 776) (by decide +kernel), List.mem_of_getElem? (i := 777) (by decide +kernel)⟩
theorem lw_p26 : lw_okq (⟨"WeighedLotsModel", "lots", "()I"⟩, 18) := ⟨⟨by decide +kernel, by decide +kernel⟩, List.mem_of_getElem? (i := 695) (by decide +kernel), List.mem_of_getElem? (i := 780) (by decide +kernel), List.mem_of_getElem? (i := 781) (by decide +kernel)⟩
theorem lw_p27 : lw_okq (⟨"WeighedLotsModel", "most", "()I"⟩, 18) := ⟨⟨by decide +kernel, by decide +kernel⟩, List.mem_of_getElem? (i := 695) (by decide +kernel), List.mem_of_getElem? (i := 788) (by decide +kernel), List.mem_of_getElem? (i := 789) (by decide +kernel)⟩
theorem lw_p28 : lw_okq (⟨"WeighedLotsModel", "isVoter", "(I)Z"⟩, 18) := ⟨⟨by decide +kernel, by decide +kernel⟩, List.mem_of_getElem? (i := 695) (by decide +kernel), List.mem_of_getElem? (i := 796) (by decide +kernel), List.mem_of_getElem? (i := 797) (by decide +kernel)⟩
theorem lw_p29 : lw_okq (⟨"WeighedLotsModel", "weighed", "()I"⟩, 18) := ⟨⟨by decide +kernel, by decide +kernel⟩, List.mem_of_getElem? (i := 695) (by decide +kernel), List.mem_of_getElem? (i := 812) (by decide +kernel), List.mem_of_getElem? (i := 813) (by decide +kernel)⟩
theorem lw_p30 : lw_okq (⟨"WeighedLotsModel", "worth", "(I)I"⟩, 18) := ⟨⟨by decide +kernel, by decide +kernel⟩, List.mem_of_getElem? (i := 695) (by decide +kernel), List.mem_of_getElem? (i := 816) (by decide +kernel), List.mem_of_getElem? (i := 817) (by decide +kernel)⟩
theorem lw_p31 : lw_okq (⟨"WeighedLotsModel", "isLinear", "(I)Z"⟩, 18) := ⟨⟨by decide +kernel, by decide +kernel⟩, List.mem_of_getElem? (i := 695) (by decide +kernel), List.mem_of_getElem? (i := 827) (by decide +kernel), List.mem_of_getElem? (i := 828) (by decide +kernel)⟩
def lw_privs_2 : List (MethodName × Nat) := [(⟨"WeighedLots$Trades", "findFor", "(IIII)V"⟩, 2), (⟨"WeighedLots$Trades", "addTrade", "(IIII)V"⟩, 2), (⟨"WeighedLots", "addSaying", "(LWeighedLots$Rows;II)I"⟩, 9), (⟨"WeighedLots", "leastFit", "()I"⟩, 9), (⟨"WeighedLots", "greatestFit", "()I"⟩, 9), (⟨"WeighedLots", "eventFinds", "(II)Z"⟩, 9), (⟨"WeighedLots", "codeBehindEvents", "()I"⟩, 9), (⟨"WeighedLots", "codeBehind", "(III)I"⟩, 9), (⟨"WeighedLotsModel", "starts", "(I)V"⟩, 18), (⟨"WeighedLotsModel", "isLot", "(I)Z"⟩, 18), (⟨"WeighedLotsModel", "lots", "()I"⟩, 18), (⟨"WeighedLotsModel", "most", "()I"⟩, 18), (⟨"WeighedLotsModel", "isVoter", "(I)Z"⟩, 18), (⟨"WeighedLotsModel", "weighed", "()I"⟩, 18), (⟨"WeighedLotsModel", "worth", "(I)I"⟩, 18), (⟨"WeighedLotsModel", "isLinear", "(I)Z"⟩, 18)]
theorem lw_r2 : ∀ q ∈ lw_privs_2, lw_okq q := List.forall_mem_cons.mpr ⟨lw_p16, List.forall_mem_cons.mpr ⟨lw_p17, List.forall_mem_cons.mpr ⟨lw_p18, List.forall_mem_cons.mpr ⟨lw_p19, List.forall_mem_cons.mpr ⟨lw_p20, List.forall_mem_cons.mpr ⟨lw_p21, List.forall_mem_cons.mpr ⟨lw_p22, List.forall_mem_cons.mpr ⟨lw_p23, List.forall_mem_cons.mpr ⟨lw_p24, List.forall_mem_cons.mpr ⟨lw_p25, List.forall_mem_cons.mpr ⟨lw_p26, List.forall_mem_cons.mpr ⟨lw_p27, List.forall_mem_cons.mpr ⟨lw_p28, List.forall_mem_cons.mpr ⟨lw_p29, List.forall_mem_cons.mpr ⟨lw_p30, List.forall_mem_cons.mpr ⟨lw_p31, fun _ h => absurd h List.not_mem_nil⟩⟩⟩⟩⟩⟩⟩⟩⟩⟩⟩⟩⟩⟩⟩⟩
theorem lw_p32 : lw_okq (⟨"WeighedLotsModel", "tries", "(III)V"⟩, 18) := ⟨⟨by decide +kernel, by decide +kernel⟩, List.mem_of_getElem? (i := 695) (by decide +kernel), List.mem_of_getElem? (i := 831) (by decide +kernel), List.mem_of_getElem? (i := 832) (by decide +kernel)⟩
theorem lw_p33 : lw_okq (⟨"WeighedLotsModel", "tells", "(I)Z"⟩, 18) := ⟨⟨by decide +kernel, by decide +kernel⟩, List.mem_of_getElem? (i := 695) (by decide +kernel), List.mem_of_getElem? (i := 835) (by decide +kernel), List.mem_of_getElem? (i := 836) (by decide +kernel)⟩
theorem lw_p34 : lw_okq (⟨"WeighedLotsModel", "worthBy", "([II)I"⟩, 18) := ⟨⟨by decide +kernel, by decide +kernel⟩, List.mem_of_getElem? (i := 695) (by decide +kernel), List.mem_of_getElem? (i := 839) (by decide +kernel), List.mem_of_getElem? (i := 840) (by decide +kernel)⟩
theorem lw_p35 : lw_okq (⟨"WeighedLotsModel", "leastQuota", "(I)I"⟩, 18) := ⟨⟨by decide +kernel, by decide +kernel⟩, List.mem_of_getElem? (i := 695) (by decide +kernel), List.mem_of_getElem? (i := 846) (by decide +kernel), List.mem_of_getElem? (i := 847) (by decide +kernel)⟩
theorem lw_p36 : lw_okq (⟨"WeighedLotsModel", "dual", "(I)I"⟩, 18) := ⟨⟨by decide +kernel, by decide +kernel⟩, List.mem_of_getElem? (i := 695) (by decide +kernel), List.mem_of_getElem? (i := 850) (by decide +kernel), List.mem_of_getElem? (i := 851) (by decide +kernel)⟩
theorem lw_p37 : lw_okq (⟨"WeighedLotsModel", "turned", "(II)I"⟩, 18) := ⟨⟨by decide +kernel, by decide +kernel⟩, List.mem_of_getElem? (i := 695) (by decide +kernel), List.mem_of_getElem? (i := 858) (by decide +kernel), List.mem_of_getElem? (i := 859) (by decide +kernel)⟩
theorem lw_p38 : lw_okq (⟨"WeighedLotsModel", "changed", "(III)I"⟩, 18) := ⟨⟨by decide +kernel, by decide +kernel⟩, List.mem_of_getElem? (i := 695) (by decide +kernel), List.mem_of_getElem? (i := 866) (by decide +kernel), List.mem_of_getElem? (i := 867) (by decide +kernel)⟩
theorem lw_p39 : lw_okq (⟨"WeighedLotsModel", "chowOf", "(II)I"⟩, 18) := ⟨⟨by decide +kernel, by decide +kernel⟩, List.mem_of_getElem? (i := 695) (by decide +kernel), List.mem_of_getElem? (i := 890) (by decide +kernel), List.mem_of_getElem? (i := 891) (by decide +kernel)⟩
theorem lw_p40 : lw_okq (⟨"WeighedLotsModel", "nthLeast", "(I)I"⟩, 18) := ⟨⟨by decide +kernel, by decide +kernel⟩, List.mem_of_getElem? (i := 695) (by decide +kernel), List.mem_of_getElem? (i := 898) (by decide +kernel), List.mem_of_getElem? (i := 899) (by decide +kernel)⟩
theorem lw_p41 : lw_okq (⟨"WeighedLotsModel", "isLeastLot", "(I)Z"⟩, 18) := ⟨⟨by decide +kernel, by decide +kernel⟩, List.mem_of_getElem? (i := 695) (by decide +kernel), List.mem_of_getElem? (i := 902) (by decide +kernel), List.mem_of_getElem? (i := 903) (by decide +kernel)⟩
theorem lw_p42 : lw_okq (⟨"WeighedLotsModel", "isRising", "()Z"⟩, 18) := ⟨⟨by decide +kernel, by decide +kernel⟩, List.mem_of_getElem? (i := 695) (by decide +kernel), List.mem_of_getElem? (i := 914) (by decide +kernel), List.mem_of_getElem? (i := 915) (by decide +kernel)⟩
theorem lw_p43 : lw_okq (⟨"WeighedLotsModel", "twins", "()I"⟩, 18) := ⟨⟨by decide +kernel, by decide +kernel⟩, List.mem_of_getElem? (i := 695) (by decide +kernel), List.mem_of_getElem? (i := 918) (by decide +kernel), List.mem_of_getElem? (i := 919) (by decide +kernel)⟩
theorem lw_p44 : lw_okq (⟨"WeighedLotsModel", "reached", "()I"⟩, 18) := ⟨⟨by decide +kernel, by decide +kernel⟩, List.mem_of_getElem? (i := 695) (by decide +kernel), List.mem_of_getElem? (i := 922) (by decide +kernel), List.mem_of_getElem? (i := 923) (by decide +kernel)⟩
theorem lw_p45 : lw_okq (⟨"WeighedLotsModel", "moved", "(II)I"⟩, 18) := ⟨⟨by decide +kernel, by decide +kernel⟩, List.mem_of_getElem? (i := 695) (by decide +kernel), List.mem_of_getElem? (i := 926) (by decide +kernel), List.mem_of_getElem? (i := 927) (by decide +kernel)⟩
theorem lw_p46 : lw_okq (⟨"WeighedLotsModel", "steps", "()I"⟩, 18) := ⟨⟨by decide +kernel, by decide +kernel⟩, List.mem_of_getElem? (i := 695) (by decide +kernel), List.mem_of_getElem? (i := 930) (by decide +kernel), List.mem_of_getElem? (i := 931) (by decide +kernel)⟩
theorem lw_p47 : lw_okq (⟨"WeighedLotsModel", "isSeenBy", "(I)Z"⟩, 18) := ⟨⟨by decide +kernel, by decide +kernel⟩, List.mem_of_getElem? (i := 695) (by decide +kernel), List.mem_of_getElem? (i := 949) (by decide +kernel), List.mem_of_getElem? (i := 950) (by decide +kernel)⟩
def lw_privs_3 : List (MethodName × Nat) := [(⟨"WeighedLotsModel", "tries", "(III)V"⟩, 18), (⟨"WeighedLotsModel", "tells", "(I)Z"⟩, 18), (⟨"WeighedLotsModel", "worthBy", "([II)I"⟩, 18), (⟨"WeighedLotsModel", "leastQuota", "(I)I"⟩, 18), (⟨"WeighedLotsModel", "dual", "(I)I"⟩, 18), (⟨"WeighedLotsModel", "turned", "(II)I"⟩, 18), (⟨"WeighedLotsModel", "changed", "(III)I"⟩, 18), (⟨"WeighedLotsModel", "chowOf", "(II)I"⟩, 18), (⟨"WeighedLotsModel", "nthLeast", "(I)I"⟩, 18), (⟨"WeighedLotsModel", "isLeastLot", "(I)Z"⟩, 18), (⟨"WeighedLotsModel", "isRising", "()Z"⟩, 18), (⟨"WeighedLotsModel", "twins", "()I"⟩, 18), (⟨"WeighedLotsModel", "reached", "()I"⟩, 18), (⟨"WeighedLotsModel", "moved", "(II)I"⟩, 18), (⟨"WeighedLotsModel", "steps", "()I"⟩, 18), (⟨"WeighedLotsModel", "isSeenBy", "(I)Z"⟩, 18)]
theorem lw_r3 : ∀ q ∈ lw_privs_3, lw_okq q := List.forall_mem_cons.mpr ⟨lw_p32, List.forall_mem_cons.mpr ⟨lw_p33, List.forall_mem_cons.mpr ⟨lw_p34, List.forall_mem_cons.mpr ⟨lw_p35, List.forall_mem_cons.mpr ⟨lw_p36, List.forall_mem_cons.mpr ⟨lw_p37, List.forall_mem_cons.mpr ⟨lw_p38, List.forall_mem_cons.mpr ⟨lw_p39, List.forall_mem_cons.mpr ⟨lw_p40, List.forall_mem_cons.mpr ⟨lw_p41, List.forall_mem_cons.mpr ⟨lw_p42, List.forall_mem_cons.mpr ⟨lw_p43, List.forall_mem_cons.mpr ⟨lw_p44, List.forall_mem_cons.mpr ⟨lw_p45, List.forall_mem_cons.mpr ⟨lw_p46, List.forall_mem_cons.mpr ⟨lw_p47, fun _ h => absurd h List.not_mem_nil⟩⟩⟩⟩⟩⟩⟩⟩⟩⟩⟩⟩⟩⟩⟩⟩
theorem lw_p48 : lw_okq (⟨"WeighedLotsModel", "isThere", "(II)Z"⟩, 18) := ⟨⟨by decide +kernel, by decide +kernel⟩, List.mem_of_getElem? (i := 695) (by decide +kernel), List.mem_of_getElem? (i := 971) (by decide +kernel), List.mem_of_getElem? (i := 972) (by decide +kernel)⟩
theorem lw_p49 : lw_okq (⟨"WeighedLotsModel", "here", "()I"⟩, 18) := ⟨⟨by decide +kernel, by decide +kernel⟩, List.mem_of_getElem? (i := 695) (by decide +kernel), List.mem_of_getElem? (i := 996) (by decide +kernel), List.mem_of_getElem? (i := 997) (by decide +kernel)⟩
theorem lw_p50 : lw_okq (⟨"WeighedLotsModel", "hasClause", "()Z"⟩, 18) := ⟨⟨by decide +kernel, by decide +kernel⟩, List.mem_of_getElem? (i := 695) (by decide +kernel), List.mem_of_getElem? (i := 1000) (by decide +kernel), List.mem_of_getElem? (i := 1001) (by decide +kernel)⟩
theorem lw_p51 : lw_okq (⟨"WeighedLotsModel", "takes", "(I)V"⟩, 18) := ⟨⟨by decide +kernel, by decide +kernel⟩, List.mem_of_getElem? (i := 695) (by decide +kernel), List.mem_of_getElem? (i := 1004) (by decide +kernel), List.mem_of_getElem? (i := 1005) (by decide +kernel)⟩
theorem lw_p52 : lw_okq (⟨"WeighedLotsModel", "isDigit", "()Z"⟩, 18) := ⟨⟨by decide +kernel, by decide +kernel⟩, List.mem_of_getElem? (i := 695) (by decide +kernel), List.mem_of_getElem? (i := 1008) (by decide +kernel), List.mem_of_getElem? (i := 1009) (by decide +kernel)⟩
theorem lw_p53 : lw_okq (⟨"WeighedLotsModel", "hasNumber", "()Z"⟩, 18) := ⟨⟨by decide +kernel, by decide +kernel⟩, List.mem_of_getElem? (i := 695) (by decide +kernel), List.mem_of_getElem? (i := 1014) (by decide +kernel), List.mem_of_getElem? (i := 1015) (by decide +kernel)⟩
theorem lw_p54 : lw_okq (⟨"WeighedLotsModel", "isDone", "(I)Z"⟩, 18) := ⟨⟨by decide +kernel, by decide +kernel⟩, List.mem_of_getElem? (i := 695) (by decide +kernel), List.mem_of_getElem? (i := 1018) (by decide +kernel), List.mem_of_getElem? (i := 1019) (by decide +kernel)⟩
def lw_privs_4 : List (MethodName × Nat) := [(⟨"WeighedLotsModel", "isThere", "(II)Z"⟩, 18), (⟨"WeighedLotsModel", "here", "()I"⟩, 18), (⟨"WeighedLotsModel", "hasClause", "()Z"⟩, 18), (⟨"WeighedLotsModel", "takes", "(I)V"⟩, 18), (⟨"WeighedLotsModel", "isDigit", "()Z"⟩, 18), (⟨"WeighedLotsModel", "hasNumber", "()Z"⟩, 18), (⟨"WeighedLotsModel", "isDone", "(I)Z"⟩, 18)]
theorem lw_r4 : ∀ q ∈ lw_privs_4, lw_okq q := List.forall_mem_cons.mpr ⟨lw_p48, List.forall_mem_cons.mpr ⟨lw_p49, List.forall_mem_cons.mpr ⟨lw_p50, List.forall_mem_cons.mpr ⟨lw_p51, List.forall_mem_cons.mpr ⟨lw_p52, List.forall_mem_cons.mpr ⟨lw_p53, List.forall_mem_cons.mpr ⟨lw_p54, fun _ h => absurd h List.not_mem_nil⟩⟩⟩⟩⟩⟩⟩
def lw_privs : List (MethodName × Nat) := lw_privs_1 ++ (lw_privs_2 ++ (lw_privs_3 ++ (lw_privs_4)))
def lw_tbl : List Cond := k2_sels lw_privs ++ tables_1
theorem lw_privs_ok : ∀ q ∈ lw_privs, lw_okq q := by
  show ∀ q ∈ lw_privs_1 ++ (lw_privs_2 ++ (lw_privs_3 ++ (lw_privs_4))), lw_okq q
  exact List.forall_mem_append.mpr ⟨lw_r1, List.forall_mem_append.mpr ⟨lw_r2, List.forall_mem_append.mpr ⟨lw_r3, lw_r4⟩⟩⟩
end
section
def RX0 : String := "WeighedLots$Lots"
def TX0 : u_T := fun k => match k with
  | _ => ("", "", "", false)
def tyX0 : Nat → FieldType := fun k => match k with
  | _ => .int
theorem nmX0 : ∀ a, a < 0 → ∀ b, b < 0 → a ≠ b → (TX0 a).2.1 ≠ (TX0 b).2.1 := by decide +kernel
theorem tyX0_ok : ∀ k, k < 0 → parseFieldDescriptor (TX0 k).2.2.1 = some (tyX0 k) := by decide +kernel
abbrev cX0_with : ByteArray := prog_2_method_2_code
def yX0_with : MethodName := ⟨RX0, "with", "(I)I"⟩
abbrev cX0_allYes : ByteArray := prog_2_method_3_code
def yX0_allYes : MethodName := ⟨RX0, "allYes", "(I)I"⟩
abbrev cX0_says : ByteArray := prog_2_method_4_code
def yX0_says : MethodName := ⟨RX0, "says", "(II)I"⟩
abbrev cX0_flipped : ByteArray := prog_2_method_5_code
def yX0_flipped : MethodName := ⟨RX0, "flipped", "(II)I"⟩
abbrev cX0_opposite : ByteArray := prog_2_method_6_code
def yX0_opposite : MethodName := ⟨RX0, "opposite", "(II)I"⟩
abbrev cX0_turned : ByteArray := prog_2_method_7_code
def yX0_turned : MethodName := ⟨RX0, "turned", "(II)I"⟩
abbrev cX0_dual : ByteArray := prog_2_method_8_code
def yX0_dual : MethodName := ⟨RX0, "dual", "(II)I"⟩
abbrev cX0_changedAbout : ByteArray := prog_2_method_9_code
def yX0_changedAbout : MethodName := ⟨RX0, "changedAbout", "(III)I"⟩
abbrev cX0_isOwnDual : ByteArray := prog_2_method_10_code
def yX0_isOwnDual : MethodName := ⟨RX0, "isOwnDual", "(II)Z"⟩
abbrev cX0_isRising : ByteArray := prog_2_method_11_code
def yX0_isRising : MethodName := ⟨RX0, "isRising", "(II)Z"⟩
abbrev cX0_losesBy : ByteArray := prog_2_method_12_code
def yX0_losesBy : MethodName := ⟨RX0, "losesBy", "(II)I"⟩
abbrev cX0_winsBy : ByteArray := prog_2_method_13_code
def yX0_winsBy : MethodName := ⟨RX0, "winsBy", "(III)I"⟩
abbrev cX0_swingsOf : ByteArray := prog_2_method_14_code
def yX0_swingsOf : MethodName := ⟨RX0, "swingsOf", "(III)I"⟩
abbrev cX0_leastOnes : ByteArray := prog_2_method_15_code
def yX0_leastOnes : MethodName := ⟨RX0, "leastOnes", "(II)I"⟩
abbrev cX0_hasYesWithin : ByteArray := prog_2_method_16_code
def yX0_hasYesWithin : MethodName := ⟨RX0, "hasYesWithin", "(II)Z"⟩
def RX1 : String := "WeighedLots$Orbit"
def TX1 : u_T := fun k => match k with
  | 0 => ("WeighedLots$Orbit", "met", "[I", true)
  | 1 => ("WeighedLots$Orbit", "codes", "[I", true)
  | 2 => ("WeighedLots$Orbit", "steps", "[I", true)
  | _ => ("WeighedLots$Orbit", "size", "I", false)
def tyX1 : Nat → FieldType := fun k => match k with
  | 0 => .array .int
  | 1 => .array .int
  | 2 => .array .int
  | _ => .int
theorem nmX1 : ∀ a, a < 4 → ∀ b, b < 4 → a ≠ b → (TX1 a).2.1 ≠ (TX1 b).2.1 := by decide +kernel
theorem tyX1_ok : ∀ k, k < 4 → parseFieldDescriptor (TX1 k).2.2.1 = some (tyX1 k) := by decide +kernel
abbrev cX1_init : ByteArray := prog_3_method_1_code
def yX1_init : MethodName := ⟨RX1, "<init>", "()V"⟩
abbrev cX1_spread : ByteArray := prog_3_method_2_code
def yX1_spread : MethodName := ⟨RX1, "spread", "(II)V"⟩
abbrev cX1_stepsTo : ByteArray := prog_3_method_3_code
def yX1_stepsTo : MethodName := ⟨RX1, "stepsTo", "(I)I"⟩
abbrev cX1_forget : ByteArray := prog_3_method_4_code
def yX1_forget : MethodName := ⟨RX1, "forget", "()V"⟩
abbrev cX1_meetAllBeside : ByteArray := prog_3_method_5_code
def yX1_meetAllBeside : MethodName := ⟨RX1, "meetAllBeside", "(III)V"⟩
abbrev cX1_meet : ByteArray := prog_3_method_6_code
def yX1_meet : MethodName := ⟨RX1, "meet", "(II)V"⟩
def RX2 : String := "WeighedLots$Rows"
def TX2 : u_T := fun k => match k with
  | 0 => ("WeighedLots$Rows", "firsts", "[I", true)
  | 1 => ("WeighedLots$Rows", "seconds", "[I", true)
  | _ => ("WeighedLots$Rows", "size", "I", false)
def tyX2 : Nat → FieldType := fun k => match k with
  | 0 => .array .int
  | 1 => .array .int
  | _ => .int
theorem nmX2 : ∀ a, a < 3 → ∀ b, b < 3 → a ≠ b → (TX2 a).2.1 ≠ (TX2 b).2.1 := by decide +kernel
theorem tyX2_ok : ∀ k, k < 3 → parseFieldDescriptor (TX2 k).2.2.1 = some (tyX2 k) := by decide +kernel
abbrev cX2_init : ByteArray := prog_4_method_1_code
def yX2_init : MethodName := ⟨RX2, "<init>", "(I)V"⟩
abbrev cX2_append : ByteArray := prog_4_method_2_code
def yX2_append : MethodName := ⟨RX2, "append", "(II)Z"⟩
abbrev cX2_copyFrom : ByteArray := prog_4_method_3_code
def yX2_copyFrom : MethodName := ⟨RX2, "copyFrom", "(LWeighedLots$Rows;)V"⟩
def RX3 : String := "WeighedLots$Scales"
def TX3 : u_T := fun k => match k with
  | 0 => ("WeighedLots$Scales", "weights", "[I", true)
  | 1 => ("WeighedLots$Scales", "quota", "I", false)
  | 2 => ("WeighedLots$Scales", "lows", "[I", true)
  | 3 => ("WeighedLots$Scales", "highs", "[I", true)
  | 4 => ("WeighedLots$Scales", "tried", "[I", true)
  | 5 => ("WeighedLots$Scales", "leastTogether", "I", false)
  | 6 => ("WeighedLots$Scales", "leastYes", "I", false)
  | _ => ("WeighedLots$Scales", "greatestNo", "I", false)
def tyX3 : Nat → FieldType := fun k => match k with
  | 0 => .array .int
  | 1 => .int
  | 2 => .array .int
  | 3 => .array .int
  | 4 => .array .int
  | 5 => .int
  | 6 => .int
  | _ => .int
theorem nmX3 : ∀ a, a < 8 → ∀ b, b < 8 → a ≠ b → (TX3 a).2.1 ≠ (TX3 b).2.1 := by decide +kernel
theorem tyX3_ok : ∀ k, k < 8 → parseFieldDescriptor (TX3 k).2.2.1 = some (tyX3 k) := by decide +kernel
abbrev cX3_init : ByteArray := prog_5_method_1_code
def yX3_init : MethodName := ⟨RX3, "<init>", "()V"⟩
abbrev cX3_worth : ByteArray := prog_5_method_2_code
def yX3_worth : MethodName := ⟨RX3, "worth", "([II)I"⟩
abbrev cX3_balance : ByteArray := prog_5_method_3_code
def yX3_balance : MethodName := ⟨RX3, "balance", "(II)Z"⟩
abbrev cX3_setBounds : ByteArray := prog_5_method_4_code
def yX3_setBounds : MethodName := ⟨RX3, "setBounds", "(II)Z"⟩
abbrev cX3_tryAll : ByteArray := prog_5_method_5_code
def yX3_tryAll : MethodName := ⟨RX3, "tryAll", "(II)V"⟩
abbrev cX3_holdIfLess : ByteArray := prog_5_method_6_code
def yX3_holdIfLess : MethodName := ⟨RX3, "holdIfLess", "(II)V"⟩
abbrev cX3_divides : ByteArray := prog_5_method_7_code
def yX3_divides : MethodName := ⟨RX3, "divides", "([III)Z"⟩
def RX4 : String := "WeighedLots$Setup"
def TX4 : u_T := fun k => match k with
  | 0 => ("WeighedLots$Setup", "n", "I", false)
  | 1 => ("WeighedLots$Setup", "code", "I", false)
  | 2 => ("WeighedLots$Setup", "kept", "I", false)
  | 3 => ("WeighedLots$Setup", "weights", "[I", true)
  | 4 => ("WeighedLots$Setup", "quota", "I", false)
  | 5 => ("WeighedLots$Setup", "seen", "LWeighedLots$Rows;", true)
  | 6 => ("WeighedLots$Setup", "events", "LWeighedLots$Rows;", true)
  | _ => ("WeighedLots$Setup", "book", "LWeighedLots$Rows;", true)
def tyX4 : Nat → FieldType := fun k => match k with
  | 0 => .int
  | 1 => .int
  | 2 => .int
  | 3 => .array .int
  | 4 => .int
  | 5 => .object "WeighedLots$Rows"
  | 6 => .object "WeighedLots$Rows"
  | _ => .object "WeighedLots$Rows"
theorem nmX4 : ∀ a, a < 8 → ∀ b, b < 8 → a ≠ b → (TX4 a).2.1 ≠ (TX4 b).2.1 := by decide +kernel
theorem tyX4_ok : ∀ k, k < 8 → parseFieldDescriptor (TX4 k).2.2.1 = some (tyX4 k) := by decide +kernel
abbrev cX4_init : ByteArray := prog_6_method_1_code
def yX4_init : MethodName := ⟨RX4, "<init>", "()V"⟩
abbrev cX4_startAnew : ByteArray := prog_6_method_2_code
def yX4_startAnew : MethodName := ⟨RX4, "startAnew", "(I)V"⟩
abbrev cX4_copyFrom : ByteArray := prog_6_method_3_code
def yX4_copyFrom : MethodName := ⟨RX4, "copyFrom", "(LWeighedLots$Setup;)V"⟩
abbrev cX4_copyRow : ByteArray := prog_6_method_4_code
def yX4_copyRow : MethodName := ⟨RX4, "copyRow", "([I[I)V"⟩
abbrev cX4_lots : ByteArray := prog_6_method_5_code
def yX4_lots : MethodName := ⟨RX4, "lots", "()I"⟩
abbrev cX4_hasLot : ByteArray := prog_6_method_6_code
def yX4_hasLot : MethodName := ⟨RX4, "hasLot", "(I)Z"⟩
abbrev cX4_hasVoter : ByteArray := prog_6_method_7_code
def yX4_hasVoter : MethodName := ⟨RX4, "hasVoter", "(I)Z"⟩
abbrev cX4_worthOf : ByteArray := prog_6_method_8_code
def yX4_worthOf : MethodName := ⟨RX4, "worthOf", "(I)I"⟩
abbrev cX4_weighed : ByteArray := prog_6_method_9_code
def yX4_weighed : MethodName := ⟨RX4, "weighed", "()I"⟩
def RX5 : String := "WeighedLots$SetupText"
def TX5 : u_T := fun k => match k with
  | 0 => ("WeighedLots$SetupText", "signs", "[I", true)
  | 1 => ("WeighedLots$SetupText", "length", "I", false)
  | 2 => ("WeighedLots$SetupText", "place", "I", false)
  | 3 => ("WeighedLots$SetupText", "kinds", "[I", true)
  | 4 => ("WeighedLots$SetupText", "firsts", "[I", true)
  | 5 => ("WeighedLots$SetupText", "seconds", "[I", true)
  | _ => ("WeighedLots$SetupText", "clauses", "I", false)
def tyX5 : Nat → FieldType := fun k => match k with
  | 0 => .array .int
  | 1 => .int
  | 2 => .int
  | 3 => .array .int
  | 4 => .array .int
  | 5 => .array .int
  | _ => .int
theorem nmX5 : ∀ a, a < 7 → ∀ b, b < 7 → a ≠ b → (TX5 a).2.1 ≠ (TX5 b).2.1 := by decide +kernel
theorem tyX5_ok : ∀ k, k < 7 → parseFieldDescriptor (TX5 k).2.2.1 = some (tyX5 k) := by decide +kernel
abbrev cX5_init : ByteArray := prog_7_method_1_code
def yX5_init : MethodName := ⟨RX5, "<init>", "()V"⟩
abbrev cX5_append : ByteArray := prog_7_method_2_code
def yX5_append : MethodName := ⟨RX5, "append", "(I)Z"⟩
abbrev cX5_parse : ByteArray := prog_7_method_3_code
def yX5_parse : MethodName := ⟨RX5, "parse", "()I"⟩
abbrev cX5_sign : ByteArray := prog_7_method_4_code
def yX5_sign : MethodName := ⟨RX5, "sign", "()I"⟩
abbrev cX5_isDigit : ByteArray := prog_7_method_5_code
def yX5_isDigit : MethodName := ⟨RX5, "isDigit", "()Z"⟩
abbrev cX5_takeClause : ByteArray := prog_7_method_6_code
def yX5_takeClause : MethodName := ⟨RX5, "takeClause", "(I)Z"⟩
abbrev cX5_takeDigit : ByteArray := prog_7_method_7_code
def yX5_takeDigit : MethodName := ⟨RX5, "takeDigit", "([II)Z"⟩
abbrev cX5_takeNumber : ByteArray := prog_7_method_8_code
def yX5_takeNumber : MethodName := ⟨RX5, "takeNumber", "([II)Z"⟩
abbrev cX5_takeLot : ByteArray := prog_7_method_9_code
def yX5_takeLot : MethodName := ⟨RX5, "takeLot", "(I)V"⟩
def RX6 : String := "WeighedLots$Tape"
def TX6 : u_T := fun k => match k with
  | 0 => ("WeighedLots$Tape", "sort", "I", false)
  | 1 => ("WeighedLots$Tape", "size", "I", false)
  | _ => ("WeighedLots$Tape", "items", "[J", true)
def tyX6 : Nat → FieldType := fun k => match k with
  | 0 => .int
  | 1 => .int
  | _ => .array .long
theorem nmX6 : ∀ a, a < 3 → ∀ b, b < 3 → a ≠ b → (TX6 a).2.1 ≠ (TX6 b).2.1 := by decide +kernel
theorem tyX6_ok : ∀ k, k < 3 → parseFieldDescriptor (TX6 k).2.2.1 = some (tyX6 k) := by decide +kernel
abbrev cX6_init : ByteArray := prog_8_method_1_code
def yX6_init : MethodName := ⟨RX6, "<init>", "()V"⟩
abbrev cX6_become : ByteArray := prog_8_method_2_code
def yX6_become : MethodName := ⟨RX6, "become", "(II)V"⟩
abbrev cX6_holdsNothing : ByteArray := prog_8_method_3_code
def yX6_holdsNothing : MethodName := ⟨RX6, "holdsNothing", "()Z"⟩
abbrev cX6_hasPlace : ByteArray := prog_8_method_4_code
def yX6_hasPlace : MethodName := ⟨RX6, "hasPlace", "(I)Z"⟩
abbrev cX6_hasStretch : ByteArray := prog_8_method_5_code
def yX6_hasStretch : MethodName := ⟨RX6, "hasStretch", "(II)Z"⟩
abbrev cX6_cut : ByteArray := prog_8_method_6_code
def yX6_cut : MethodName := ⟨RX6, "cut", "(J)J"⟩
def RX7 : String := "WeighedLots$Trades"
def TX7 : u_T := fun k => match k with
  | 0 => ("WeighedLots$Trades", "many", "I", false)
  | _ => ("WeighedLots$Trades", "first", "[I", true)
def tyX7 : Nat → FieldType := fun k => match k with
  | 0 => .int
  | _ => .array .int
theorem nmX7 : ∀ a, a < 2 → ∀ b, b < 2 → a ≠ b → (TX7 a).2.1 ≠ (TX7 b).2.1 := by decide +kernel
theorem tyX7_ok : ∀ k, k < 2 → parseFieldDescriptor (TX7 k).2.2.1 = some (tyX7 k) := by decide +kernel
abbrev cX7_init : ByteArray := prog_9_method_1_code
def yX7_init : MethodName := ⟨RX7, "<init>", "()V"⟩
abbrev cX7_find : ByteArray := prog_9_method_2_code
def yX7_find : MethodName := ⟨RX7, "find", "(II)V"⟩
abbrev cX7_findFor : ByteArray := prog_9_method_3_code
def yX7_findFor : MethodName := ⟨RX7, "findFor", "(IIII)V"⟩
abbrev cX7_addTrade : ByteArray := prog_9_method_4_code
def yX7_addTrade : MethodName := ⟨RX7, "addTrade", "(IIII)V"⟩
def RX8 : String := "WeighedLots$Twins"
def TX8 : u_T := fun k => match k with
  | _ => ("WeighedLots$Twins", "manyOfKey", "[I", true)
def tyX8 : Nat → FieldType := fun k => match k with
  | _ => .array .int
theorem nmX8 : ∀ a, a < 1 → ∀ b, b < 1 → a ≠ b → (TX8 a).2.1 ≠ (TX8 b).2.1 := by decide +kernel
theorem tyX8_ok : ∀ k, k < 1 → parseFieldDescriptor (TX8 k).2.2.1 = some (tyX8 k) := by decide +kernel
abbrev cX8_init : ByteArray := prog_10_method_1_code
def yX8_init : MethodName := ⟨RX8, "<init>", "()V"⟩
abbrev cX8_ofCode : ByteArray := prog_10_method_2_code
def yX8_ofCode : MethodName := ⟨RX8, "ofCode", "(II)I"⟩
abbrev cX8_countKeys : ByteArray := prog_10_method_3_code
def yX8_countKeys : MethodName := ⟨RX8, "countKeys", "(II)V"⟩
abbrev cX8_key : ByteArray := prog_10_method_4_code
def yX8_key : MethodName := ⟨RX8, "key", "(I)I"⟩
def RX9 : String := "WeighedLots"
def TX9 : u_T := fun k => match k with
  | 0 => ("WeighedLots", "now", "LWeighedLots$Setup;", true)
  | 1 => ("WeighedLots", "image", "LWeighedLots$Setup;", true)
  | 2 => ("WeighedLots", "imageTaken", "Z", false)
  | 3 => ("WeighedLots", "text", "LWeighedLots$SetupText;", true)
  | 4 => ("WeighedLots", "tapes", "[LWeighedLots$Tape;", true)
  | 5 => ("WeighedLots", "scales", "LWeighedLots$Scales;", true)
  | 6 => ("WeighedLots", "orbit", "LWeighedLots$Orbit;", true)
  | 7 => ("WeighedLots", "trades", "LWeighedLots$Trades;", true)
  | _ => ("WeighedLots", "twins", "LWeighedLots$Twins;", true)
def tyX9 : Nat → FieldType := fun k => match k with
  | 0 => .object "WeighedLots$Setup"
  | 1 => .object "WeighedLots$Setup"
  | 2 => .boolean
  | 3 => .object "WeighedLots$SetupText"
  | 4 => .array (.object "WeighedLots$Tape")
  | 5 => .object "WeighedLots$Scales"
  | 6 => .object "WeighedLots$Orbit"
  | 7 => .object "WeighedLots$Trades"
  | _ => .object "WeighedLots$Twins"
theorem nmX9 : ∀ a, a < 9 → ∀ b, b < 9 → a ≠ b → (TX9 a).2.1 ≠ (TX9 b).2.1 := by decide +kernel
theorem tyX9_ok : ∀ k, k < 9 → parseFieldDescriptor (TX9 k).2.2.1 = some (tyX9 k) := by decide +kernel
abbrev cX9_init : ByteArray := prog_1_method_1_code
def yX9_init : MethodName := ⟨RX9, "<init>", "()V"⟩
abbrev cX9_voters : ByteArray := prog_1_method_2_code
def yX9_voters : MethodName := ⟨RX9, "voters", "(I)I"⟩
abbrev cX9_say : ByteArray := prog_1_method_3_code
def yX9_say : MethodName := ⟨RX9, "say", "(II)I"⟩
abbrev cX9_code : ByteArray := prog_1_method_4_code
def yX9_code : MethodName := ⟨RX9, "code", "(I)I"⟩
abbrev cX9_weight : ByteArray := prog_1_method_5_code
def yX9_weight : MethodName := ⟨RX9, "weight", "(II)I"⟩
abbrev cX9_quota : ByteArray := prog_1_method_6_code
def yX9_quota : MethodName := ⟨RX9, "quota", "(I)I"⟩
abbrev cX9_weigh : ByteArray := prog_1_method_7_code
def yX9_weigh : MethodName := ⟨RX9, "weigh", "()I"⟩
abbrev cX9_becomes : ByteArray := prog_1_method_8_code
def yX9_becomes : MethodName := ⟨RX9, "becomes", "(I)I"⟩
abbrev cX9_takeLeastWeights : ByteArray := prog_1_method_9_code
def yX9_takeLeastWeights : MethodName := ⟨RX9, "takeLeastWeights", "()I"⟩
abbrev cX9_turn : ByteArray := prog_1_method_10_code
def yX9_turn : MethodName := ⟨RX9, "turn", "(I)I"⟩
abbrev cX9_exchange : ByteArray := prog_1_method_11_code
def yX9_exchange : MethodName := ⟨RX9, "exchange", "(II)I"⟩
abbrev cX9_keep : ByteArray := prog_1_method_12_code
def yX9_keep : MethodName := ⟨RX9, "keep", "()I"⟩
abbrev cX9_feed : ByteArray := prog_1_method_13_code
def yX9_feed : MethodName := ⟨RX9, "feed", "(I)I"⟩
abbrev cX9_read : ByteArray := prog_1_method_14_code
def yX9_read : MethodName := ⟨RX9, "read", "()I"⟩
abbrev cX9_carryOut : ByteArray := prog_1_method_15_code
def yX9_carryOut : MethodName := ⟨RX9, "carryOut", "(III)I"⟩
abbrev cX9_of : ByteArray := prog_1_method_16_code
def yX9_of : MethodName := ⟨RX9, "of", "(II)I"⟩
abbrev cX9_told : ByteArray := prog_1_method_17_code
def yX9_told : MethodName := ⟨RX9, "told", "(I)I"⟩
abbrev cX9_weightOf : ByteArray := prog_1_method_18_code
def yX9_weightOf : MethodName := ⟨RX9, "weightOf", "(II)I"⟩
abbrev cX9_least : ByteArray := prog_1_method_19_code
def yX9_least : MethodName := ⟨RX9, "least", "()I"⟩
abbrev cX9_chow : ByteArray := prog_1_method_20_code
def yX9_chow : MethodName := ⟨RX9, "chow", "(I)I"⟩
abbrev cX9_trade : ByteArray := prog_1_method_21_code
def yX9_trade : MethodName := ⟨RX9, "trade", "(I)I"⟩
abbrev cX9_leastLot : ByteArray := prog_1_method_22_code
def yX9_leastLot : MethodName := ⟨RX9, "leastLot", "(I)I"⟩
abbrev cX9_swings : ByteArray := prog_1_method_23_code
def yX9_swings : MethodName := ⟨RX9, "swings", "(I)I"⟩
abbrev cX9_see : ByteArray := prog_1_method_24_code
def yX9_see : MethodName := ⟨RX9, "see", "(II)I"⟩
abbrev cX9_fits : ByteArray := prog_1_method_25_code
def yX9_fits : MethodName := ⟨RX9, "fits", "(I)I"⟩
abbrev cX9_leastFit : ByteArray := prog_1_method_26_code
def yX9_leastFit : MethodName := ⟨RX9, "leastFit", "()I"⟩
abbrev cX9_greatestFit : ByteArray := prog_1_method_27_code
def yX9_greatestFit : MethodName := ⟨RX9, "greatestFit", "()I"⟩
abbrev cX9_odds : ByteArray := prog_1_method_28_code
def yX9_odds : MethodName := ⟨RX9, "odds", "(II)J"⟩
abbrev cX9_mean : ByteArray := prog_1_method_29_code
def yX9_mean : MethodName := ⟨RX9, "mean", "(I)J"⟩
abbrev cX9_partOfFraction : ByteArray := prog_1_method_30_code
def yX9_partOfFraction : MethodName := ⟨RX9, "partOfFraction", "(III)J"⟩
abbrev cX9_greatestCommonDivisor : ByteArray := prog_1_method_31_code
def yX9_greatestCommonDivisor : MethodName := ⟨RX9, "greatestCommonDivisor", "(II)I"⟩
abbrev cX9_event : ByteArray := prog_1_method_32_code
def yX9_event : MethodName := ⟨RX9, "event", "(II)I"⟩
abbrev cX9_eventFinds : ByteArray := prog_1_method_33_code
def yX9_eventFinds : MethodName := ⟨RX9, "eventFinds", "(II)Z"⟩
abbrev cX9_after : ByteArray := prog_1_method_34_code
def yX9_after : MethodName := ⟨RX9, "after", "(I)I"⟩
abbrev cX9_codeBehindEvents : ByteArray := prog_1_method_35_code
def yX9_codeBehindEvents : MethodName := ⟨RX9, "codeBehindEvents", "()I"⟩
abbrev cX9_codeBehind : ByteArray := prog_1_method_36_code
def yX9_codeBehind : MethodName := ⟨RX9, "codeBehind", "(III)I"⟩
abbrev cX9_book : ByteArray := prog_1_method_37_code
def yX9_book : MethodName := ⟨RX9, "book", "(II)I"⟩
abbrev cX9_looked : ByteArray := prog_1_method_38_code
def yX9_looked : MethodName := ⟨RX9, "looked", "()I"⟩
abbrev cX9_addSaying : ByteArray := prog_1_method_39_code
def yX9_addSaying : MethodName := ⟨RX9, "addSaying", "(LWeighedLots$Rows;II)I"⟩
abbrev cX9_judge : ByteArray := prog_1_method_40_code
def yX9_judge : MethodName := ⟨RX9, "judge", "(II)I"⟩
abbrev cX9_image : ByteArray := prog_1_method_41_code
def yX9_image : MethodName := ⟨RX9, "image", "()I"⟩
abbrev cX9_undo : ByteArray := prog_1_method_42_code
def yX9_undo : MethodName := ⟨RX9, "undo", "()I"⟩
abbrev cX9_count : ByteArray := prog_1_method_43_code
def yX9_count : MethodName := ⟨RX9, "count", "(I)I"⟩
abbrev cX9_tape : ByteArray := prog_1_method_44_code
def yX9_tape : MethodName := ⟨RX9, "tape", "(III)I"⟩
abbrev cX9_item : ByteArray := prog_1_method_45_code
def yX9_item : MethodName := ⟨RX9, "item", "(IIJ)I"⟩
abbrev cX9_peek : ByteArray := prog_1_method_46_code
def yX9_peek : MethodName := ⟨RX9, "peek", "(II)J"⟩
abbrev cX9_shift : ByteArray := prog_1_method_47_code
def yX9_shift : MethodName := ⟨RX9, "shift", "(IIIII)I"⟩
abbrev cX9_isTape : ByteArray := prog_1_method_48_code
def yX9_isTape : MethodName := ⟨RX9, "isTape", "(I)Z"⟩
abbrev cX9_isYesOrNo : ByteArray := prog_1_method_49_code
def yX9_isYesOrNo : MethodName := ⟨RX9, "isYesOrNo", "(I)Z"⟩
abbrev cX9_oneIf : ByteArray := prog_1_method_50_code
def yX9_oneIf : MethodName := ⟨RX9, "oneIf", "(Z)I"⟩
def RX10 : String := "WeighedLotsModel"
def TX10 : u_T := fun k => match k with
  | 0 => ("WeighedLotsModel", "g", "[I", true)
  | 1 => ("WeighedLotsModel", "image", "[I", true)
  | 2 => ("WeighedLotsModel", "hasImage", "Z", false)
  | 3 => ("WeighedLotsModel", "row", "[I", true)
  | 4 => ("WeighedLotsModel", "best", "[I", true)
  | 5 => ("WeighedLotsModel", "bestSum", "I", false)
  | 6 => ("WeighedLotsModel", "away", "[I", true)
  | 7 => ("WeighedLotsModel", "waiting", "[I", true)
  | 8 => ("WeighedLotsModel", "text", "[I", true)
  | 9 => ("WeighedLotsModel", "signs", "I", false)
  | 10 => ("WeighedLotsModel", "at", "I", false)
  | 11 => ("WeighedLotsModel", "digit", "[I", true)
  | 12 => ("WeighedLotsModel", "digits", "I", false)
  | 13 => ("WeighedLotsModel", "number", "I", false)
  | 14 => ("WeighedLotsModel", "sorts", "[I", true)
  | 15 => ("WeighedLotsModel", "lengths", "[I", true)
  | 16 => ("WeighedLotsModel", "items", "[[J", true)
  | _ => ("WeighedLotsModel", "between", "[J", true)
def tyX10 : Nat → FieldType := fun k => match k with
  | 0 => .array .int
  | 1 => .array .int
  | 2 => .boolean
  | 3 => .array .int
  | 4 => .array .int
  | 5 => .int
  | 6 => .array .int
  | 7 => .array .int
  | 8 => .array .int
  | 9 => .int
  | 10 => .int
  | 11 => .array .int
  | 12 => .int
  | 13 => .int
  | 14 => .array .int
  | 15 => .array .int
  | 16 => .array (.array .long)
  | _ => .array .long
theorem nmX10 : ∀ a, a < 18 → ∀ b, b < 18 → a ≠ b → (TX10 a).2.1 ≠ (TX10 b).2.1 := by decide +kernel
theorem tyX10_ok : ∀ k, k < 18 → parseFieldDescriptor (TX10 k).2.2.1 = some (tyX10 k) := by decide +kernel
abbrev cX10_init : ByteArray := prog_12_method_1_code
def yX10_init : MethodName := ⟨RX10, "<init>", "()V"⟩
abbrev cX10_in : ByteArray := prog_12_method_2_code
def yX10_in : MethodName := ⟨RX10, "in", "(JJJ)Z"⟩
abbrev cX10_starts : ByteArray := prog_12_method_3_code
def yX10_starts : MethodName := ⟨RX10, "starts", "(I)V"⟩
abbrev cX10_lots : ByteArray := prog_12_method_4_code
def yX10_lots : MethodName := ⟨RX10, "lots", "()I"⟩
abbrev cX10_most : ByteArray := prog_12_method_5_code
def yX10_most : MethodName := ⟨RX10, "most", "()I"⟩
abbrev cX10_isLot : ByteArray := prog_12_method_6_code
def yX10_isLot : MethodName := ⟨RX10, "isLot", "(I)Z"⟩
abbrev cX10_isVoter : ByteArray := prog_12_method_7_code
def yX10_isVoter : MethodName := ⟨RX10, "isVoter", "(I)Z"⟩
abbrev cX10_is : ByteArray := prog_12_method_8_code
def yX10_is : MethodName := ⟨RX10, "is", "(II)Z"⟩
abbrev cX10_bit : ByteArray := prog_12_method_9_code
def yX10_bit : MethodName := ⟨RX10, "bit", "(Z)I"⟩
abbrev cX10_voters : ByteArray := prog_12_method_10_code
def yX10_voters : MethodName := ⟨RX10, "voters", "(I)I"⟩
abbrev cX10_say : ByteArray := prog_12_method_11_code
def yX10_say : MethodName := ⟨RX10, "say", "(II)I"⟩
abbrev cX10_code : ByteArray := prog_12_method_12_code
def yX10_code : MethodName := ⟨RX10, "code", "(I)I"⟩
abbrev cX10_weight : ByteArray := prog_12_method_13_code
def yX10_weight : MethodName := ⟨RX10, "weight", "(II)I"⟩
abbrev cX10_quota : ByteArray := prog_12_method_14_code
def yX10_quota : MethodName := ⟨RX10, "quota", "(I)I"⟩
abbrev cX10_worth : ByteArray := prog_12_method_15_code
def yX10_worth : MethodName := ⟨RX10, "worth", "(I)I"⟩
abbrev cX10_weighed : ByteArray := prog_12_method_16_code
def yX10_weighed : MethodName := ⟨RX10, "weighed", "()I"⟩
abbrev cX10_weigh : ByteArray := prog_12_method_17_code
def yX10_weigh : MethodName := ⟨RX10, "weigh", "()I"⟩
abbrev cX10_dual : ByteArray := prog_12_method_18_code
def yX10_dual : MethodName := ⟨RX10, "dual", "(I)I"⟩
abbrev cX10_turned : ByteArray := prog_12_method_19_code
def yX10_turned : MethodName := ⟨RX10, "turned", "(II)I"⟩
abbrev cX10_changed : ByteArray := prog_12_method_20_code
def yX10_changed : MethodName := ⟨RX10, "changed", "(III)I"⟩
abbrev cX10_becomes : ByteArray := prog_12_method_21_code
def yX10_becomes : MethodName := ⟨RX10, "becomes", "(I)I"⟩
abbrev cX10_turn : ByteArray := prog_12_method_22_code
def yX10_turn : MethodName := ⟨RX10, "turn", "(I)I"⟩
abbrev cX10_exchange : ByteArray := prog_12_method_23_code
def yX10_exchange : MethodName := ⟨RX10, "exchange", "(II)I"⟩
abbrev cX10_keep : ByteArray := prog_12_method_24_code
def yX10_keep : MethodName := ⟨RX10, "keep", "()I"⟩
abbrev cX10_worthBy : ByteArray := prog_12_method_25_code
def yX10_worthBy : MethodName := ⟨RX10, "worthBy", "([II)I"⟩
abbrev cX10_tells : ByteArray := prog_12_method_26_code
def yX10_tells : MethodName := ⟨RX10, "tells", "(I)Z"⟩
abbrev cX10_tries : ByteArray := prog_12_method_27_code
def yX10_tries : MethodName := ⟨RX10, "tries", "(III)V"⟩
abbrev cX10_isLinear : ByteArray := prog_12_method_28_code
def yX10_isLinear : MethodName := ⟨RX10, "isLinear", "(I)Z"⟩
abbrev cX10_leastQuota : ByteArray := prog_12_method_29_code
def yX10_leastQuota : MethodName := ⟨RX10, "leastQuota", "(I)I"⟩
abbrev cX10_weightOf : ByteArray := prog_12_method_30_code
def yX10_weightOf : MethodName := ⟨RX10, "weightOf", "(II)I"⟩
abbrev cX10_least : ByteArray := prog_12_method_31_code
def yX10_least : MethodName := ⟨RX10, "least", "()I"⟩
abbrev cX10_of : ByteArray := prog_12_method_32_code
def yX10_of : MethodName := ⟨RX10, "of", "(II)I"⟩
abbrev cX10_isRising : ByteArray := prog_12_method_33_code
def yX10_isRising : MethodName := ⟨RX10, "isRising", "()Z"⟩
abbrev cX10_chowOf : ByteArray := prog_12_method_34_code
def yX10_chowOf : MethodName := ⟨RX10, "chowOf", "(II)I"⟩
abbrev cX10_chow : ByteArray := prog_12_method_35_code
def yX10_chow : MethodName := ⟨RX10, "chow", "(I)I"⟩
abbrev cX10_twins : ByteArray := prog_12_method_36_code
def yX10_twins : MethodName := ⟨RX10, "twins", "()I"⟩
abbrev cX10_isLeastLot : ByteArray := prog_12_method_37_code
def yX10_isLeastLot : MethodName := ⟨RX10, "isLeastLot", "(I)Z"⟩
abbrev cX10_nthLeast : ByteArray := prog_12_method_38_code
def yX10_nthLeast : MethodName := ⟨RX10, "nthLeast", "(I)I"⟩
abbrev cX10_leastLot : ByteArray := prog_12_method_39_code
def yX10_leastLot : MethodName := ⟨RX10, "leastLot", "(I)I"⟩
abbrev cX10_swings : ByteArray := prog_12_method_40_code
def yX10_swings : MethodName := ⟨RX10, "swings", "(I)I"⟩
abbrev cX10_moved : ByteArray := prog_12_method_41_code
def yX10_moved : MethodName := ⟨RX10, "moved", "(II)I"⟩
abbrev cX10_reached : ByteArray := prog_12_method_42_code
def yX10_reached : MethodName := ⟨RX10, "reached", "()I"⟩
abbrev cX10_steps : ByteArray := prog_12_method_43_code
def yX10_steps : MethodName := ⟨RX10, "steps", "()I"⟩
abbrev cX10_told : ByteArray := prog_12_method_44_code
def yX10_told : MethodName := ⟨RX10, "told", "(I)I"⟩
abbrev cX10_isTrade : ByteArray := prog_12_method_45_code
def yX10_isTrade : MethodName := ⟨RX10, "isTrade", "(IIII)Z"⟩
abbrev cX10_trade : ByteArray := prog_12_method_46_code
def yX10_trade : MethodName := ⟨RX10, "trade", "(I)I"⟩
abbrev cX10_see : ByteArray := prog_12_method_47_code
def yX10_see : MethodName := ⟨RX10, "see", "(II)I"⟩
abbrev cX10_isSeenBy : ByteArray := prog_12_method_48_code
def yX10_isSeenBy : MethodName := ⟨RX10, "isSeenBy", "(I)Z"⟩
abbrev cX10_fits : ByteArray := prog_12_method_49_code
def yX10_fits : MethodName := ⟨RX10, "fits", "(I)I"⟩
abbrev cX10_lowest : ByteArray := prog_12_method_50_code
def yX10_lowest : MethodName := ⟨RX10, "lowest", "(JJI)J"⟩
abbrev cX10_odds : ByteArray := prog_12_method_51_code
def yX10_odds : MethodName := ⟨RX10, "odds", "(II)J"⟩
abbrev cX10_mean : ByteArray := prog_12_method_52_code
def yX10_mean : MethodName := ⟨RX10, "mean", "(I)J"⟩
abbrev cX10_isThere : ByteArray := prog_12_method_53_code
def yX10_isThere : MethodName := ⟨RX10, "isThere", "(II)Z"⟩
abbrev cX10_event : ByteArray := prog_12_method_54_code
def yX10_event : MethodName := ⟨RX10, "event", "(II)I"⟩
abbrev cX10_after : ByteArray := prog_12_method_55_code
def yX10_after : MethodName := ⟨RX10, "after", "(I)I"⟩
abbrev cX10_book : ByteArray := prog_12_method_56_code
def yX10_book : MethodName := ⟨RX10, "book", "(II)I"⟩
abbrev cX10_looked : ByteArray := prog_12_method_57_code
def yX10_looked : MethodName := ⟨RX10, "looked", "()I"⟩
abbrev cX10_feed : ByteArray := prog_12_method_58_code
def yX10_feed : MethodName := ⟨RX10, "feed", "(I)I"⟩
abbrev cX10_here : ByteArray := prog_12_method_59_code
def yX10_here : MethodName := ⟨RX10, "here", "()I"⟩
abbrev cX10_isDigit : ByteArray := prog_12_method_60_code
def yX10_isDigit : MethodName := ⟨RX10, "isDigit", "()Z"⟩
abbrev cX10_takes : ByteArray := prog_12_method_61_code
def yX10_takes : MethodName := ⟨RX10, "takes", "(I)V"⟩
abbrev cX10_hasNumber : ByteArray := prog_12_method_62_code
def yX10_hasNumber : MethodName := ⟨RX10, "hasNumber", "()Z"⟩
abbrev cX10_hasClause : ByteArray := prog_12_method_63_code
def yX10_hasClause : MethodName := ⟨RX10, "hasClause", "()Z"⟩
abbrev cX10_isDone : ByteArray := prog_12_method_64_code
def yX10_isDone : MethodName := ⟨RX10, "isDone", "(I)Z"⟩
abbrev cX10_read : ByteArray := prog_12_method_65_code
def yX10_read : MethodName := ⟨RX10, "read", "()I"⟩
abbrev cX10_isTape : ByteArray := prog_12_method_66_code
def yX10_isTape : MethodName := ⟨RX10, "isTape", "(I)Z"⟩
abbrev cX10_judge : ByteArray := prog_12_method_67_code
def yX10_judge : MethodName := ⟨RX10, "judge", "(II)I"⟩
abbrev cX10_tape : ByteArray := prog_12_method_68_code
def yX10_tape : MethodName := ⟨RX10, "tape", "(III)I"⟩
abbrev cX10_item : ByteArray := prog_12_method_69_code
def yX10_item : MethodName := ⟨RX10, "item", "(IIJ)I"⟩
abbrev cX10_peek : ByteArray := prog_12_method_70_code
def yX10_peek : MethodName := ⟨RX10, "peek", "(II)J"⟩
abbrev cX10_shift : ByteArray := prog_12_method_71_code
def yX10_shift : MethodName := ⟨RX10, "shift", "(IIIII)I"⟩
abbrev cX10_image : ByteArray := prog_12_method_72_code
def yX10_image : MethodName := ⟨RX10, "image", "()I"⟩
abbrev cX10_undo : ByteArray := prog_12_method_73_code
def yX10_undo : MethodName := ⟨RX10, "undo", "()I"⟩
abbrev cX10_count : ByteArray := prog_12_method_74_code
def yX10_count : MethodName := ⟨RX10, "count", "(I)I"⟩
def RJ6 : String := "java/lang/Integer"
abbrev cJ6_bitCount_0f7a4 : ByteArray := prog_13_method_49_code
def yJ6_bitCount_0f7a4 : MethodName := ⟨RJ6, "bitCount", "(I)I"⟩
def RJ9 : String := "java/lang/Math"
abbrev cJ9_abs_0f7a4 : ByteArray := prog_14_method_59_code
def yJ9_abs_0f7a4 : MethodName := ⟨RJ9, "abs", "(I)I"⟩
abbrev cJ9_max_7cf53 : ByteArray := prog_14_method_65_code
def yJ9_max_7cf53 : MethodName := ⟨RJ9, "max", "(II)I"⟩
abbrev cJ9_min_7cf53 : ByteArray := prog_14_method_69_code
def yJ9_min_7cf53 : MethodName := ⟨RJ9, "min", "(II)I"⟩
def RJ10 : String := "java/lang/System"
def RL : String := "WeighedLotsLaw"
abbrev cL_law : ByteArray := code
def yL_law : MethodName := ⟨RL, "law", "([I)Z"⟩
abbrev vwCl : List vw_C := [(RX1, TX1, 4), (RX2, TX2, 3), (RX3, TX3, 8), (RX4, TX4, 8), (RX5, TX5, 7), (RX6, TX6, 3), (RX7, TX7, 2), (RX8, TX8, 1), (RX9, TX9, 9), (RX10, TX10, 18)]
end
section
theorem dX0_with_0 : decode cX0_with 0 = .ok (.getstatic 7, 3) := by decide +kernel
theorem dX0_with_3 : decode cX0_with 3 = .ok (.iload_n 0, 1) := by decide +kernel
theorem dX0_with_4 : decode cX0_with 4 = .ok (.iaload, 1) := by decide +kernel
theorem dX0_with_5 : decode cX0_with 5 = .ok (.ireturn, 1) := by decide +kernel
theorem dX0_allYes_0 : decode cX0_allYes 0 = .ok (.iconst 1, 1) := by decide +kernel
theorem dX0_allYes_1 : decode cX0_allYes 1 = .ok (.iconst 1, 1) := by decide +kernel
theorem dX0_allYes_2 : decode cX0_allYes 2 = .ok (.iload_n 0, 1) := by decide +kernel
theorem dX0_allYes_3 : decode cX0_allYes 3 = .ok (.ishl, 1) := by decide +kernel
theorem dX0_allYes_4 : decode cX0_allYes 4 = .ok (.ishl, 1) := by decide +kernel
theorem dX0_allYes_5 : decode cX0_allYes 5 = .ok (.iconst 1, 1) := by decide +kernel
theorem dX0_allYes_6 : decode cX0_allYes 6 = .ok (.isub, 1) := by decide +kernel
theorem dX0_allYes_7 : decode cX0_allYes 7 = .ok (.ireturn, 1) := by decide +kernel
theorem dX0_says_0 : decode cX0_says 0 = .ok (.iload_n 0, 1) := by decide +kernel
theorem dX0_says_1 : decode cX0_says 1 = .ok (.iload_n 1, 1) := by decide +kernel
theorem dX0_says_2 : decode cX0_says 2 = .ok (.ishr, 1) := by decide +kernel
theorem dX0_says_3 : decode cX0_says 3 = .ok (.iconst 1, 1) := by decide +kernel
theorem dX0_says_4 : decode cX0_says 4 = .ok (.iand, 1) := by decide +kernel
theorem dX0_says_5 : decode cX0_says 5 = .ok (.ireturn, 1) := by decide +kernel
theorem dX0_flipped_0 : decode cX0_flipped 0 = .ok (.iload_n 0, 1) := by decide +kernel
theorem dX0_flipped_1 : decode cX0_flipped 1 = .ok (.iconst 1, 1) := by decide +kernel
theorem dX0_flipped_2 : decode cX0_flipped 2 = .ok (.iload_n 1, 1) := by decide +kernel
theorem dX0_flipped_3 : decode cX0_flipped 3 = .ok (.ishl, 1) := by decide +kernel
theorem dX0_flipped_4 : decode cX0_flipped 4 = .ok (.ixor, 1) := by decide +kernel
theorem dX0_flipped_5 : decode cX0_flipped 5 = .ok (.ireturn, 1) := by decide +kernel
theorem dX0_opposite_0 : decode cX0_opposite 0 = .ok (.iload_n 1, 1) := by decide +kernel
theorem dX0_opposite_1 : decode cX0_opposite 1 = .ok (.iload_n 0, 1) := by decide +kernel
theorem dX0_opposite_2 : decode cX0_opposite 2 = .ok (.invokestatic 13, 3) := by decide +kernel
theorem dX0_opposite_5 : decode cX0_opposite 5 = .ok (.ixor, 1) := by decide +kernel
theorem dX0_opposite_6 : decode cX0_opposite 6 = .ok (.ireturn, 1) := by decide +kernel
theorem dX0_turned_0 : decode cX0_turned 0 = .ok (.iconst 1, 1) := by decide +kernel
theorem dX0_turned_1 : decode cX0_turned 1 = .ok (.iload_n 1, 1) := by decide +kernel
theorem dX0_turned_2 : decode cX0_turned 2 = .ok (.ishl, 1) := by decide +kernel
theorem dX0_turned_3 : decode cX0_turned 3 = .ok (.istore_n 2, 1) := by decide +kernel
theorem dX0_turned_4 : decode cX0_turned 4 = .ok (.iload_n 0, 1) := by decide +kernel
theorem dX0_turned_5 : decode cX0_turned 5 = .ok (.getstatic 7, 3) := by decide +kernel
theorem dX0_turned_8 : decode cX0_turned 8 = .ok (.iload_n 1, 1) := by decide +kernel
theorem dX0_turned_9 : decode cX0_turned 9 = .ok (.iaload, 1) := by decide +kernel
theorem dX0_turned_10 : decode cX0_turned 10 = .ok (.iand, 1) := by decide +kernel
theorem dX0_turned_11 : decode cX0_turned 11 = .ok (.iload_n 2, 1) := by decide +kernel
theorem dX0_turned_12 : decode cX0_turned 12 = .ok (.ishr, 1) := by decide +kernel
theorem dX0_turned_13 : decode cX0_turned 13 = .ok (.iload_n 0, 1) := by decide +kernel
theorem dX0_turned_14 : decode cX0_turned 14 = .ok (.getstatic 7, 3) := by decide +kernel
theorem dX0_turned_17 : decode cX0_turned 17 = .ok (.iload_n 1, 1) := by decide +kernel
theorem dX0_turned_18 : decode cX0_turned 18 = .ok (.iaload, 1) := by decide +kernel
theorem dX0_turned_19 : decode cX0_turned 19 = .ok (.iconst (-1), 1) := by decide +kernel
theorem dX0_turned_20 : decode cX0_turned 20 = .ok (.ixor, 1) := by decide +kernel
theorem dX0_turned_21 : decode cX0_turned 21 = .ok (.iand, 1) := by decide +kernel
theorem dX0_turned_22 : decode cX0_turned 22 = .ok (.iload_n 2, 1) := by decide +kernel
theorem dX0_turned_23 : decode cX0_turned 23 = .ok (.ishl, 1) := by decide +kernel
theorem dX0_turned_24 : decode cX0_turned 24 = .ok (.ior, 1) := by decide +kernel
theorem dX0_turned_25 : decode cX0_turned 25 = .ok (.ireturn, 1) := by decide +kernel
theorem dX0_dual_0 : decode cX0_dual 0 = .ok (.iload_n 1, 1) := by decide +kernel
theorem dX0_dual_1 : decode cX0_dual 1 = .ok (.istore_n 2, 1) := by decide +kernel
theorem dX0_dual_2 : decode cX0_dual 2 = .ok (.iconst 0, 1) := by decide +kernel
theorem dX0_dual_3 : decode cX0_dual 3 = .ok (.istore_n 3, 1) := by decide +kernel
theorem dX0_dual_4 : decode cX0_dual 4 = .ok (.iload_n 3, 1) := by decide +kernel
theorem dX0_dual_5 : decode cX0_dual 5 = .ok (.iload_n 0, 1) := by decide +kernel
theorem dX0_dual_6 : decode cX0_dual 6 = .ok (.if_icmp .ge 15, 3) := by decide +kernel
theorem dX0_dual_9 : decode cX0_dual 9 = .ok (.iload_n 2, 1) := by decide +kernel
theorem dX0_dual_10 : decode cX0_dual 10 = .ok (.iload_n 3, 1) := by decide +kernel
theorem dX0_dual_11 : decode cX0_dual 11 = .ok (.invokestatic 17, 3) := by decide +kernel
theorem dX0_dual_14 : decode cX0_dual 14 = .ok (.istore_n 2, 1) := by decide +kernel
theorem dX0_dual_15 : decode cX0_dual 15 = .ok (.iinc 3 1, 3) := by decide +kernel
theorem dX0_dual_18 : decode cX0_dual 18 = .ok (.goto (-14), 3) := by decide +kernel
theorem dX0_dual_21 : decode cX0_dual 21 = .ok (.iload_n 0, 1) := by decide +kernel
theorem dX0_dual_22 : decode cX0_dual 22 = .ok (.iload_n 2, 1) := by decide +kernel
theorem dX0_dual_23 : decode cX0_dual 23 = .ok (.invokestatic 21, 3) := by decide +kernel
theorem dX0_dual_26 : decode cX0_dual 26 = .ok (.ireturn, 1) := by decide +kernel
theorem dX0_changedAbout_0 : decode cX0_changedAbout 0 = .ok (.iload_n 1, 1) := by decide +kernel
theorem dX0_changedAbout_1 : decode cX0_changedAbout 1 = .ok (.iload_n 2, 1) := by decide +kernel
theorem dX0_changedAbout_2 : decode cX0_changedAbout 2 = .ok (.invokestatic 24, 3) := by decide +kernel
theorem dX0_changedAbout_5 : decode cX0_changedAbout 5 = .ok (.istore_n 3, 1) := by decide +kernel
theorem dX0_changedAbout_6 : decode cX0_changedAbout 6 = .ok (.iload_n 1, 1) := by decide +kernel
theorem dX0_changedAbout_7 : decode cX0_changedAbout 7 = .ok (.iload_n 2, 1) := by decide +kernel
theorem dX0_changedAbout_8 : decode cX0_changedAbout 8 = .ok (.invokestatic 29, 3) := by decide +kernel
theorem dX0_changedAbout_11 : decode cX0_changedAbout 11 = .ok (.istore 4, 2) := by decide +kernel
theorem dX0_changedAbout_13 : decode cX0_changedAbout 13 = .ok (.getstatic 7, 3) := by decide +kernel
theorem dX0_changedAbout_16 : decode cX0_changedAbout 16 = .ok (.iload_n 3, 1) := by decide +kernel
theorem dX0_changedAbout_17 : decode cX0_changedAbout 17 = .ok (.iaload, 1) := by decide +kernel
theorem dX0_changedAbout_18 : decode cX0_changedAbout 18 = .ok (.getstatic 7, 3) := by decide +kernel
theorem dX0_changedAbout_21 : decode cX0_changedAbout 21 = .ok (.iload 4, 2) := by decide +kernel
theorem dX0_changedAbout_23 : decode cX0_changedAbout 23 = .ok (.iaload, 1) := by decide +kernel
theorem dX0_changedAbout_24 : decode cX0_changedAbout 24 = .ok (.iconst (-1), 1) := by decide +kernel
theorem dX0_changedAbout_25 : decode cX0_changedAbout 25 = .ok (.ixor, 1) := by decide +kernel
theorem dX0_changedAbout_26 : decode cX0_changedAbout 26 = .ok (.iand, 1) := by decide +kernel
theorem dX0_changedAbout_27 : decode cX0_changedAbout 27 = .ok (.istore 5, 2) := by decide +kernel
theorem dX0_changedAbout_29 : decode cX0_changedAbout 29 = .ok (.getstatic 7, 3) := by decide +kernel
theorem dX0_changedAbout_32 : decode cX0_changedAbout 32 = .ok (.iload 4, 2) := by decide +kernel
theorem dX0_changedAbout_34 : decode cX0_changedAbout 34 = .ok (.iaload, 1) := by decide +kernel
theorem dX0_changedAbout_35 : decode cX0_changedAbout 35 = .ok (.getstatic 7, 3) := by decide +kernel
theorem dX0_changedAbout_38 : decode cX0_changedAbout 38 = .ok (.iload_n 3, 1) := by decide +kernel
theorem dX0_changedAbout_39 : decode cX0_changedAbout 39 = .ok (.iaload, 1) := by decide +kernel
theorem dX0_changedAbout_40 : decode cX0_changedAbout 40 = .ok (.iconst (-1), 1) := by decide +kernel
theorem dX0_changedAbout_41 : decode cX0_changedAbout 41 = .ok (.ixor, 1) := by decide +kernel
theorem dX0_changedAbout_42 : decode cX0_changedAbout 42 = .ok (.iand, 1) := by decide +kernel
theorem dX0_changedAbout_43 : decode cX0_changedAbout 43 = .ok (.istore 6, 2) := by decide +kernel
theorem dX0_changedAbout_45 : decode cX0_changedAbout 45 = .ok (.iconst 1, 1) := by decide +kernel
theorem dX0_changedAbout_46 : decode cX0_changedAbout 46 = .ok (.iload 4, 2) := by decide +kernel
theorem dX0_changedAbout_48 : decode cX0_changedAbout 48 = .ok (.ishl, 1) := by decide +kernel
theorem dX0_changedAbout_49 : decode cX0_changedAbout 49 = .ok (.iconst 1, 1) := by decide +kernel
theorem dX0_changedAbout_50 : decode cX0_changedAbout 50 = .ok (.iload_n 3, 1) := by decide +kernel
theorem dX0_changedAbout_51 : decode cX0_changedAbout 51 = .ok (.ishl, 1) := by decide +kernel
theorem dX0_changedAbout_52 : decode cX0_changedAbout 52 = .ok (.isub, 1) := by decide +kernel
theorem dX0_changedAbout_53 : decode cX0_changedAbout 53 = .ok (.istore 7, 2) := by decide +kernel
theorem dX0_changedAbout_55 : decode cX0_changedAbout 55 = .ok (.iload_n 0, 1) := by decide +kernel
theorem dX0_changedAbout_56 : decode cX0_changedAbout 56 = .ok (.iload 5, 2) := by decide +kernel
theorem dX0_changedAbout_58 : decode cX0_changedAbout 58 = .ok (.iload 6, 2) := by decide +kernel
theorem dX0_changedAbout_60 : decode cX0_changedAbout 60 = .ok (.ior, 1) := by decide +kernel
theorem dX0_changedAbout_61 : decode cX0_changedAbout 61 = .ok (.iconst (-1), 1) := by decide +kernel
theorem dX0_changedAbout_62 : decode cX0_changedAbout 62 = .ok (.ixor, 1) := by decide +kernel
theorem dX0_changedAbout_63 : decode cX0_changedAbout 63 = .ok (.iand, 1) := by decide +kernel
theorem dX0_changedAbout_64 : decode cX0_changedAbout 64 = .ok (.iload_n 0, 1) := by decide +kernel
theorem dX0_changedAbout_65 : decode cX0_changedAbout 65 = .ok (.iload 5, 2) := by decide +kernel
theorem dX0_changedAbout_67 : decode cX0_changedAbout 67 = .ok (.iand, 1) := by decide +kernel
theorem dX0_changedAbout_68 : decode cX0_changedAbout 68 = .ok (.iload 7, 2) := by decide +kernel
theorem dX0_changedAbout_70 : decode cX0_changedAbout 70 = .ok (.ishl, 1) := by decide +kernel
theorem dX0_changedAbout_71 : decode cX0_changedAbout 71 = .ok (.ior, 1) := by decide +kernel
theorem dX0_changedAbout_72 : decode cX0_changedAbout 72 = .ok (.iload_n 0, 1) := by decide +kernel
theorem dX0_changedAbout_73 : decode cX0_changedAbout 73 = .ok (.iload 6, 2) := by decide +kernel
theorem dX0_changedAbout_75 : decode cX0_changedAbout 75 = .ok (.iand, 1) := by decide +kernel
theorem dX0_changedAbout_76 : decode cX0_changedAbout 76 = .ok (.iload 7, 2) := by decide +kernel
theorem dX0_changedAbout_78 : decode cX0_changedAbout 78 = .ok (.ishr, 1) := by decide +kernel
theorem dX0_changedAbout_79 : decode cX0_changedAbout 79 = .ok (.ior, 1) := by decide +kernel
theorem dX0_changedAbout_80 : decode cX0_changedAbout 80 = .ok (.ireturn, 1) := by decide +kernel
theorem dX0_isOwnDual_0 : decode cX0_isOwnDual 0 = .ok (.iload_n 0, 1) := by decide +kernel
theorem dX0_isOwnDual_1 : decode cX0_isOwnDual 1 = .ok (.iload_n 1, 1) := by decide +kernel
theorem dX0_isOwnDual_2 : decode cX0_isOwnDual 2 = .ok (.invokestatic 32, 3) := by decide +kernel
theorem dX0_isOwnDual_5 : decode cX0_isOwnDual 5 = .ok (.iload_n 1, 1) := by decide +kernel
theorem dX0_isOwnDual_6 : decode cX0_isOwnDual 6 = .ok (.if_icmp .ne 7, 3) := by decide +kernel
theorem dX0_isOwnDual_9 : decode cX0_isOwnDual 9 = .ok (.iconst 1, 1) := by decide +kernel
theorem dX0_isOwnDual_10 : decode cX0_isOwnDual 10 = .ok (.goto 4, 3) := by decide +kernel
theorem dX0_isOwnDual_13 : decode cX0_isOwnDual 13 = .ok (.iconst 0, 1) := by decide +kernel
theorem dX0_isOwnDual_14 : decode cX0_isOwnDual 14 = .ok (.ireturn, 1) := by decide +kernel
theorem dX0_isRising_0 : decode cX0_isRising 0 = .ok (.iconst 0, 1) := by decide +kernel
theorem dX0_isRising_1 : decode cX0_isRising 1 = .ok (.istore_n 2, 1) := by decide +kernel
theorem dX0_isRising_2 : decode cX0_isRising 2 = .ok (.iload_n 2, 1) := by decide +kernel
theorem dX0_isRising_3 : decode cX0_isRising 3 = .ok (.iload_n 0, 1) := by decide +kernel
theorem dX0_isRising_4 : decode cX0_isRising 4 = .ok (.if_icmp .ge 19, 3) := by decide +kernel
theorem dX0_isRising_7 : decode cX0_isRising 7 = .ok (.iload_n 1, 1) := by decide +kernel
theorem dX0_isRising_8 : decode cX0_isRising 8 = .ok (.iload_n 2, 1) := by decide +kernel
theorem dX0_isRising_9 : decode cX0_isRising 9 = .ok (.invokestatic 35, 3) := by decide +kernel
theorem dX0_isRising_12 : decode cX0_isRising 12 = .ok (.ifCond .eq 5, 3) := by decide +kernel
theorem dX0_isRising_15 : decode cX0_isRising 15 = .ok (.iconst 0, 1) := by decide +kernel
theorem dX0_isRising_16 : decode cX0_isRising 16 = .ok (.ireturn, 1) := by decide +kernel
theorem dX0_isRising_17 : decode cX0_isRising 17 = .ok (.iinc 2 1, 3) := by decide +kernel
theorem dX0_isRising_20 : decode cX0_isRising 20 = .ok (.goto (-18), 3) := by decide +kernel
theorem dX0_isRising_23 : decode cX0_isRising 23 = .ok (.iconst 1, 1) := by decide +kernel
theorem dX0_isRising_24 : decode cX0_isRising 24 = .ok (.ireturn, 1) := by decide +kernel
theorem dX0_losesBy_0 : decode cX0_losesBy 0 = .ok (.iload_n 0, 1) := by decide +kernel
theorem dX0_losesBy_1 : decode cX0_losesBy 1 = .ok (.iload_n 1, 1) := by decide +kernel
theorem dX0_losesBy_2 : decode cX0_losesBy 2 = .ok (.invokestatic 17, 3) := by decide +kernel
theorem dX0_losesBy_5 : decode cX0_losesBy 5 = .ok (.iload_n 0, 1) := by decide +kernel
theorem dX0_losesBy_6 : decode cX0_losesBy 6 = .ok (.iconst (-1), 1) := by decide +kernel
theorem dX0_losesBy_7 : decode cX0_losesBy 7 = .ok (.ixor, 1) := by decide +kernel
theorem dX0_losesBy_8 : decode cX0_losesBy 8 = .ok (.iand, 1) := by decide +kernel
theorem dX0_losesBy_9 : decode cX0_losesBy 9 = .ok (.getstatic 7, 3) := by decide +kernel
theorem dX0_losesBy_12 : decode cX0_losesBy 12 = .ok (.iload_n 1, 1) := by decide +kernel
theorem dX0_losesBy_13 : decode cX0_losesBy 13 = .ok (.iaload, 1) := by decide +kernel
theorem dX0_losesBy_14 : decode cX0_losesBy 14 = .ok (.iand, 1) := by decide +kernel
theorem dX0_losesBy_15 : decode cX0_losesBy 15 = .ok (.ireturn, 1) := by decide +kernel
theorem dX0_winsBy_0 : decode cX0_winsBy 0 = .ok (.iload_n 0, 1) := by decide +kernel
theorem dX0_winsBy_1 : decode cX0_winsBy 1 = .ok (.iload_n 1, 1) := by decide +kernel
theorem dX0_winsBy_2 : decode cX0_winsBy 2 = .ok (.invokestatic 21, 3) := by decide +kernel
theorem dX0_winsBy_5 : decode cX0_winsBy 5 = .ok (.iload_n 2, 1) := by decide +kernel
theorem dX0_winsBy_6 : decode cX0_winsBy 6 = .ok (.invokestatic 35, 3) := by decide +kernel
theorem dX0_winsBy_9 : decode cX0_winsBy 9 = .ok (.ireturn, 1) := by decide +kernel
theorem dX0_swingsOf_0 : decode cX0_swingsOf 0 = .ok (.iload_n 1, 1) := by decide +kernel
theorem dX0_swingsOf_1 : decode cX0_swingsOf 1 = .ok (.iload_n 2, 1) := by decide +kernel
theorem dX0_swingsOf_2 : decode cX0_swingsOf 2 = .ok (.invokestatic 35, 3) := by decide +kernel
theorem dX0_swingsOf_5 : decode cX0_swingsOf 5 = .ok (.invokestatic 38, 3) := by decide +kernel
theorem dX0_swingsOf_8 : decode cX0_swingsOf 8 = .ok (.iload_n 0, 1) := by decide +kernel
theorem dX0_swingsOf_9 : decode cX0_swingsOf 9 = .ok (.iload_n 1, 1) := by decide +kernel
theorem dX0_swingsOf_10 : decode cX0_swingsOf 10 = .ok (.iload_n 2, 1) := by decide +kernel
theorem dX0_swingsOf_11 : decode cX0_swingsOf 11 = .ok (.invokestatic 43, 3) := by decide +kernel
theorem dX0_swingsOf_14 : decode cX0_swingsOf 14 = .ok (.invokestatic 38, 3) := by decide +kernel
theorem dX0_swingsOf_17 : decode cX0_swingsOf 17 = .ok (.iadd, 1) := by decide +kernel
theorem dX0_swingsOf_18 : decode cX0_swingsOf 18 = .ok (.ireturn, 1) := by decide +kernel
theorem dX0_leastOnes_0 : decode cX0_leastOnes 0 = .ok (.iconst 0, 1) := by decide +kernel
theorem dX0_leastOnes_1 : decode cX0_leastOnes 1 = .ok (.istore_n 2, 1) := by decide +kernel
theorem dX0_leastOnes_2 : decode cX0_leastOnes 2 = .ok (.iconst 0, 1) := by decide +kernel
theorem dX0_leastOnes_3 : decode cX0_leastOnes 3 = .ok (.istore_n 3, 1) := by decide +kernel
theorem dX0_leastOnes_4 : decode cX0_leastOnes 4 = .ok (.iload_n 3, 1) := by decide +kernel
theorem dX0_leastOnes_5 : decode cX0_leastOnes 5 = .ok (.iconst 1, 1) := by decide +kernel
theorem dX0_leastOnes_6 : decode cX0_leastOnes 6 = .ok (.iload_n 0, 1) := by decide +kernel
theorem dX0_leastOnes_7 : decode cX0_leastOnes 7 = .ok (.ishl, 1) := by decide +kernel
theorem dX0_leastOnes_8 : decode cX0_leastOnes 8 = .ok (.if_icmp .ge 32, 3) := by decide +kernel
theorem dX0_leastOnes_11 : decode cX0_leastOnes 11 = .ok (.iload_n 1, 1) := by decide +kernel
theorem dX0_leastOnes_12 : decode cX0_leastOnes 12 = .ok (.iload_n 3, 1) := by decide +kernel
theorem dX0_leastOnes_13 : decode cX0_leastOnes 13 = .ok (.invokestatic 47, 3) := by decide +kernel
theorem dX0_leastOnes_16 : decode cX0_leastOnes 16 = .ok (.iconst 1, 1) := by decide +kernel
theorem dX0_leastOnes_17 : decode cX0_leastOnes 17 = .ok (.if_icmp .ne 17, 3) := by decide +kernel
theorem dX0_leastOnes_20 : decode cX0_leastOnes 20 = .ok (.iload_n 1, 1) := by decide +kernel
theorem dX0_leastOnes_21 : decode cX0_leastOnes 21 = .ok (.iload_n 3, 1) := by decide +kernel
theorem dX0_leastOnes_22 : decode cX0_leastOnes 22 = .ok (.invokestatic 50, 3) := by decide +kernel
theorem dX0_leastOnes_25 : decode cX0_leastOnes 25 = .ok (.ifCond .ne 9, 3) := by decide +kernel
theorem dX0_leastOnes_28 : decode cX0_leastOnes 28 = .ok (.iload_n 2, 1) := by decide +kernel
theorem dX0_leastOnes_29 : decode cX0_leastOnes 29 = .ok (.iconst 1, 1) := by decide +kernel
theorem dX0_leastOnes_30 : decode cX0_leastOnes 30 = .ok (.iload_n 3, 1) := by decide +kernel
theorem dX0_leastOnes_31 : decode cX0_leastOnes 31 = .ok (.ishl, 1) := by decide +kernel
theorem dX0_leastOnes_32 : decode cX0_leastOnes 32 = .ok (.ior, 1) := by decide +kernel
theorem dX0_leastOnes_33 : decode cX0_leastOnes 33 = .ok (.istore_n 2, 1) := by decide +kernel
theorem dX0_leastOnes_34 : decode cX0_leastOnes 34 = .ok (.iinc 3 1, 3) := by decide +kernel
theorem dX0_leastOnes_37 : decode cX0_leastOnes 37 = .ok (.goto (-33), 3) := by decide +kernel
theorem dX0_leastOnes_40 : decode cX0_leastOnes 40 = .ok (.iload_n 2, 1) := by decide +kernel
theorem dX0_leastOnes_41 : decode cX0_leastOnes 41 = .ok (.ireturn, 1) := by decide +kernel
theorem dX0_hasYesWithin_0 : decode cX0_hasYesWithin 0 = .ok (.iconst 0, 1) := by decide +kernel
theorem dX0_hasYesWithin_1 : decode cX0_hasYesWithin 1 = .ok (.istore_n 2, 1) := by decide +kernel
theorem dX0_hasYesWithin_2 : decode cX0_hasYesWithin 2 = .ok (.iload_n 2, 1) := by decide +kernel
theorem dX0_hasYesWithin_3 : decode cX0_hasYesWithin 3 = .ok (.iload_n 1, 1) := by decide +kernel
theorem dX0_hasYesWithin_4 : decode cX0_hasYesWithin 4 = .ok (.if_icmp .ge 27, 3) := by decide +kernel
theorem dX0_hasYesWithin_7 : decode cX0_hasYesWithin 7 = .ok (.iload_n 2, 1) := by decide +kernel
theorem dX0_hasYesWithin_8 : decode cX0_hasYesWithin 8 = .ok (.iload_n 1, 1) := by decide +kernel
theorem dX0_hasYesWithin_9 : decode cX0_hasYesWithin 9 = .ok (.iand, 1) := by decide +kernel
theorem dX0_hasYesWithin_10 : decode cX0_hasYesWithin 10 = .ok (.iload_n 2, 1) := by decide +kernel
theorem dX0_hasYesWithin_11 : decode cX0_hasYesWithin 11 = .ok (.if_icmp .ne 14, 3) := by decide +kernel
theorem dX0_hasYesWithin_14 : decode cX0_hasYesWithin 14 = .ok (.iload_n 0, 1) := by decide +kernel
theorem dX0_hasYesWithin_15 : decode cX0_hasYesWithin 15 = .ok (.iload_n 2, 1) := by decide +kernel
theorem dX0_hasYesWithin_16 : decode cX0_hasYesWithin 16 = .ok (.invokestatic 47, 3) := by decide +kernel
theorem dX0_hasYesWithin_19 : decode cX0_hasYesWithin 19 = .ok (.iconst 1, 1) := by decide +kernel
theorem dX0_hasYesWithin_20 : decode cX0_hasYesWithin 20 = .ok (.if_icmp .ne 5, 3) := by decide +kernel
theorem dX0_hasYesWithin_23 : decode cX0_hasYesWithin 23 = .ok (.iconst 1, 1) := by decide +kernel
theorem dX0_hasYesWithin_24 : decode cX0_hasYesWithin 24 = .ok (.ireturn, 1) := by decide +kernel
theorem dX0_hasYesWithin_25 : decode cX0_hasYesWithin 25 = .ok (.iinc 2 1, 3) := by decide +kernel
theorem dX0_hasYesWithin_28 : decode cX0_hasYesWithin 28 = .ok (.goto (-26), 3) := by decide +kernel
theorem dX0_hasYesWithin_31 : decode cX0_hasYesWithin 31 = .ok (.iconst 0, 1) := by decide +kernel
theorem dX0_hasYesWithin_32 : decode cX0_hasYesWithin 32 = .ok (.ireturn, 1) := by decide +kernel
theorem dX1_init_0 : decode cX1_init 0 = .ok (.aload_n 0, 1) := by decide +kernel
theorem dX1_init_1 : decode cX1_init 1 = .ok (.invokespecial 3, 3) := by decide +kernel
theorem dX1_init_4 : decode cX1_init 4 = .ok (.aload_n 0, 1) := by decide +kernel
theorem dX1_init_5 : decode cX1_init 5 = .ok (.sipush 2048, 3) := by decide +kernel
theorem dX1_init_8 : decode cX1_init 8 = .ok (.newarray .int, 2) := by decide +kernel
theorem dX1_init_10 : decode cX1_init 10 = .ok (.putfield 11, 3) := by decide +kernel
theorem dX1_init_13 : decode cX1_init 13 = .ok (.aload_n 0, 1) := by decide +kernel
theorem dX1_init_14 : decode cX1_init 14 = .ok (.sipush 768, 3) := by decide +kernel
theorem dX1_init_17 : decode cX1_init 17 = .ok (.newarray .int, 2) := by decide +kernel
theorem dX1_init_19 : decode cX1_init 19 = .ok (.putfield 15, 3) := by decide +kernel
theorem dX1_init_22 : decode cX1_init 22 = .ok (.aload_n 0, 1) := by decide +kernel
theorem dX1_init_23 : decode cX1_init 23 = .ok (.sipush 768, 3) := by decide +kernel
theorem dX1_init_26 : decode cX1_init 26 = .ok (.newarray .int, 2) := by decide +kernel
theorem dX1_init_28 : decode cX1_init 28 = .ok (.putfield 18, 3) := by decide +kernel
theorem dX1_init_31 : decode cX1_init 31 = .ok (.aload_n 0, 1) := by decide +kernel
theorem dX1_init_32 : decode cX1_init 32 = .ok (.iconst 0, 1) := by decide +kernel
theorem dX1_init_33 : decode cX1_init 33 = .ok (.putfield 21, 3) := by decide +kernel
theorem dX1_init_36 : decode cX1_init 36 = .ok (.return_, 1) := by decide +kernel
theorem dX1_spread_0 : decode cX1_spread 0 = .ok (.aload_n 0, 1) := by decide +kernel
theorem dX1_spread_1 : decode cX1_spread 1 = .ok (.invokevirtual 25, 3) := by decide +kernel
theorem dX1_spread_4 : decode cX1_spread 4 = .ok (.aload_n 0, 1) := by decide +kernel
theorem dX1_spread_5 : decode cX1_spread 5 = .ok (.iload_n 2, 1) := by decide +kernel
theorem dX1_spread_6 : decode cX1_spread 6 = .ok (.iconst 0, 1) := by decide +kernel
theorem dX1_spread_7 : decode cX1_spread 7 = .ok (.invokevirtual 28, 3) := by decide +kernel
theorem dX1_spread_10 : decode cX1_spread 10 = .ok (.iconst 0, 1) := by decide +kernel
theorem dX1_spread_11 : decode cX1_spread 11 = .ok (.istore_n 3, 1) := by decide +kernel
theorem dX1_spread_12 : decode cX1_spread 12 = .ok (.iload_n 3, 1) := by decide +kernel
theorem dX1_spread_13 : decode cX1_spread 13 = .ok (.sipush 768, 3) := by decide +kernel
theorem dX1_spread_16 : decode cX1_spread 16 = .ok (.if_icmp .ge 36, 3) := by decide +kernel
theorem dX1_spread_19 : decode cX1_spread 19 = .ok (.iload_n 3, 1) := by decide +kernel
theorem dX1_spread_20 : decode cX1_spread 20 = .ok (.aload_n 0, 1) := by decide +kernel
theorem dX1_spread_21 : decode cX1_spread 21 = .ok (.getfield 21, 3) := by decide +kernel
theorem dX1_spread_24 : decode cX1_spread 24 = .ok (.if_icmp .ge 28, 3) := by decide +kernel
theorem dX1_spread_27 : decode cX1_spread 27 = .ok (.aload_n 0, 1) := by decide +kernel
theorem dX1_spread_28 : decode cX1_spread 28 = .ok (.iload_n 1, 1) := by decide +kernel
theorem dX1_spread_29 : decode cX1_spread 29 = .ok (.aload_n 0, 1) := by decide +kernel
theorem dX1_spread_30 : decode cX1_spread 30 = .ok (.getfield 15, 3) := by decide +kernel
theorem dX1_spread_33 : decode cX1_spread 33 = .ok (.iload_n 3, 1) := by decide +kernel
theorem dX1_spread_34 : decode cX1_spread 34 = .ok (.iaload, 1) := by decide +kernel
theorem dX1_spread_35 : decode cX1_spread 35 = .ok (.aload_n 0, 1) := by decide +kernel
theorem dX1_spread_36 : decode cX1_spread 36 = .ok (.getfield 18, 3) := by decide +kernel
theorem dX1_spread_39 : decode cX1_spread 39 = .ok (.iload_n 3, 1) := by decide +kernel
theorem dX1_spread_40 : decode cX1_spread 40 = .ok (.iaload, 1) := by decide +kernel
theorem dX1_spread_41 : decode cX1_spread 41 = .ok (.iconst 1, 1) := by decide +kernel
theorem dX1_spread_42 : decode cX1_spread 42 = .ok (.iadd, 1) := by decide +kernel
theorem dX1_spread_43 : decode cX1_spread 43 = .ok (.invokevirtual 32, 3) := by decide +kernel
theorem dX1_spread_46 : decode cX1_spread 46 = .ok (.iinc 3 1, 3) := by decide +kernel
theorem dX1_spread_49 : decode cX1_spread 49 = .ok (.goto (-37), 3) := by decide +kernel
theorem dX1_spread_52 : decode cX1_spread 52 = .ok (.return_, 1) := by decide +kernel
theorem dX1_stepsTo_0 : decode cX1_stepsTo 0 = .ok (.iconst 0, 1) := by decide +kernel
theorem dX1_stepsTo_1 : decode cX1_stepsTo 1 = .ok (.istore_n 2, 1) := by decide +kernel
theorem dX1_stepsTo_2 : decode cX1_stepsTo 2 = .ok (.iload_n 2, 1) := by decide +kernel
theorem dX1_stepsTo_3 : decode cX1_stepsTo 3 = .ok (.aload_n 0, 1) := by decide +kernel
theorem dX1_stepsTo_4 : decode cX1_stepsTo 4 = .ok (.getfield 21, 3) := by decide +kernel
theorem dX1_stepsTo_7 : decode cX1_stepsTo 7 = .ok (.if_icmp .ge 26, 3) := by decide +kernel
theorem dX1_stepsTo_10 : decode cX1_stepsTo 10 = .ok (.aload_n 0, 1) := by decide +kernel
theorem dX1_stepsTo_11 : decode cX1_stepsTo 11 = .ok (.getfield 15, 3) := by decide +kernel
theorem dX1_stepsTo_14 : decode cX1_stepsTo 14 = .ok (.iload_n 2, 1) := by decide +kernel
theorem dX1_stepsTo_15 : decode cX1_stepsTo 15 = .ok (.iaload, 1) := by decide +kernel
theorem dX1_stepsTo_16 : decode cX1_stepsTo 16 = .ok (.iload_n 1, 1) := by decide +kernel
theorem dX1_stepsTo_17 : decode cX1_stepsTo 17 = .ok (.if_icmp .ne 10, 3) := by decide +kernel
theorem dX1_stepsTo_20 : decode cX1_stepsTo 20 = .ok (.aload_n 0, 1) := by decide +kernel
theorem dX1_stepsTo_21 : decode cX1_stepsTo 21 = .ok (.getfield 18, 3) := by decide +kernel
theorem dX1_stepsTo_24 : decode cX1_stepsTo 24 = .ok (.iload_n 2, 1) := by decide +kernel
theorem dX1_stepsTo_25 : decode cX1_stepsTo 25 = .ok (.iaload, 1) := by decide +kernel
theorem dX1_stepsTo_26 : decode cX1_stepsTo 26 = .ok (.ireturn, 1) := by decide +kernel
theorem dX1_stepsTo_27 : decode cX1_stepsTo 27 = .ok (.iinc 2 1, 3) := by decide +kernel
theorem dX1_stepsTo_30 : decode cX1_stepsTo 30 = .ok (.goto (-28), 3) := by decide +kernel
theorem dX1_stepsTo_33 : decode cX1_stepsTo 33 = .ok (.bipush (-5), 2) := by decide +kernel
theorem dX1_stepsTo_35 : decode cX1_stepsTo 35 = .ok (.ireturn, 1) := by decide +kernel
theorem dX1_forget_0 : decode cX1_forget 0 = .ok (.iconst 0, 1) := by decide +kernel
theorem dX1_forget_1 : decode cX1_forget 1 = .ok (.istore_n 1, 1) := by decide +kernel
theorem dX1_forget_2 : decode cX1_forget 2 = .ok (.iload_n 1, 1) := by decide +kernel
theorem dX1_forget_3 : decode cX1_forget 3 = .ok (.aload_n 0, 1) := by decide +kernel
theorem dX1_forget_4 : decode cX1_forget 4 = .ok (.getfield 21, 3) := by decide +kernel
theorem dX1_forget_7 : decode cX1_forget 7 = .ok (.if_icmp .ge 24, 3) := by decide +kernel
theorem dX1_forget_10 : decode cX1_forget 10 = .ok (.aload_n 0, 1) := by decide +kernel
theorem dX1_forget_11 : decode cX1_forget 11 = .ok (.getfield 11, 3) := by decide +kernel
theorem dX1_forget_14 : decode cX1_forget 14 = .ok (.aload_n 0, 1) := by decide +kernel
theorem dX1_forget_15 : decode cX1_forget 15 = .ok (.getfield 15, 3) := by decide +kernel
theorem dX1_forget_18 : decode cX1_forget 18 = .ok (.iload_n 1, 1) := by decide +kernel
theorem dX1_forget_19 : decode cX1_forget 19 = .ok (.iaload, 1) := by decide +kernel
theorem dX1_forget_20 : decode cX1_forget 20 = .ok (.bipush 32, 2) := by decide +kernel
theorem dX1_forget_22 : decode cX1_forget 22 = .ok (.idiv, 1) := by decide +kernel
theorem dX1_forget_23 : decode cX1_forget 23 = .ok (.iconst 0, 1) := by decide +kernel
theorem dX1_forget_24 : decode cX1_forget 24 = .ok (.iastore, 1) := by decide +kernel
theorem dX1_forget_25 : decode cX1_forget 25 = .ok (.iinc 1 1, 3) := by decide +kernel
theorem dX1_forget_28 : decode cX1_forget 28 = .ok (.goto (-26), 3) := by decide +kernel
theorem dX1_forget_31 : decode cX1_forget 31 = .ok (.aload_n 0, 1) := by decide +kernel
theorem dX1_forget_32 : decode cX1_forget 32 = .ok (.iconst 0, 1) := by decide +kernel
theorem dX1_forget_33 : decode cX1_forget 33 = .ok (.putfield 21, 3) := by decide +kernel
theorem dX1_forget_36 : decode cX1_forget 36 = .ok (.return_, 1) := by decide +kernel
theorem dX1_meetAllBeside_0 : decode cX1_meetAllBeside 0 = .ok (.iconst 0, 1) := by decide +kernel
theorem dX1_meetAllBeside_1 : decode cX1_meetAllBeside 1 = .ok (.istore 4, 2) := by decide +kernel
theorem dX1_meetAllBeside_3 : decode cX1_meetAllBeside 3 = .ok (.iload 4, 2) := by decide +kernel
theorem dX1_meetAllBeside_5 : decode cX1_meetAllBeside 5 = .ok (.iload_n 1, 1) := by decide +kernel
theorem dX1_meetAllBeside_6 : decode cX1_meetAllBeside 6 = .ok (.if_icmp .ge 20, 3) := by decide +kernel
theorem dX1_meetAllBeside_9 : decode cX1_meetAllBeside 9 = .ok (.aload_n 0, 1) := by decide +kernel
theorem dX1_meetAllBeside_10 : decode cX1_meetAllBeside 10 = .ok (.iload_n 2, 1) := by decide +kernel
theorem dX1_meetAllBeside_11 : decode cX1_meetAllBeside 11 = .ok (.iload 4, 2) := by decide +kernel
theorem dX1_meetAllBeside_13 : decode cX1_meetAllBeside 13 = .ok (.invokestatic 36, 3) := by decide +kernel
theorem dX1_meetAllBeside_16 : decode cX1_meetAllBeside 16 = .ok (.iload_n 3, 1) := by decide +kernel
theorem dX1_meetAllBeside_17 : decode cX1_meetAllBeside 17 = .ok (.invokevirtual 28, 3) := by decide +kernel
theorem dX1_meetAllBeside_20 : decode cX1_meetAllBeside 20 = .ok (.iinc 4 1, 3) := by decide +kernel
theorem dX1_meetAllBeside_23 : decode cX1_meetAllBeside 23 = .ok (.goto (-20), 3) := by decide +kernel
theorem dX1_meetAllBeside_26 : decode cX1_meetAllBeside 26 = .ok (.iconst 0, 1) := by decide +kernel
theorem dX1_meetAllBeside_27 : decode cX1_meetAllBeside 27 = .ok (.istore 4, 2) := by decide +kernel
theorem dX1_meetAllBeside_29 : decode cX1_meetAllBeside 29 = .ok (.iload 4, 2) := by decide +kernel
theorem dX1_meetAllBeside_31 : decode cX1_meetAllBeside 31 = .ok (.iload_n 1, 1) := by decide +kernel
theorem dX1_meetAllBeside_32 : decode cX1_meetAllBeside 32 = .ok (.iconst 1, 1) := by decide +kernel
theorem dX1_meetAllBeside_33 : decode cX1_meetAllBeside 33 = .ok (.isub, 1) := by decide +kernel
theorem dX1_meetAllBeside_34 : decode cX1_meetAllBeside 34 = .ok (.if_icmp .ge 24, 3) := by decide +kernel
theorem dX1_meetAllBeside_37 : decode cX1_meetAllBeside 37 = .ok (.aload_n 0, 1) := by decide +kernel
theorem dX1_meetAllBeside_38 : decode cX1_meetAllBeside 38 = .ok (.iload_n 2, 1) := by decide +kernel
theorem dX1_meetAllBeside_39 : decode cX1_meetAllBeside 39 = .ok (.iload 4, 2) := by decide +kernel
theorem dX1_meetAllBeside_41 : decode cX1_meetAllBeside 41 = .ok (.iload 4, 2) := by decide +kernel
theorem dX1_meetAllBeside_43 : decode cX1_meetAllBeside 43 = .ok (.iconst 1, 1) := by decide +kernel
theorem dX1_meetAllBeside_44 : decode cX1_meetAllBeside 44 = .ok (.iadd, 1) := by decide +kernel
theorem dX1_meetAllBeside_45 : decode cX1_meetAllBeside 45 = .ok (.invokestatic 42, 3) := by decide +kernel
theorem dX1_meetAllBeside_48 : decode cX1_meetAllBeside 48 = .ok (.iload_n 3, 1) := by decide +kernel
theorem dX1_meetAllBeside_49 : decode cX1_meetAllBeside 49 = .ok (.invokevirtual 28, 3) := by decide +kernel
theorem dX1_meetAllBeside_52 : decode cX1_meetAllBeside 52 = .ok (.iinc 4 1, 3) := by decide +kernel
theorem dX1_meetAllBeside_55 : decode cX1_meetAllBeside 55 = .ok (.goto (-26), 3) := by decide +kernel
theorem dX1_meetAllBeside_58 : decode cX1_meetAllBeside 58 = .ok (.aload_n 0, 1) := by decide +kernel
theorem dX1_meetAllBeside_59 : decode cX1_meetAllBeside 59 = .ok (.iload_n 1, 1) := by decide +kernel
theorem dX1_meetAllBeside_60 : decode cX1_meetAllBeside 60 = .ok (.iload_n 2, 1) := by decide +kernel
theorem dX1_meetAllBeside_61 : decode cX1_meetAllBeside 61 = .ok (.invokestatic 46, 3) := by decide +kernel
theorem dX1_meetAllBeside_64 : decode cX1_meetAllBeside 64 = .ok (.iload_n 3, 1) := by decide +kernel
theorem dX1_meetAllBeside_65 : decode cX1_meetAllBeside 65 = .ok (.invokevirtual 28, 3) := by decide +kernel
theorem dX1_meetAllBeside_68 : decode cX1_meetAllBeside 68 = .ok (.aload_n 0, 1) := by decide +kernel
theorem dX1_meetAllBeside_69 : decode cX1_meetAllBeside 69 = .ok (.iload_n 1, 1) := by decide +kernel
theorem dX1_meetAllBeside_70 : decode cX1_meetAllBeside 70 = .ok (.iload_n 2, 1) := by decide +kernel
theorem dX1_meetAllBeside_71 : decode cX1_meetAllBeside 71 = .ok (.invokestatic 49, 3) := by decide +kernel
theorem dX1_meetAllBeside_74 : decode cX1_meetAllBeside 74 = .ok (.iload_n 3, 1) := by decide +kernel
theorem dX1_meetAllBeside_75 : decode cX1_meetAllBeside 75 = .ok (.invokevirtual 28, 3) := by decide +kernel
theorem dX1_meetAllBeside_78 : decode cX1_meetAllBeside 78 = .ok (.return_, 1) := by decide +kernel
theorem dX1_meet_0 : decode cX1_meet 0 = .ok (.iload_n 1, 1) := by decide +kernel
theorem dX1_meet_1 : decode cX1_meet 1 = .ok (.bipush 32, 2) := by decide +kernel
theorem dX1_meet_3 : decode cX1_meet 3 = .ok (.idiv, 1) := by decide +kernel
theorem dX1_meet_4 : decode cX1_meet 4 = .ok (.istore_n 3, 1) := by decide +kernel
theorem dX1_meet_5 : decode cX1_meet 5 = .ok (.iconst 1, 1) := by decide +kernel
theorem dX1_meet_6 : decode cX1_meet 6 = .ok (.iload_n 1, 1) := by decide +kernel
theorem dX1_meet_7 : decode cX1_meet 7 = .ok (.bipush 32, 2) := by decide +kernel
theorem dX1_meet_9 : decode cX1_meet 9 = .ok (.irem, 1) := by decide +kernel
theorem dX1_meet_10 : decode cX1_meet 10 = .ok (.ishl, 1) := by decide +kernel
theorem dX1_meet_11 : decode cX1_meet 11 = .ok (.istore 4, 2) := by decide +kernel
theorem dX1_meet_13 : decode cX1_meet 13 = .ok (.aload_n 0, 1) := by decide +kernel
theorem dX1_meet_14 : decode cX1_meet 14 = .ok (.getfield 11, 3) := by decide +kernel
theorem dX1_meet_17 : decode cX1_meet 17 = .ok (.iload_n 3, 1) := by decide +kernel
theorem dX1_meet_18 : decode cX1_meet 18 = .ok (.iaload, 1) := by decide +kernel
theorem dX1_meet_19 : decode cX1_meet 19 = .ok (.iload 4, 2) := by decide +kernel
theorem dX1_meet_21 : decode cX1_meet 21 = .ok (.iand, 1) := by decide +kernel
theorem dX1_meet_22 : decode cX1_meet 22 = .ok (.ifCond .ne 13, 3) := by decide +kernel
theorem dX1_meet_25 : decode cX1_meet 25 = .ok (.aload_n 0, 1) := by decide +kernel
theorem dX1_meet_26 : decode cX1_meet 26 = .ok (.getfield 21, 3) := by decide +kernel
theorem dX1_meet_29 : decode cX1_meet 29 = .ok (.sipush 768, 3) := by decide +kernel
theorem dX1_meet_32 : decode cX1_meet 32 = .ok (.if_icmp .lt 4, 3) := by decide +kernel
theorem dX1_meet_35 : decode cX1_meet 35 = .ok (.return_, 1) := by decide +kernel
theorem dX1_meet_36 : decode cX1_meet 36 = .ok (.aload_n 0, 1) := by decide +kernel
theorem dX1_meet_37 : decode cX1_meet 37 = .ok (.getfield 11, 3) := by decide +kernel
theorem dX1_meet_40 : decode cX1_meet 40 = .ok (.iload_n 3, 1) := by decide +kernel
theorem dX1_meet_41 : decode cX1_meet 41 = .ok (.dup2, 1) := by decide +kernel
theorem dX1_meet_42 : decode cX1_meet 42 = .ok (.iaload, 1) := by decide +kernel
theorem dX1_meet_43 : decode cX1_meet 43 = .ok (.iload 4, 2) := by decide +kernel
theorem dX1_meet_45 : decode cX1_meet 45 = .ok (.ior, 1) := by decide +kernel
theorem dX1_meet_46 : decode cX1_meet 46 = .ok (.iastore, 1) := by decide +kernel
theorem dX1_meet_47 : decode cX1_meet 47 = .ok (.aload_n 0, 1) := by decide +kernel
theorem dX1_meet_48 : decode cX1_meet 48 = .ok (.getfield 15, 3) := by decide +kernel
theorem dX1_meet_51 : decode cX1_meet 51 = .ok (.aload_n 0, 1) := by decide +kernel
theorem dX1_meet_52 : decode cX1_meet 52 = .ok (.getfield 21, 3) := by decide +kernel
theorem dX1_meet_55 : decode cX1_meet 55 = .ok (.iload_n 1, 1) := by decide +kernel
theorem dX1_meet_56 : decode cX1_meet 56 = .ok (.iastore, 1) := by decide +kernel
theorem dX1_meet_57 : decode cX1_meet 57 = .ok (.aload_n 0, 1) := by decide +kernel
theorem dX1_meet_58 : decode cX1_meet 58 = .ok (.getfield 18, 3) := by decide +kernel
theorem dX1_meet_61 : decode cX1_meet 61 = .ok (.aload_n 0, 1) := by decide +kernel
theorem dX1_meet_62 : decode cX1_meet 62 = .ok (.getfield 21, 3) := by decide +kernel
theorem dX1_meet_65 : decode cX1_meet 65 = .ok (.iload_n 2, 1) := by decide +kernel
theorem dX1_meet_66 : decode cX1_meet 66 = .ok (.iastore, 1) := by decide +kernel
theorem dX1_meet_67 : decode cX1_meet 67 = .ok (.aload_n 0, 1) := by decide +kernel
theorem dX1_meet_68 : decode cX1_meet 68 = .ok (.dup, 1) := by decide +kernel
theorem dX1_meet_69 : decode cX1_meet 69 = .ok (.getfield 21, 3) := by decide +kernel
theorem dX1_meet_72 : decode cX1_meet 72 = .ok (.iconst 1, 1) := by decide +kernel
theorem dX1_meet_73 : decode cX1_meet 73 = .ok (.iadd, 1) := by decide +kernel
theorem dX1_meet_74 : decode cX1_meet 74 = .ok (.putfield 21, 3) := by decide +kernel
theorem dX1_meet_77 : decode cX1_meet 77 = .ok (.return_, 1) := by decide +kernel
theorem dX2_init_0 : decode cX2_init 0 = .ok (.aload_n 0, 1) := by decide +kernel
theorem dX2_init_1 : decode cX2_init 1 = .ok (.invokespecial 1, 3) := by decide +kernel
theorem dX2_init_4 : decode cX2_init 4 = .ok (.aload_n 0, 1) := by decide +kernel
theorem dX2_init_5 : decode cX2_init 5 = .ok (.iconst 0, 1) := by decide +kernel
theorem dX2_init_6 : decode cX2_init 6 = .ok (.putfield 7, 3) := by decide +kernel
theorem dX2_init_9 : decode cX2_init 9 = .ok (.aload_n 0, 1) := by decide +kernel
theorem dX2_init_10 : decode cX2_init 10 = .ok (.iload_n 1, 1) := by decide +kernel
theorem dX2_init_11 : decode cX2_init 11 = .ok (.newarray .int, 2) := by decide +kernel
theorem dX2_init_13 : decode cX2_init 13 = .ok (.putfield 13, 3) := by decide +kernel
theorem dX2_init_16 : decode cX2_init 16 = .ok (.aload_n 0, 1) := by decide +kernel
theorem dX2_init_17 : decode cX2_init 17 = .ok (.iload_n 1, 1) := by decide +kernel
theorem dX2_init_18 : decode cX2_init 18 = .ok (.newarray .int, 2) := by decide +kernel
theorem dX2_init_20 : decode cX2_init 20 = .ok (.putfield 17, 3) := by decide +kernel
theorem dX2_init_23 : decode cX2_init 23 = .ok (.return_, 1) := by decide +kernel
theorem dX2_append_0 : decode cX2_append 0 = .ok (.aload_n 0, 1) := by decide +kernel
theorem dX2_append_1 : decode cX2_append 1 = .ok (.getfield 7, 3) := by decide +kernel
theorem dX2_append_4 : decode cX2_append 4 = .ok (.aload_n 0, 1) := by decide +kernel
theorem dX2_append_5 : decode cX2_append 5 = .ok (.getfield 13, 3) := by decide +kernel
theorem dX2_append_8 : decode cX2_append 8 = .ok (.arraylength, 1) := by decide +kernel
theorem dX2_append_9 : decode cX2_append 9 = .ok (.if_icmp .lt 5, 3) := by decide +kernel
theorem dX2_append_12 : decode cX2_append 12 = .ok (.iconst 0, 1) := by decide +kernel
theorem dX2_append_13 : decode cX2_append 13 = .ok (.ireturn, 1) := by decide +kernel
theorem dX2_append_14 : decode cX2_append 14 = .ok (.aload_n 0, 1) := by decide +kernel
theorem dX2_append_15 : decode cX2_append 15 = .ok (.getfield 13, 3) := by decide +kernel
theorem dX2_append_18 : decode cX2_append 18 = .ok (.aload_n 0, 1) := by decide +kernel
theorem dX2_append_19 : decode cX2_append 19 = .ok (.getfield 7, 3) := by decide +kernel
theorem dX2_append_22 : decode cX2_append 22 = .ok (.iload_n 1, 1) := by decide +kernel
theorem dX2_append_23 : decode cX2_append 23 = .ok (.iastore, 1) := by decide +kernel
theorem dX2_append_24 : decode cX2_append 24 = .ok (.aload_n 0, 1) := by decide +kernel
theorem dX2_append_25 : decode cX2_append 25 = .ok (.getfield 17, 3) := by decide +kernel
theorem dX2_append_28 : decode cX2_append 28 = .ok (.aload_n 0, 1) := by decide +kernel
theorem dX2_append_29 : decode cX2_append 29 = .ok (.getfield 7, 3) := by decide +kernel
theorem dX2_append_32 : decode cX2_append 32 = .ok (.iload_n 2, 1) := by decide +kernel
theorem dX2_append_33 : decode cX2_append 33 = .ok (.iastore, 1) := by decide +kernel
theorem dX2_append_34 : decode cX2_append 34 = .ok (.aload_n 0, 1) := by decide +kernel
theorem dX2_append_35 : decode cX2_append 35 = .ok (.dup, 1) := by decide +kernel
theorem dX2_append_36 : decode cX2_append 36 = .ok (.getfield 7, 3) := by decide +kernel
theorem dX2_append_39 : decode cX2_append 39 = .ok (.iconst 1, 1) := by decide +kernel
theorem dX2_append_40 : decode cX2_append 40 = .ok (.iadd, 1) := by decide +kernel
theorem dX2_append_41 : decode cX2_append 41 = .ok (.putfield 7, 3) := by decide +kernel
theorem dX2_append_44 : decode cX2_append 44 = .ok (.iconst 1, 1) := by decide +kernel
theorem dX2_append_45 : decode cX2_append 45 = .ok (.ireturn, 1) := by decide +kernel
theorem dX2_copyFrom_0 : decode cX2_copyFrom 0 = .ok (.aload_n 1, 1) := by decide +kernel
theorem dX2_copyFrom_1 : decode cX2_copyFrom 1 = .ok (.getfield 13, 3) := by decide +kernel
theorem dX2_copyFrom_4 : decode cX2_copyFrom 4 = .ok (.aload_n 0, 1) := by decide +kernel
theorem dX2_copyFrom_5 : decode cX2_copyFrom 5 = .ok (.getfield 13, 3) := by decide +kernel
theorem dX2_copyFrom_8 : decode cX2_copyFrom 8 = .ok (.invokestatic 20, 3) := by decide +kernel
theorem dX2_copyFrom_11 : decode cX2_copyFrom 11 = .ok (.aload_n 1, 1) := by decide +kernel
theorem dX2_copyFrom_12 : decode cX2_copyFrom 12 = .ok (.getfield 17, 3) := by decide +kernel
theorem dX2_copyFrom_15 : decode cX2_copyFrom 15 = .ok (.aload_n 0, 1) := by decide +kernel
theorem dX2_copyFrom_16 : decode cX2_copyFrom 16 = .ok (.getfield 17, 3) := by decide +kernel
theorem dX2_copyFrom_19 : decode cX2_copyFrom 19 = .ok (.invokestatic 20, 3) := by decide +kernel
theorem dX2_copyFrom_22 : decode cX2_copyFrom 22 = .ok (.aload_n 0, 1) := by decide +kernel
theorem dX2_copyFrom_23 : decode cX2_copyFrom 23 = .ok (.aload_n 1, 1) := by decide +kernel
theorem dX2_copyFrom_24 : decode cX2_copyFrom 24 = .ok (.getfield 7, 3) := by decide +kernel
theorem dX2_copyFrom_27 : decode cX2_copyFrom 27 = .ok (.putfield 7, 3) := by decide +kernel
theorem dX2_copyFrom_30 : decode cX2_copyFrom 30 = .ok (.return_, 1) := by decide +kernel
theorem dX3_init_0 : decode cX3_init 0 = .ok (.aload_n 0, 1) := by decide +kernel
theorem dX3_init_1 : decode cX3_init 1 = .ok (.invokespecial 3, 3) := by decide +kernel
theorem dX3_init_4 : decode cX3_init 4 = .ok (.aload_n 0, 1) := by decide +kernel
theorem dX3_init_5 : decode cX3_init 5 = .ok (.iconst 4, 1) := by decide +kernel
theorem dX3_init_6 : decode cX3_init 6 = .ok (.newarray .int, 2) := by decide +kernel
theorem dX3_init_8 : decode cX3_init 8 = .ok (.putfield 9, 3) := by decide +kernel
theorem dX3_init_11 : decode cX3_init 11 = .ok (.aload_n 0, 1) := by decide +kernel
theorem dX3_init_12 : decode cX3_init 12 = .ok (.iconst 0, 1) := by decide +kernel
theorem dX3_init_13 : decode cX3_init 13 = .ok (.putfield 15, 3) := by decide +kernel
theorem dX3_init_16 : decode cX3_init 16 = .ok (.aload_n 0, 1) := by decide +kernel
theorem dX3_init_17 : decode cX3_init 17 = .ok (.iconst 4, 1) := by decide +kernel
theorem dX3_init_18 : decode cX3_init 18 = .ok (.newarray .int, 2) := by decide +kernel
theorem dX3_init_20 : decode cX3_init 20 = .ok (.putfield 19, 3) := by decide +kernel
theorem dX3_init_23 : decode cX3_init 23 = .ok (.aload_n 0, 1) := by decide +kernel
theorem dX3_init_24 : decode cX3_init 24 = .ok (.iconst 4, 1) := by decide +kernel
theorem dX3_init_25 : decode cX3_init 25 = .ok (.newarray .int, 2) := by decide +kernel
theorem dX3_init_27 : decode cX3_init 27 = .ok (.putfield 22, 3) := by decide +kernel
theorem dX3_init_30 : decode cX3_init 30 = .ok (.aload_n 0, 1) := by decide +kernel
theorem dX3_init_31 : decode cX3_init 31 = .ok (.iconst 4, 1) := by decide +kernel
theorem dX3_init_32 : decode cX3_init 32 = .ok (.newarray .int, 2) := by decide +kernel
theorem dX3_init_34 : decode cX3_init 34 = .ok (.putfield 25, 3) := by decide +kernel
theorem dX3_init_37 : decode cX3_init 37 = .ok (.aload_n 0, 1) := by decide +kernel
theorem dX3_init_38 : decode cX3_init 38 = .ok (.sipush 1000, 3) := by decide +kernel
theorem dX3_init_41 : decode cX3_init 41 = .ok (.putfield 28, 3) := by decide +kernel
theorem dX3_init_44 : decode cX3_init 44 = .ok (.aload_n 0, 1) := by decide +kernel
theorem dX3_init_45 : decode cX3_init 45 = .ok (.iconst 0, 1) := by decide +kernel
theorem dX3_init_46 : decode cX3_init 46 = .ok (.putfield 31, 3) := by decide +kernel
theorem dX3_init_49 : decode cX3_init 49 = .ok (.aload_n 0, 1) := by decide +kernel
theorem dX3_init_50 : decode cX3_init 50 = .ok (.iconst 0, 1) := by decide +kernel
theorem dX3_init_51 : decode cX3_init 51 = .ok (.putfield 34, 3) := by decide +kernel
theorem dX3_init_54 : decode cX3_init 54 = .ok (.return_, 1) := by decide +kernel
theorem dX3_worth_0 : decode cX3_worth 0 = .ok (.iconst 0, 1) := by decide +kernel
theorem dX3_worth_1 : decode cX3_worth 1 = .ok (.istore_n 2, 1) := by decide +kernel
theorem dX3_worth_2 : decode cX3_worth 2 = .ok (.iconst 0, 1) := by decide +kernel
theorem dX3_worth_3 : decode cX3_worth 3 = .ok (.istore_n 3, 1) := by decide +kernel
theorem dX3_worth_4 : decode cX3_worth 4 = .ok (.iload_n 3, 1) := by decide +kernel
theorem dX3_worth_5 : decode cX3_worth 5 = .ok (.aload_n 0, 1) := by decide +kernel
theorem dX3_worth_6 : decode cX3_worth 6 = .ok (.arraylength, 1) := by decide +kernel
theorem dX3_worth_7 : decode cX3_worth 7 = .ok (.if_icmp .ge 24, 3) := by decide +kernel
theorem dX3_worth_10 : decode cX3_worth 10 = .ok (.iload_n 1, 1) := by decide +kernel
theorem dX3_worth_11 : decode cX3_worth 11 = .ok (.iload_n 3, 1) := by decide +kernel
theorem dX3_worth_12 : decode cX3_worth 12 = .ok (.ishr, 1) := by decide +kernel
theorem dX3_worth_13 : decode cX3_worth 13 = .ok (.iconst 1, 1) := by decide +kernel
theorem dX3_worth_14 : decode cX3_worth 14 = .ok (.iand, 1) := by decide +kernel
theorem dX3_worth_15 : decode cX3_worth 15 = .ok (.iconst 1, 1) := by decide +kernel
theorem dX3_worth_16 : decode cX3_worth 16 = .ok (.if_icmp .ne 9, 3) := by decide +kernel
theorem dX3_worth_19 : decode cX3_worth 19 = .ok (.iload_n 2, 1) := by decide +kernel
theorem dX3_worth_20 : decode cX3_worth 20 = .ok (.aload_n 0, 1) := by decide +kernel
theorem dX3_worth_21 : decode cX3_worth 21 = .ok (.iload_n 3, 1) := by decide +kernel
theorem dX3_worth_22 : decode cX3_worth 22 = .ok (.iaload, 1) := by decide +kernel
theorem dX3_worth_23 : decode cX3_worth 23 = .ok (.iadd, 1) := by decide +kernel
theorem dX3_worth_24 : decode cX3_worth 24 = .ok (.istore_n 2, 1) := by decide +kernel
theorem dX3_worth_25 : decode cX3_worth 25 = .ok (.iinc 3 1, 3) := by decide +kernel
theorem dX3_worth_28 : decode cX3_worth 28 = .ok (.goto (-24), 3) := by decide +kernel
theorem dX3_worth_31 : decode cX3_worth 31 = .ok (.iload_n 2, 1) := by decide +kernel
theorem dX3_worth_32 : decode cX3_worth 32 = .ok (.ireturn, 1) := by decide +kernel
theorem dX3_balance_0 : decode cX3_balance 0 = .ok (.aload_n 0, 1) := by decide +kernel
theorem dX3_balance_1 : decode cX3_balance 1 = .ok (.sipush 1000, 3) := by decide +kernel
theorem dX3_balance_4 : decode cX3_balance 4 = .ok (.putfield 28, 3) := by decide +kernel
theorem dX3_balance_7 : decode cX3_balance 7 = .ok (.aload_n 0, 1) := by decide +kernel
theorem dX3_balance_8 : decode cX3_balance 8 = .ok (.iload_n 1, 1) := by decide +kernel
theorem dX3_balance_9 : decode cX3_balance 9 = .ok (.iload_n 2, 1) := by decide +kernel
theorem dX3_balance_10 : decode cX3_balance 10 = .ok (.invokevirtual 37, 3) := by decide +kernel
theorem dX3_balance_13 : decode cX3_balance 13 = .ok (.ifCond .ne 5, 3) := by decide +kernel
theorem dX3_balance_16 : decode cX3_balance 16 = .ok (.iconst 0, 1) := by decide +kernel
theorem dX3_balance_17 : decode cX3_balance 17 = .ok (.ireturn, 1) := by decide +kernel
theorem dX3_balance_18 : decode cX3_balance 18 = .ok (.aload_n 0, 1) := by decide +kernel
theorem dX3_balance_19 : decode cX3_balance 19 = .ok (.iload_n 1, 1) := by decide +kernel
theorem dX3_balance_20 : decode cX3_balance 20 = .ok (.iload_n 2, 1) := by decide +kernel
theorem dX3_balance_21 : decode cX3_balance 21 = .ok (.invokevirtual 41, 3) := by decide +kernel
theorem dX3_balance_24 : decode cX3_balance 24 = .ok (.aload_n 0, 1) := by decide +kernel
theorem dX3_balance_25 : decode cX3_balance 25 = .ok (.getfield 28, 3) := by decide +kernel
theorem dX3_balance_28 : decode cX3_balance 28 = .ok (.sipush 1000, 3) := by decide +kernel
theorem dX3_balance_31 : decode cX3_balance 31 = .ok (.if_icmp .ne 5, 3) := by decide +kernel
theorem dX3_balance_34 : decode cX3_balance 34 = .ok (.iconst 0, 1) := by decide +kernel
theorem dX3_balance_35 : decode cX3_balance 35 = .ok (.ireturn, 1) := by decide +kernel
theorem dX3_balance_36 : decode cX3_balance 36 = .ok (.aload_n 0, 1) := by decide +kernel
theorem dX3_balance_37 : decode cX3_balance 37 = .ok (.aload_n 0, 1) := by decide +kernel
theorem dX3_balance_38 : decode cX3_balance 38 = .ok (.getfield 9, 3) := by decide +kernel
theorem dX3_balance_41 : decode cX3_balance 41 = .ok (.iload_n 1, 1) := by decide +kernel
theorem dX3_balance_42 : decode cX3_balance 42 = .ok (.iload_n 2, 1) := by decide +kernel
theorem dX3_balance_43 : decode cX3_balance 43 = .ok (.invokevirtual 45, 3) := by decide +kernel
theorem dX3_balance_46 : decode cX3_balance 46 = .ok (.pop, 1) := by decide +kernel
theorem dX3_balance_47 : decode cX3_balance 47 = .ok (.aload_n 0, 1) := by decide +kernel
theorem dX3_balance_48 : decode cX3_balance 48 = .ok (.iload_n 2, 1) := by decide +kernel
theorem dX3_balance_49 : decode cX3_balance 49 = .ok (.ifCond .ne 12, 3) := by decide +kernel
theorem dX3_balance_52 : decode cX3_balance 52 = .ok (.aload_n 0, 1) := by decide +kernel
theorem dX3_balance_53 : decode cX3_balance 53 = .ok (.getfield 34, 3) := by decide +kernel
theorem dX3_balance_56 : decode cX3_balance 56 = .ok (.iconst 1, 1) := by decide +kernel
theorem dX3_balance_57 : decode cX3_balance 57 = .ok (.iadd, 1) := by decide +kernel
theorem dX3_balance_58 : decode cX3_balance 58 = .ok (.goto 7, 3) := by decide +kernel
theorem dX3_balance_61 : decode cX3_balance 61 = .ok (.aload_n 0, 1) := by decide +kernel
theorem dX3_balance_62 : decode cX3_balance 62 = .ok (.getfield 31, 3) := by decide +kernel
theorem dX3_balance_65 : decode cX3_balance 65 = .ok (.putfield 15, 3) := by decide +kernel
theorem dX3_balance_68 : decode cX3_balance 68 = .ok (.iconst 1, 1) := by decide +kernel
theorem dX3_balance_69 : decode cX3_balance 69 = .ok (.ireturn, 1) := by decide +kernel
theorem dX3_setBounds_0 : decode cX3_setBounds 0 = .ok (.iconst 0, 1) := by decide +kernel
theorem dX3_setBounds_1 : decode cX3_setBounds 1 = .ok (.istore_n 3, 1) := by decide +kernel
theorem dX3_setBounds_2 : decode cX3_setBounds 2 = .ok (.iload_n 3, 1) := by decide +kernel
theorem dX3_setBounds_3 : decode cX3_setBounds 3 = .ok (.iconst 4, 1) := by decide +kernel
theorem dX3_setBounds_4 : decode cX3_setBounds 4 = .ok (.if_icmp .ge 113, 3) := by decide +kernel
theorem dX3_setBounds_7 : decode cX3_setBounds 7 = .ok (.iload_n 3, 1) := by decide +kernel
theorem dX3_setBounds_8 : decode cX3_setBounds 8 = .ok (.iload_n 1, 1) := by decide +kernel
theorem dX3_setBounds_9 : decode cX3_setBounds 9 = .ok (.if_icmp .ge 16, 3) := by decide +kernel
theorem dX3_setBounds_12 : decode cX3_setBounds 12 = .ok (.iload_n 1, 1) := by decide +kernel
theorem dX3_setBounds_13 : decode cX3_setBounds 13 = .ok (.iload_n 2, 1) := by decide +kernel
theorem dX3_setBounds_14 : decode cX3_setBounds 14 = .ok (.iload_n 3, 1) := by decide +kernel
theorem dX3_setBounds_15 : decode cX3_setBounds 15 = .ok (.invokestatic 49, 3) := by decide +kernel
theorem dX3_setBounds_18 : decode cX3_setBounds 18 = .ok (.ifCond .eq 7, 3) := by decide +kernel
theorem dX3_setBounds_21 : decode cX3_setBounds 21 = .ok (.iconst 1, 1) := by decide +kernel
theorem dX3_setBounds_22 : decode cX3_setBounds 22 = .ok (.goto 4, 3) := by decide +kernel
theorem dX3_setBounds_25 : decode cX3_setBounds 25 = .ok (.iconst 0, 1) := by decide +kernel
theorem dX3_setBounds_26 : decode cX3_setBounds 26 = .ok (.istore 4, 2) := by decide +kernel
theorem dX3_setBounds_28 : decode cX3_setBounds 28 = .ok (.iload_n 3, 1) := by decide +kernel
theorem dX3_setBounds_29 : decode cX3_setBounds 29 = .ok (.iload_n 1, 1) := by decide +kernel
theorem dX3_setBounds_30 : decode cX3_setBounds 30 = .ok (.if_icmp .ge 15, 3) := by decide +kernel
theorem dX3_setBounds_33 : decode cX3_setBounds 33 = .ok (.iload_n 2, 1) := by decide +kernel
theorem dX3_setBounds_34 : decode cX3_setBounds 34 = .ok (.iload_n 3, 1) := by decide +kernel
theorem dX3_setBounds_35 : decode cX3_setBounds 35 = .ok (.invokestatic 55, 3) := by decide +kernel
theorem dX3_setBounds_38 : decode cX3_setBounds 38 = .ok (.ifCond .eq 7, 3) := by decide +kernel
theorem dX3_setBounds_41 : decode cX3_setBounds 41 = .ok (.iconst 1, 1) := by decide +kernel
theorem dX3_setBounds_42 : decode cX3_setBounds 42 = .ok (.goto 4, 3) := by decide +kernel
theorem dX3_setBounds_45 : decode cX3_setBounds 45 = .ok (.iconst 0, 1) := by decide +kernel
theorem dX3_setBounds_46 : decode cX3_setBounds 46 = .ok (.istore 5, 2) := by decide +kernel
theorem dX3_setBounds_48 : decode cX3_setBounds 48 = .ok (.iload 4, 2) := by decide +kernel
theorem dX3_setBounds_50 : decode cX3_setBounds 50 = .ok (.ifCond .eq 10, 3) := by decide +kernel
theorem dX3_setBounds_53 : decode cX3_setBounds 53 = .ok (.iload 5, 2) := by decide +kernel
theorem dX3_setBounds_55 : decode cX3_setBounds 55 = .ok (.ifCond .eq 5, 3) := by decide +kernel
theorem dX3_setBounds_58 : decode cX3_setBounds 58 = .ok (.iconst 0, 1) := by decide +kernel
theorem dX3_setBounds_59 : decode cX3_setBounds 59 = .ok (.ireturn, 1) := by decide +kernel
theorem dX3_setBounds_60 : decode cX3_setBounds 60 = .ok (.aload_n 0, 1) := by decide +kernel
theorem dX3_setBounds_61 : decode cX3_setBounds 61 = .ok (.getfield 19, 3) := by decide +kernel
theorem dX3_setBounds_64 : decode cX3_setBounds 64 = .ok (.iload_n 3, 1) := by decide +kernel
theorem dX3_setBounds_65 : decode cX3_setBounds 65 = .ok (.iload 4, 2) := by decide +kernel
theorem dX3_setBounds_67 : decode cX3_setBounds 67 = .ok (.ifCond .eq 7, 3) := by decide +kernel
theorem dX3_setBounds_70 : decode cX3_setBounds 70 = .ok (.iconst 1, 1) := by decide +kernel
theorem dX3_setBounds_71 : decode cX3_setBounds 71 = .ok (.goto 14, 3) := by decide +kernel
theorem dX3_setBounds_74 : decode cX3_setBounds 74 = .ok (.iload 5, 2) := by decide +kernel
theorem dX3_setBounds_76 : decode cX3_setBounds 76 = .ok (.ifCond .eq 8, 3) := by decide +kernel
theorem dX3_setBounds_79 : decode cX3_setBounds 79 = .ok (.bipush (-4), 2) := by decide +kernel
theorem dX3_setBounds_81 : decode cX3_setBounds 81 = .ok (.goto 4, 3) := by decide +kernel
theorem dX3_setBounds_84 : decode cX3_setBounds 84 = .ok (.iconst 0, 1) := by decide +kernel
theorem dX3_setBounds_85 : decode cX3_setBounds 85 = .ok (.iastore, 1) := by decide +kernel
theorem dX3_setBounds_86 : decode cX3_setBounds 86 = .ok (.aload_n 0, 1) := by decide +kernel
theorem dX3_setBounds_87 : decode cX3_setBounds 87 = .ok (.getfield 22, 3) := by decide +kernel
theorem dX3_setBounds_90 : decode cX3_setBounds 90 = .ok (.iload_n 3, 1) := by decide +kernel
theorem dX3_setBounds_91 : decode cX3_setBounds 91 = .ok (.iload 4, 2) := by decide +kernel
theorem dX3_setBounds_93 : decode cX3_setBounds 93 = .ok (.ifCond .eq 7, 3) := by decide +kernel
theorem dX3_setBounds_96 : decode cX3_setBounds 96 = .ok (.iconst 4, 1) := by decide +kernel
theorem dX3_setBounds_97 : decode cX3_setBounds 97 = .ok (.goto 13, 3) := by decide +kernel
theorem dX3_setBounds_100 : decode cX3_setBounds 100 = .ok (.iload 5, 2) := by decide +kernel
theorem dX3_setBounds_102 : decode cX3_setBounds 102 = .ok (.ifCond .eq 7, 3) := by decide +kernel
theorem dX3_setBounds_105 : decode cX3_setBounds 105 = .ok (.iconst (-1), 1) := by decide +kernel
theorem dX3_setBounds_106 : decode cX3_setBounds 106 = .ok (.goto 4, 3) := by decide +kernel
theorem dX3_setBounds_109 : decode cX3_setBounds 109 = .ok (.iconst 0, 1) := by decide +kernel
theorem dX3_setBounds_110 : decode cX3_setBounds 110 = .ok (.iastore, 1) := by decide +kernel
theorem dX3_setBounds_111 : decode cX3_setBounds 111 = .ok (.iinc 3 1, 3) := by decide +kernel
theorem dX3_setBounds_114 : decode cX3_setBounds 114 = .ok (.goto (-112), 3) := by decide +kernel
theorem dX3_setBounds_117 : decode cX3_setBounds 117 = .ok (.iconst 1, 1) := by decide +kernel
theorem dX3_setBounds_118 : decode cX3_setBounds 118 = .ok (.ireturn, 1) := by decide +kernel
theorem dX3_tryAll_0 : decode cX3_tryAll 0 = .ok (.aload_n 0, 1) := by decide +kernel
theorem dX3_tryAll_1 : decode cX3_tryAll 1 = .ok (.getfield 19, 3) := by decide +kernel
theorem dX3_tryAll_4 : decode cX3_tryAll 4 = .ok (.iconst 0, 1) := by decide +kernel
theorem dX3_tryAll_5 : decode cX3_tryAll 5 = .ok (.iaload, 1) := by decide +kernel
theorem dX3_tryAll_6 : decode cX3_tryAll 6 = .ok (.istore_n 3, 1) := by decide +kernel
theorem dX3_tryAll_7 : decode cX3_tryAll 7 = .ok (.iload_n 3, 1) := by decide +kernel
theorem dX3_tryAll_8 : decode cX3_tryAll 8 = .ok (.aload_n 0, 1) := by decide +kernel
theorem dX3_tryAll_9 : decode cX3_tryAll 9 = .ok (.getfield 22, 3) := by decide +kernel
theorem dX3_tryAll_12 : decode cX3_tryAll 12 = .ok (.iconst 0, 1) := by decide +kernel
theorem dX3_tryAll_13 : decode cX3_tryAll 13 = .ok (.iaload, 1) := by decide +kernel
theorem dX3_tryAll_14 : decode cX3_tryAll 14 = .ok (.if_icmp .gt 121, 3) := by decide +kernel
theorem dX3_tryAll_17 : decode cX3_tryAll 17 = .ok (.aload_n 0, 1) := by decide +kernel
theorem dX3_tryAll_18 : decode cX3_tryAll 18 = .ok (.getfield 19, 3) := by decide +kernel
theorem dX3_tryAll_21 : decode cX3_tryAll 21 = .ok (.iconst 1, 1) := by decide +kernel
theorem dX3_tryAll_22 : decode cX3_tryAll 22 = .ok (.iaload, 1) := by decide +kernel
theorem dX3_tryAll_23 : decode cX3_tryAll 23 = .ok (.istore 4, 2) := by decide +kernel
theorem dX3_tryAll_25 : decode cX3_tryAll 25 = .ok (.iload 4, 2) := by decide +kernel
theorem dX3_tryAll_27 : decode cX3_tryAll 27 = .ok (.aload_n 0, 1) := by decide +kernel
theorem dX3_tryAll_28 : decode cX3_tryAll 28 = .ok (.getfield 22, 3) := by decide +kernel
theorem dX3_tryAll_31 : decode cX3_tryAll 31 = .ok (.iconst 1, 1) := by decide +kernel
theorem dX3_tryAll_32 : decode cX3_tryAll 32 = .ok (.iaload, 1) := by decide +kernel
theorem dX3_tryAll_33 : decode cX3_tryAll 33 = .ok (.if_icmp .gt 96, 3) := by decide +kernel
theorem dX3_tryAll_36 : decode cX3_tryAll 36 = .ok (.aload_n 0, 1) := by decide +kernel
theorem dX3_tryAll_37 : decode cX3_tryAll 37 = .ok (.getfield 19, 3) := by decide +kernel
theorem dX3_tryAll_40 : decode cX3_tryAll 40 = .ok (.iconst 2, 1) := by decide +kernel
theorem dX3_tryAll_41 : decode cX3_tryAll 41 = .ok (.iaload, 1) := by decide +kernel
theorem dX3_tryAll_42 : decode cX3_tryAll 42 = .ok (.istore 5, 2) := by decide +kernel
theorem dX3_tryAll_44 : decode cX3_tryAll 44 = .ok (.iload 5, 2) := by decide +kernel
theorem dX3_tryAll_46 : decode cX3_tryAll 46 = .ok (.aload_n 0, 1) := by decide +kernel
theorem dX3_tryAll_47 : decode cX3_tryAll 47 = .ok (.getfield 22, 3) := by decide +kernel
theorem dX3_tryAll_50 : decode cX3_tryAll 50 = .ok (.iconst 2, 1) := by decide +kernel
theorem dX3_tryAll_51 : decode cX3_tryAll 51 = .ok (.iaload, 1) := by decide +kernel
theorem dX3_tryAll_52 : decode cX3_tryAll 52 = .ok (.if_icmp .gt 71, 3) := by decide +kernel
theorem dX3_tryAll_55 : decode cX3_tryAll 55 = .ok (.aload_n 0, 1) := by decide +kernel
theorem dX3_tryAll_56 : decode cX3_tryAll 56 = .ok (.getfield 19, 3) := by decide +kernel
theorem dX3_tryAll_59 : decode cX3_tryAll 59 = .ok (.iconst 3, 1) := by decide +kernel
theorem dX3_tryAll_60 : decode cX3_tryAll 60 = .ok (.iaload, 1) := by decide +kernel
theorem dX3_tryAll_61 : decode cX3_tryAll 61 = .ok (.istore 6, 2) := by decide +kernel
theorem dX3_tryAll_63 : decode cX3_tryAll 63 = .ok (.iload 6, 2) := by decide +kernel
theorem dX3_tryAll_65 : decode cX3_tryAll 65 = .ok (.aload_n 0, 1) := by decide +kernel
theorem dX3_tryAll_66 : decode cX3_tryAll 66 = .ok (.getfield 22, 3) := by decide +kernel
theorem dX3_tryAll_69 : decode cX3_tryAll 69 = .ok (.iconst 3, 1) := by decide +kernel
theorem dX3_tryAll_70 : decode cX3_tryAll 70 = .ok (.iaload, 1) := by decide +kernel
theorem dX3_tryAll_71 : decode cX3_tryAll 71 = .ok (.if_icmp .gt 46, 3) := by decide +kernel
theorem dX3_tryAll_74 : decode cX3_tryAll 74 = .ok (.aload_n 0, 1) := by decide +kernel
theorem dX3_tryAll_75 : decode cX3_tryAll 75 = .ok (.getfield 25, 3) := by decide +kernel
theorem dX3_tryAll_78 : decode cX3_tryAll 78 = .ok (.iconst 0, 1) := by decide +kernel
theorem dX3_tryAll_79 : decode cX3_tryAll 79 = .ok (.iload_n 3, 1) := by decide +kernel
theorem dX3_tryAll_80 : decode cX3_tryAll 80 = .ok (.iastore, 1) := by decide +kernel
theorem dX3_tryAll_81 : decode cX3_tryAll 81 = .ok (.aload_n 0, 1) := by decide +kernel
theorem dX3_tryAll_82 : decode cX3_tryAll 82 = .ok (.getfield 25, 3) := by decide +kernel
theorem dX3_tryAll_85 : decode cX3_tryAll 85 = .ok (.iconst 1, 1) := by decide +kernel
theorem dX3_tryAll_86 : decode cX3_tryAll 86 = .ok (.iload 4, 2) := by decide +kernel
theorem dX3_tryAll_88 : decode cX3_tryAll 88 = .ok (.iastore, 1) := by decide +kernel
theorem dX3_tryAll_89 : decode cX3_tryAll 89 = .ok (.aload_n 0, 1) := by decide +kernel
theorem dX3_tryAll_90 : decode cX3_tryAll 90 = .ok (.getfield 25, 3) := by decide +kernel
theorem dX3_tryAll_93 : decode cX3_tryAll 93 = .ok (.iconst 2, 1) := by decide +kernel
theorem dX3_tryAll_94 : decode cX3_tryAll 94 = .ok (.iload 5, 2) := by decide +kernel
theorem dX3_tryAll_96 : decode cX3_tryAll 96 = .ok (.iastore, 1) := by decide +kernel
theorem dX3_tryAll_97 : decode cX3_tryAll 97 = .ok (.aload_n 0, 1) := by decide +kernel
theorem dX3_tryAll_98 : decode cX3_tryAll 98 = .ok (.getfield 25, 3) := by decide +kernel
theorem dX3_tryAll_101 : decode cX3_tryAll 101 = .ok (.iconst 3, 1) := by decide +kernel
theorem dX3_tryAll_102 : decode cX3_tryAll 102 = .ok (.iload 6, 2) := by decide +kernel
theorem dX3_tryAll_104 : decode cX3_tryAll 104 = .ok (.iastore, 1) := by decide +kernel
theorem dX3_tryAll_105 : decode cX3_tryAll 105 = .ok (.aload_n 0, 1) := by decide +kernel
theorem dX3_tryAll_106 : decode cX3_tryAll 106 = .ok (.iload_n 1, 1) := by decide +kernel
theorem dX3_tryAll_107 : decode cX3_tryAll 107 = .ok (.iload_n 2, 1) := by decide +kernel
theorem dX3_tryAll_108 : decode cX3_tryAll 108 = .ok (.invokevirtual 59, 3) := by decide +kernel
theorem dX3_tryAll_111 : decode cX3_tryAll 111 = .ok (.iinc 6 1, 3) := by decide +kernel
theorem dX3_tryAll_114 : decode cX3_tryAll 114 = .ok (.goto (-51), 3) := by decide +kernel
theorem dX3_tryAll_117 : decode cX3_tryAll 117 = .ok (.iinc 5 1, 3) := by decide +kernel
theorem dX3_tryAll_120 : decode cX3_tryAll 120 = .ok (.goto (-76), 3) := by decide +kernel
theorem dX3_tryAll_123 : decode cX3_tryAll 123 = .ok (.iinc 4 1, 3) := by decide +kernel
theorem dX3_tryAll_126 : decode cX3_tryAll 126 = .ok (.goto (-101), 3) := by decide +kernel
theorem dX3_tryAll_129 : decode cX3_tryAll 129 = .ok (.iinc 3 1, 3) := by decide +kernel
theorem dX3_tryAll_132 : decode cX3_tryAll 132 = .ok (.goto (-125), 3) := by decide +kernel
theorem dX3_tryAll_135 : decode cX3_tryAll 135 = .ok (.return_, 1) := by decide +kernel
theorem dX3_holdIfLess_0 : decode cX3_holdIfLess 0 = .ok (.iconst 0, 1) := by decide +kernel
theorem dX3_holdIfLess_1 : decode cX3_holdIfLess 1 = .ok (.istore_n 3, 1) := by decide +kernel
theorem dX3_holdIfLess_2 : decode cX3_holdIfLess 2 = .ok (.iconst 0, 1) := by decide +kernel
theorem dX3_holdIfLess_3 : decode cX3_holdIfLess 3 = .ok (.istore 4, 2) := by decide +kernel
theorem dX3_holdIfLess_5 : decode cX3_holdIfLess 5 = .ok (.iload 4, 2) := by decide +kernel
theorem dX3_holdIfLess_7 : decode cX3_holdIfLess 7 = .ok (.iconst 4, 1) := by decide +kernel
theorem dX3_holdIfLess_8 : decode cX3_holdIfLess 8 = .ok (.if_icmp .ge 22, 3) := by decide +kernel
theorem dX3_holdIfLess_11 : decode cX3_holdIfLess 11 = .ok (.iload_n 3, 1) := by decide +kernel
theorem dX3_holdIfLess_12 : decode cX3_holdIfLess 12 = .ok (.aload_n 0, 1) := by decide +kernel
theorem dX3_holdIfLess_13 : decode cX3_holdIfLess 13 = .ok (.getfield 25, 3) := by decide +kernel
theorem dX3_holdIfLess_16 : decode cX3_holdIfLess 16 = .ok (.iload 4, 2) := by decide +kernel
theorem dX3_holdIfLess_18 : decode cX3_holdIfLess 18 = .ok (.iaload, 1) := by decide +kernel
theorem dX3_holdIfLess_19 : decode cX3_holdIfLess 19 = .ok (.invokestatic 62, 3) := by decide +kernel
theorem dX3_holdIfLess_22 : decode cX3_holdIfLess 22 = .ok (.iadd, 1) := by decide +kernel
theorem dX3_holdIfLess_23 : decode cX3_holdIfLess 23 = .ok (.istore_n 3, 1) := by decide +kernel
theorem dX3_holdIfLess_24 : decode cX3_holdIfLess 24 = .ok (.iinc 4 1, 3) := by decide +kernel
theorem dX3_holdIfLess_27 : decode cX3_holdIfLess 27 = .ok (.goto (-22), 3) := by decide +kernel
theorem dX3_holdIfLess_30 : decode cX3_holdIfLess 30 = .ok (.iload_n 3, 1) := by decide +kernel
theorem dX3_holdIfLess_31 : decode cX3_holdIfLess 31 = .ok (.aload_n 0, 1) := by decide +kernel
theorem dX3_holdIfLess_32 : decode cX3_holdIfLess 32 = .ok (.getfield 28, 3) := by decide +kernel
theorem dX3_holdIfLess_35 : decode cX3_holdIfLess 35 = .ok (.if_icmp .ge 32, 3) := by decide +kernel
theorem dX3_holdIfLess_38 : decode cX3_holdIfLess 38 = .ok (.aload_n 0, 1) := by decide +kernel
theorem dX3_holdIfLess_39 : decode cX3_holdIfLess 39 = .ok (.aload_n 0, 1) := by decide +kernel
theorem dX3_holdIfLess_40 : decode cX3_holdIfLess 40 = .ok (.getfield 25, 3) := by decide +kernel
theorem dX3_holdIfLess_43 : decode cX3_holdIfLess 43 = .ok (.iload_n 1, 1) := by decide +kernel
theorem dX3_holdIfLess_44 : decode cX3_holdIfLess 44 = .ok (.iload_n 2, 1) := by decide +kernel
theorem dX3_holdIfLess_45 : decode cX3_holdIfLess 45 = .ok (.invokevirtual 45, 3) := by decide +kernel
theorem dX3_holdIfLess_48 : decode cX3_holdIfLess 48 = .ok (.ifCond .eq 19, 3) := by decide +kernel
theorem dX3_holdIfLess_51 : decode cX3_holdIfLess 51 = .ok (.aload_n 0, 1) := by decide +kernel
theorem dX3_holdIfLess_52 : decode cX3_holdIfLess 52 = .ok (.iload_n 3, 1) := by decide +kernel
theorem dX3_holdIfLess_53 : decode cX3_holdIfLess 53 = .ok (.putfield 28, 3) := by decide +kernel
theorem dX3_holdIfLess_56 : decode cX3_holdIfLess 56 = .ok (.aload_n 0, 1) := by decide +kernel
theorem dX3_holdIfLess_57 : decode cX3_holdIfLess 57 = .ok (.getfield 25, 3) := by decide +kernel
theorem dX3_holdIfLess_60 : decode cX3_holdIfLess 60 = .ok (.aload_n 0, 1) := by decide +kernel
theorem dX3_holdIfLess_61 : decode cX3_holdIfLess 61 = .ok (.getfield 9, 3) := by decide +kernel
theorem dX3_holdIfLess_64 : decode cX3_holdIfLess 64 = .ok (.invokestatic 68, 3) := by decide +kernel
theorem dX3_holdIfLess_67 : decode cX3_holdIfLess 67 = .ok (.return_, 1) := by decide +kernel
theorem dX3_divides_0 : decode cX3_divides 0 = .ok (.aload_n 0, 1) := by decide +kernel
theorem dX3_divides_1 : decode cX3_divides 1 = .ok (.sipush 1000, 3) := by decide +kernel
theorem dX3_divides_4 : decode cX3_divides 4 = .ok (.putfield 31, 3) := by decide +kernel
theorem dX3_divides_7 : decode cX3_divides 7 = .ok (.aload_n 0, 1) := by decide +kernel
theorem dX3_divides_8 : decode cX3_divides 8 = .ok (.sipush (-1000), 3) := by decide +kernel
theorem dX3_divides_11 : decode cX3_divides 11 = .ok (.putfield 34, 3) := by decide +kernel
theorem dX3_divides_14 : decode cX3_divides 14 = .ok (.iconst 0, 1) := by decide +kernel
theorem dX3_divides_15 : decode cX3_divides 15 = .ok (.istore 4, 2) := by decide +kernel
theorem dX3_divides_17 : decode cX3_divides 17 = .ok (.iload 4, 2) := by decide +kernel
theorem dX3_divides_19 : decode cX3_divides 19 = .ok (.iconst 1, 1) := by decide +kernel
theorem dX3_divides_20 : decode cX3_divides 20 = .ok (.iload_n 2, 1) := by decide +kernel
theorem dX3_divides_21 : decode cX3_divides 21 = .ok (.ishl, 1) := by decide +kernel
theorem dX3_divides_22 : decode cX3_divides 22 = .ok (.if_icmp .ge 56, 3) := by decide +kernel
theorem dX3_divides_25 : decode cX3_divides 25 = .ok (.aload_n 1, 1) := by decide +kernel
theorem dX3_divides_26 : decode cX3_divides 26 = .ok (.iload 4, 2) := by decide +kernel
theorem dX3_divides_28 : decode cX3_divides 28 = .ok (.invokestatic 74, 3) := by decide +kernel
theorem dX3_divides_31 : decode cX3_divides 31 = .ok (.istore 5, 2) := by decide +kernel
theorem dX3_divides_33 : decode cX3_divides 33 = .ok (.iload_n 3, 1) := by decide +kernel
theorem dX3_divides_34 : decode cX3_divides 34 = .ok (.iload 4, 2) := by decide +kernel
theorem dX3_divides_36 : decode cX3_divides 36 = .ok (.invokestatic 78, 3) := by decide +kernel
theorem dX3_divides_39 : decode cX3_divides 39 = .ok (.iconst 1, 1) := by decide +kernel
theorem dX3_divides_40 : decode cX3_divides 40 = .ok (.if_icmp .ne 19, 3) := by decide +kernel
theorem dX3_divides_43 : decode cX3_divides 43 = .ok (.aload_n 0, 1) := by decide +kernel
theorem dX3_divides_44 : decode cX3_divides 44 = .ok (.aload_n 0, 1) := by decide +kernel
theorem dX3_divides_45 : decode cX3_divides 45 = .ok (.getfield 31, 3) := by decide +kernel
theorem dX3_divides_48 : decode cX3_divides 48 = .ok (.iload 5, 2) := by decide +kernel
theorem dX3_divides_50 : decode cX3_divides 50 = .ok (.invokestatic 81, 3) := by decide +kernel
theorem dX3_divides_53 : decode cX3_divides 53 = .ok (.putfield 31, 3) := by decide +kernel
theorem dX3_divides_56 : decode cX3_divides 56 = .ok (.goto 16, 3) := by decide +kernel
theorem dX3_divides_59 : decode cX3_divides 59 = .ok (.aload_n 0, 1) := by decide +kernel
theorem dX3_divides_60 : decode cX3_divides 60 = .ok (.aload_n 0, 1) := by decide +kernel
theorem dX3_divides_61 : decode cX3_divides 61 = .ok (.getfield 34, 3) := by decide +kernel
theorem dX3_divides_64 : decode cX3_divides 64 = .ok (.iload 5, 2) := by decide +kernel
theorem dX3_divides_66 : decode cX3_divides 66 = .ok (.invokestatic 84, 3) := by decide +kernel
theorem dX3_divides_69 : decode cX3_divides 69 = .ok (.putfield 34, 3) := by decide +kernel
theorem dX3_divides_72 : decode cX3_divides 72 = .ok (.iinc 4 1, 3) := by decide +kernel
theorem dX3_divides_75 : decode cX3_divides 75 = .ok (.goto (-58), 3) := by decide +kernel
theorem dX3_divides_78 : decode cX3_divides 78 = .ok (.aload_n 0, 1) := by decide +kernel
theorem dX3_divides_79 : decode cX3_divides 79 = .ok (.getfield 31, 3) := by decide +kernel
theorem dX3_divides_82 : decode cX3_divides 82 = .ok (.aload_n 0, 1) := by decide +kernel
theorem dX3_divides_83 : decode cX3_divides 83 = .ok (.getfield 34, 3) := by decide +kernel
theorem dX3_divides_86 : decode cX3_divides 86 = .ok (.if_icmp .le 7, 3) := by decide +kernel
theorem dX3_divides_89 : decode cX3_divides 89 = .ok (.iconst 1, 1) := by decide +kernel
theorem dX3_divides_90 : decode cX3_divides 90 = .ok (.goto 4, 3) := by decide +kernel
theorem dX3_divides_93 : decode cX3_divides 93 = .ok (.iconst 0, 1) := by decide +kernel
theorem dX3_divides_94 : decode cX3_divides 94 = .ok (.ireturn, 1) := by decide +kernel
theorem dX4_init_0 : decode cX4_init 0 = .ok (.aload_n 0, 1) := by decide +kernel
theorem dX4_init_1 : decode cX4_init 1 = .ok (.invokespecial 3, 3) := by decide +kernel
theorem dX4_init_4 : decode cX4_init 4 = .ok (.aload_n 0, 1) := by decide +kernel
theorem dX4_init_5 : decode cX4_init 5 = .ok (.iconst 3, 1) := by decide +kernel
theorem dX4_init_6 : decode cX4_init 6 = .ok (.putfield 9, 3) := by decide +kernel
theorem dX4_init_9 : decode cX4_init 9 = .ok (.aload_n 0, 1) := by decide +kernel
theorem dX4_init_10 : decode cX4_init 10 = .ok (.iconst 0, 1) := by decide +kernel
theorem dX4_init_11 : decode cX4_init 11 = .ok (.putfield 15, 3) := by decide +kernel
theorem dX4_init_14 : decode cX4_init 14 = .ok (.aload_n 0, 1) := by decide +kernel
theorem dX4_init_15 : decode cX4_init 15 = .ok (.iconst 0, 1) := by decide +kernel
theorem dX4_init_16 : decode cX4_init 16 = .ok (.putfield 18, 3) := by decide +kernel
theorem dX4_init_19 : decode cX4_init 19 = .ok (.aload_n 0, 1) := by decide +kernel
theorem dX4_init_20 : decode cX4_init 20 = .ok (.iconst 4, 1) := by decide +kernel
theorem dX4_init_21 : decode cX4_init 21 = .ok (.newarray .int, 2) := by decide +kernel
theorem dX4_init_23 : decode cX4_init 23 = .ok (.putfield 21, 3) := by decide +kernel
theorem dX4_init_26 : decode cX4_init 26 = .ok (.aload_n 0, 1) := by decide +kernel
theorem dX4_init_27 : decode cX4_init 27 = .ok (.iconst 1, 1) := by decide +kernel
theorem dX4_init_28 : decode cX4_init 28 = .ok (.putfield 25, 3) := by decide +kernel
theorem dX4_init_31 : decode cX4_init 31 = .ok (.aload_n 0, 1) := by decide +kernel
theorem dX4_init_32 : decode cX4_init 32 = .ok (.new 28, 3) := by decide +kernel
theorem dX4_init_35 : decode cX4_init 35 = .ok (.dup, 1) := by decide +kernel
theorem dX4_init_36 : decode cX4_init 36 = .ok (.bipush 6, 2) := by decide +kernel
theorem dX4_init_38 : decode cX4_init 38 = .ok (.invokespecial 30, 3) := by decide +kernel
theorem dX4_init_41 : decode cX4_init 41 = .ok (.putfield 33, 3) := by decide +kernel
theorem dX4_init_44 : decode cX4_init 44 = .ok (.aload_n 0, 1) := by decide +kernel
theorem dX4_init_45 : decode cX4_init 45 = .ok (.new 28, 3) := by decide +kernel
theorem dX4_init_48 : decode cX4_init 48 = .ok (.dup, 1) := by decide +kernel
theorem dX4_init_49 : decode cX4_init 49 = .ok (.bipush 8, 2) := by decide +kernel
theorem dX4_init_51 : decode cX4_init 51 = .ok (.invokespecial 30, 3) := by decide +kernel
theorem dX4_init_54 : decode cX4_init 54 = .ok (.putfield 37, 3) := by decide +kernel
theorem dX4_init_57 : decode cX4_init 57 = .ok (.aload_n 0, 1) := by decide +kernel
theorem dX4_init_58 : decode cX4_init 58 = .ok (.new 28, 3) := by decide +kernel
theorem dX4_init_61 : decode cX4_init 61 = .ok (.dup, 1) := by decide +kernel
theorem dX4_init_62 : decode cX4_init 62 = .ok (.bipush 8, 2) := by decide +kernel
theorem dX4_init_64 : decode cX4_init 64 = .ok (.invokespecial 30, 3) := by decide +kernel
theorem dX4_init_67 : decode cX4_init 67 = .ok (.putfield 40, 3) := by decide +kernel
theorem dX4_init_70 : decode cX4_init 70 = .ok (.return_, 1) := by decide +kernel
theorem dX4_startAnew_0 : decode cX4_startAnew 0 = .ok (.aload_n 0, 1) := by decide +kernel
theorem dX4_startAnew_1 : decode cX4_startAnew 1 = .ok (.iload_n 1, 1) := by decide +kernel
theorem dX4_startAnew_2 : decode cX4_startAnew 2 = .ok (.putfield 9, 3) := by decide +kernel
theorem dX4_startAnew_5 : decode cX4_startAnew 5 = .ok (.aload_n 0, 1) := by decide +kernel
theorem dX4_startAnew_6 : decode cX4_startAnew 6 = .ok (.iconst 0, 1) := by decide +kernel
theorem dX4_startAnew_7 : decode cX4_startAnew 7 = .ok (.putfield 15, 3) := by decide +kernel
theorem dX4_startAnew_10 : decode cX4_startAnew 10 = .ok (.aload_n 0, 1) := by decide +kernel
theorem dX4_startAnew_11 : decode cX4_startAnew 11 = .ok (.iconst 0, 1) := by decide +kernel
theorem dX4_startAnew_12 : decode cX4_startAnew 12 = .ok (.putfield 18, 3) := by decide +kernel
theorem dX4_startAnew_15 : decode cX4_startAnew 15 = .ok (.aload_n 0, 1) := by decide +kernel
theorem dX4_startAnew_16 : decode cX4_startAnew 16 = .ok (.iconst 1, 1) := by decide +kernel
theorem dX4_startAnew_17 : decode cX4_startAnew 17 = .ok (.putfield 25, 3) := by decide +kernel
theorem dX4_startAnew_20 : decode cX4_startAnew 20 = .ok (.iconst 0, 1) := by decide +kernel
theorem dX4_startAnew_21 : decode cX4_startAnew 21 = .ok (.istore_n 2, 1) := by decide +kernel
theorem dX4_startAnew_22 : decode cX4_startAnew 22 = .ok (.iload_n 2, 1) := by decide +kernel
theorem dX4_startAnew_23 : decode cX4_startAnew 23 = .ok (.iconst 4, 1) := by decide +kernel
theorem dX4_startAnew_24 : decode cX4_startAnew 24 = .ok (.if_icmp .ge 16, 3) := by decide +kernel
theorem dX4_startAnew_27 : decode cX4_startAnew 27 = .ok (.aload_n 0, 1) := by decide +kernel
theorem dX4_startAnew_28 : decode cX4_startAnew 28 = .ok (.getfield 21, 3) := by decide +kernel
theorem dX4_startAnew_31 : decode cX4_startAnew 31 = .ok (.iload_n 2, 1) := by decide +kernel
theorem dX4_startAnew_32 : decode cX4_startAnew 32 = .ok (.iconst 0, 1) := by decide +kernel
theorem dX4_startAnew_33 : decode cX4_startAnew 33 = .ok (.iastore, 1) := by decide +kernel
theorem dX4_startAnew_34 : decode cX4_startAnew 34 = .ok (.iinc 2 1, 3) := by decide +kernel
theorem dX4_startAnew_37 : decode cX4_startAnew 37 = .ok (.goto (-15), 3) := by decide +kernel
theorem dX4_startAnew_40 : decode cX4_startAnew 40 = .ok (.return_, 1) := by decide +kernel
theorem dX4_copyFrom_0 : decode cX4_copyFrom 0 = .ok (.aload_n 0, 1) := by decide +kernel
theorem dX4_copyFrom_1 : decode cX4_copyFrom 1 = .ok (.aload_n 1, 1) := by decide +kernel
theorem dX4_copyFrom_2 : decode cX4_copyFrom 2 = .ok (.getfield 9, 3) := by decide +kernel
theorem dX4_copyFrom_5 : decode cX4_copyFrom 5 = .ok (.putfield 9, 3) := by decide +kernel
theorem dX4_copyFrom_8 : decode cX4_copyFrom 8 = .ok (.aload_n 0, 1) := by decide +kernel
theorem dX4_copyFrom_9 : decode cX4_copyFrom 9 = .ok (.aload_n 1, 1) := by decide +kernel
theorem dX4_copyFrom_10 : decode cX4_copyFrom 10 = .ok (.getfield 15, 3) := by decide +kernel
theorem dX4_copyFrom_13 : decode cX4_copyFrom 13 = .ok (.putfield 15, 3) := by decide +kernel
theorem dX4_copyFrom_16 : decode cX4_copyFrom 16 = .ok (.aload_n 0, 1) := by decide +kernel
theorem dX4_copyFrom_17 : decode cX4_copyFrom 17 = .ok (.aload_n 1, 1) := by decide +kernel
theorem dX4_copyFrom_18 : decode cX4_copyFrom 18 = .ok (.getfield 18, 3) := by decide +kernel
theorem dX4_copyFrom_21 : decode cX4_copyFrom 21 = .ok (.putfield 18, 3) := by decide +kernel
theorem dX4_copyFrom_24 : decode cX4_copyFrom 24 = .ok (.aload_n 0, 1) := by decide +kernel
theorem dX4_copyFrom_25 : decode cX4_copyFrom 25 = .ok (.aload_n 1, 1) := by decide +kernel
theorem dX4_copyFrom_26 : decode cX4_copyFrom 26 = .ok (.getfield 25, 3) := by decide +kernel
theorem dX4_copyFrom_29 : decode cX4_copyFrom 29 = .ok (.putfield 25, 3) := by decide +kernel
theorem dX4_copyFrom_32 : decode cX4_copyFrom 32 = .ok (.aload_n 1, 1) := by decide +kernel
theorem dX4_copyFrom_33 : decode cX4_copyFrom 33 = .ok (.getfield 21, 3) := by decide +kernel
theorem dX4_copyFrom_36 : decode cX4_copyFrom 36 = .ok (.aload_n 0, 1) := by decide +kernel
theorem dX4_copyFrom_37 : decode cX4_copyFrom 37 = .ok (.getfield 21, 3) := by decide +kernel
theorem dX4_copyFrom_40 : decode cX4_copyFrom 40 = .ok (.invokestatic 43, 3) := by decide +kernel
theorem dX4_copyFrom_43 : decode cX4_copyFrom 43 = .ok (.aload_n 0, 1) := by decide +kernel
theorem dX4_copyFrom_44 : decode cX4_copyFrom 44 = .ok (.getfield 33, 3) := by decide +kernel
theorem dX4_copyFrom_47 : decode cX4_copyFrom 47 = .ok (.aload_n 1, 1) := by decide +kernel
theorem dX4_copyFrom_48 : decode cX4_copyFrom 48 = .ok (.getfield 33, 3) := by decide +kernel
theorem dX4_copyFrom_51 : decode cX4_copyFrom 51 = .ok (.invokevirtual 47, 3) := by decide +kernel
theorem dX4_copyFrom_54 : decode cX4_copyFrom 54 = .ok (.aload_n 0, 1) := by decide +kernel
theorem dX4_copyFrom_55 : decode cX4_copyFrom 55 = .ok (.getfield 37, 3) := by decide +kernel
theorem dX4_copyFrom_58 : decode cX4_copyFrom 58 = .ok (.aload_n 1, 1) := by decide +kernel
theorem dX4_copyFrom_59 : decode cX4_copyFrom 59 = .ok (.getfield 37, 3) := by decide +kernel
theorem dX4_copyFrom_62 : decode cX4_copyFrom 62 = .ok (.invokevirtual 47, 3) := by decide +kernel
theorem dX4_copyFrom_65 : decode cX4_copyFrom 65 = .ok (.aload_n 0, 1) := by decide +kernel
theorem dX4_copyFrom_66 : decode cX4_copyFrom 66 = .ok (.getfield 40, 3) := by decide +kernel
theorem dX4_copyFrom_69 : decode cX4_copyFrom 69 = .ok (.aload_n 1, 1) := by decide +kernel
theorem dX4_copyFrom_70 : decode cX4_copyFrom 70 = .ok (.getfield 40, 3) := by decide +kernel
theorem dX4_copyFrom_73 : decode cX4_copyFrom 73 = .ok (.invokevirtual 47, 3) := by decide +kernel
theorem dX4_copyFrom_76 : decode cX4_copyFrom 76 = .ok (.return_, 1) := by decide +kernel
theorem dX4_copyRow_0 : decode cX4_copyRow 0 = .ok (.aload_n 0, 1) := by decide +kernel
theorem dX4_copyRow_1 : decode cX4_copyRow 1 = .ok (.iconst 0, 1) := by decide +kernel
theorem dX4_copyRow_2 : decode cX4_copyRow 2 = .ok (.aload_n 1, 1) := by decide +kernel
theorem dX4_copyRow_3 : decode cX4_copyRow 3 = .ok (.iconst 0, 1) := by decide +kernel
theorem dX4_copyRow_4 : decode cX4_copyRow 4 = .ok (.aload_n 0, 1) := by decide +kernel
theorem dX4_copyRow_5 : decode cX4_copyRow 5 = .ok (.arraylength, 1) := by decide +kernel
theorem dX4_copyRow_6 : decode cX4_copyRow 6 = .ok (.aload_n 1, 1) := by decide +kernel
theorem dX4_copyRow_7 : decode cX4_copyRow 7 = .ok (.arraylength, 1) := by decide +kernel
theorem dX4_copyRow_8 : decode cX4_copyRow 8 = .ok (.invokestatic 51, 3) := by decide +kernel
theorem dX4_copyRow_11 : decode cX4_copyRow 11 = .ok (.invokestatic 57, 3) := by decide +kernel
theorem dX4_copyRow_14 : decode cX4_copyRow 14 = .ok (.return_, 1) := by decide +kernel
theorem dX4_lots_0 : decode cX4_lots 0 = .ok (.iconst 1, 1) := by decide +kernel
theorem dX4_lots_1 : decode cX4_lots 1 = .ok (.aload_n 0, 1) := by decide +kernel
theorem dX4_lots_2 : decode cX4_lots 2 = .ok (.getfield 9, 3) := by decide +kernel
theorem dX4_lots_5 : decode cX4_lots 5 = .ok (.ishl, 1) := by decide +kernel
theorem dX4_lots_6 : decode cX4_lots 6 = .ok (.ireturn, 1) := by decide +kernel
theorem dX4_hasLot_0 : decode cX4_hasLot 0 = .ok (.iload_n 1, 1) := by decide +kernel
theorem dX4_hasLot_1 : decode cX4_hasLot 1 = .ok (.ifCond .lt 15, 3) := by decide +kernel
theorem dX4_hasLot_4 : decode cX4_hasLot 4 = .ok (.iload_n 1, 1) := by decide +kernel
theorem dX4_hasLot_5 : decode cX4_hasLot 5 = .ok (.aload_n 0, 1) := by decide +kernel
theorem dX4_hasLot_6 : decode cX4_hasLot 6 = .ok (.invokevirtual 63, 3) := by decide +kernel
theorem dX4_hasLot_9 : decode cX4_hasLot 9 = .ok (.if_icmp .ge 7, 3) := by decide +kernel
theorem dX4_hasLot_12 : decode cX4_hasLot 12 = .ok (.iconst 1, 1) := by decide +kernel
theorem dX4_hasLot_13 : decode cX4_hasLot 13 = .ok (.goto 4, 3) := by decide +kernel
theorem dX4_hasLot_16 : decode cX4_hasLot 16 = .ok (.iconst 0, 1) := by decide +kernel
theorem dX4_hasLot_17 : decode cX4_hasLot 17 = .ok (.ireturn, 1) := by decide +kernel
theorem dX4_hasVoter_0 : decode cX4_hasVoter 0 = .ok (.iload_n 1, 1) := by decide +kernel
theorem dX4_hasVoter_1 : decode cX4_hasVoter 1 = .ok (.ifCond .lt 15, 3) := by decide +kernel
theorem dX4_hasVoter_4 : decode cX4_hasVoter 4 = .ok (.iload_n 1, 1) := by decide +kernel
theorem dX4_hasVoter_5 : decode cX4_hasVoter 5 = .ok (.aload_n 0, 1) := by decide +kernel
theorem dX4_hasVoter_6 : decode cX4_hasVoter 6 = .ok (.getfield 9, 3) := by decide +kernel
theorem dX4_hasVoter_9 : decode cX4_hasVoter 9 = .ok (.if_icmp .ge 7, 3) := by decide +kernel
theorem dX4_hasVoter_12 : decode cX4_hasVoter 12 = .ok (.iconst 1, 1) := by decide +kernel
theorem dX4_hasVoter_13 : decode cX4_hasVoter 13 = .ok (.goto 4, 3) := by decide +kernel
theorem dX4_hasVoter_16 : decode cX4_hasVoter 16 = .ok (.iconst 0, 1) := by decide +kernel
theorem dX4_hasVoter_17 : decode cX4_hasVoter 17 = .ok (.ireturn, 1) := by decide +kernel
theorem dX4_worthOf_0 : decode cX4_worthOf 0 = .ok (.aload_n 0, 1) := by decide +kernel
theorem dX4_worthOf_1 : decode cX4_worthOf 1 = .ok (.getfield 21, 3) := by decide +kernel
theorem dX4_worthOf_4 : decode cX4_worthOf 4 = .ok (.iload_n 1, 1) := by decide +kernel
theorem dX4_worthOf_5 : decode cX4_worthOf 5 = .ok (.invokestatic 67, 3) := by decide +kernel
theorem dX4_worthOf_8 : decode cX4_worthOf 8 = .ok (.ireturn, 1) := by decide +kernel
theorem dX4_weighed_0 : decode cX4_weighed 0 = .ok (.iconst 0, 1) := by decide +kernel
theorem dX4_weighed_1 : decode cX4_weighed 1 = .ok (.istore_n 1, 1) := by decide +kernel
theorem dX4_weighed_2 : decode cX4_weighed 2 = .ok (.iconst 0, 1) := by decide +kernel
theorem dX4_weighed_3 : decode cX4_weighed 3 = .ok (.istore_n 2, 1) := by decide +kernel
theorem dX4_weighed_4 : decode cX4_weighed 4 = .ok (.iload_n 2, 1) := by decide +kernel
theorem dX4_weighed_5 : decode cX4_weighed 5 = .ok (.aload_n 0, 1) := by decide +kernel
theorem dX4_weighed_6 : decode cX4_weighed 6 = .ok (.invokevirtual 63, 3) := by decide +kernel
theorem dX4_weighed_9 : decode cX4_weighed 9 = .ok (.if_icmp .ge 27, 3) := by decide +kernel
theorem dX4_weighed_12 : decode cX4_weighed 12 = .ok (.aload_n 0, 1) := by decide +kernel
theorem dX4_weighed_13 : decode cX4_weighed 13 = .ok (.iload_n 2, 1) := by decide +kernel
theorem dX4_weighed_14 : decode cX4_weighed 14 = .ok (.invokevirtual 73, 3) := by decide +kernel
theorem dX4_weighed_17 : decode cX4_weighed 17 = .ok (.aload_n 0, 1) := by decide +kernel
theorem dX4_weighed_18 : decode cX4_weighed 18 = .ok (.getfield 25, 3) := by decide +kernel
theorem dX4_weighed_21 : decode cX4_weighed 21 = .ok (.if_icmp .lt 9, 3) := by decide +kernel
theorem dX4_weighed_24 : decode cX4_weighed 24 = .ok (.iload_n 1, 1) := by decide +kernel
theorem dX4_weighed_25 : decode cX4_weighed 25 = .ok (.iconst 1, 1) := by decide +kernel
theorem dX4_weighed_26 : decode cX4_weighed 26 = .ok (.iload_n 2, 1) := by decide +kernel
theorem dX4_weighed_27 : decode cX4_weighed 27 = .ok (.ishl, 1) := by decide +kernel
theorem dX4_weighed_28 : decode cX4_weighed 28 = .ok (.ior, 1) := by decide +kernel
theorem dX4_weighed_29 : decode cX4_weighed 29 = .ok (.istore_n 1, 1) := by decide +kernel
theorem dX4_weighed_30 : decode cX4_weighed 30 = .ok (.iinc 2 1, 3) := by decide +kernel
theorem dX4_weighed_33 : decode cX4_weighed 33 = .ok (.goto (-29), 3) := by decide +kernel
theorem dX4_weighed_36 : decode cX4_weighed 36 = .ok (.iload_n 1, 1) := by decide +kernel
theorem dX4_weighed_37 : decode cX4_weighed 37 = .ok (.ireturn, 1) := by decide +kernel
theorem dX5_init_0 : decode cX5_init 0 = .ok (.aload_n 0, 1) := by decide +kernel
theorem dX5_init_1 : decode cX5_init 1 = .ok (.invokespecial 1, 3) := by decide +kernel
theorem dX5_init_4 : decode cX5_init 4 = .ok (.aload_n 0, 1) := by decide +kernel
theorem dX5_init_5 : decode cX5_init 5 = .ok (.bipush 100, 2) := by decide +kernel
theorem dX5_init_7 : decode cX5_init 7 = .ok (.newarray .int, 2) := by decide +kernel
theorem dX5_init_9 : decode cX5_init 9 = .ok (.putfield 9, 3) := by decide +kernel
theorem dX5_init_12 : decode cX5_init 12 = .ok (.aload_n 0, 1) := by decide +kernel
theorem dX5_init_13 : decode cX5_init 13 = .ok (.iconst 0, 1) := by decide +kernel
theorem dX5_init_14 : decode cX5_init 14 = .ok (.putfield 13, 3) := by decide +kernel
theorem dX5_init_17 : decode cX5_init 17 = .ok (.aload_n 0, 1) := by decide +kernel
theorem dX5_init_18 : decode cX5_init 18 = .ok (.iconst 0, 1) := by decide +kernel
theorem dX5_init_19 : decode cX5_init 19 = .ok (.putfield 17, 3) := by decide +kernel
theorem dX5_init_22 : decode cX5_init 22 = .ok (.aload_n 0, 1) := by decide +kernel
theorem dX5_init_23 : decode cX5_init 23 = .ok (.bipush 12, 2) := by decide +kernel
theorem dX5_init_25 : decode cX5_init 25 = .ok (.newarray .int, 2) := by decide +kernel
theorem dX5_init_27 : decode cX5_init 27 = .ok (.putfield 20, 3) := by decide +kernel
theorem dX5_init_30 : decode cX5_init 30 = .ok (.aload_n 0, 1) := by decide +kernel
theorem dX5_init_31 : decode cX5_init 31 = .ok (.bipush 12, 2) := by decide +kernel
theorem dX5_init_33 : decode cX5_init 33 = .ok (.newarray .int, 2) := by decide +kernel
theorem dX5_init_35 : decode cX5_init 35 = .ok (.putfield 23, 3) := by decide +kernel
theorem dX5_init_38 : decode cX5_init 38 = .ok (.aload_n 0, 1) := by decide +kernel
theorem dX5_init_39 : decode cX5_init 39 = .ok (.bipush 12, 2) := by decide +kernel
theorem dX5_init_41 : decode cX5_init 41 = .ok (.newarray .int, 2) := by decide +kernel
theorem dX5_init_43 : decode cX5_init 43 = .ok (.putfield 26, 3) := by decide +kernel
theorem dX5_init_46 : decode cX5_init 46 = .ok (.aload_n 0, 1) := by decide +kernel
theorem dX5_init_47 : decode cX5_init 47 = .ok (.iconst 0, 1) := by decide +kernel
theorem dX5_init_48 : decode cX5_init 48 = .ok (.putfield 29, 3) := by decide +kernel
theorem dX5_init_51 : decode cX5_init 51 = .ok (.return_, 1) := by decide +kernel
theorem dX5_append_0 : decode cX5_append 0 = .ok (.aload_n 0, 1) := by decide +kernel
theorem dX5_append_1 : decode cX5_append 1 = .ok (.getfield 13, 3) := by decide +kernel
theorem dX5_append_4 : decode cX5_append 4 = .ok (.bipush 100, 2) := by decide +kernel
theorem dX5_append_6 : decode cX5_append 6 = .ok (.if_icmp .lt 5, 3) := by decide +kernel
theorem dX5_append_9 : decode cX5_append 9 = .ok (.iconst 0, 1) := by decide +kernel
theorem dX5_append_10 : decode cX5_append 10 = .ok (.ireturn, 1) := by decide +kernel
theorem dX5_append_11 : decode cX5_append 11 = .ok (.aload_n 0, 1) := by decide +kernel
theorem dX5_append_12 : decode cX5_append 12 = .ok (.getfield 9, 3) := by decide +kernel
theorem dX5_append_15 : decode cX5_append 15 = .ok (.aload_n 0, 1) := by decide +kernel
theorem dX5_append_16 : decode cX5_append 16 = .ok (.getfield 13, 3) := by decide +kernel
theorem dX5_append_19 : decode cX5_append 19 = .ok (.iload_n 1, 1) := by decide +kernel
theorem dX5_append_20 : decode cX5_append 20 = .ok (.iastore, 1) := by decide +kernel
theorem dX5_append_21 : decode cX5_append 21 = .ok (.aload_n 0, 1) := by decide +kernel
theorem dX5_append_22 : decode cX5_append 22 = .ok (.dup, 1) := by decide +kernel
theorem dX5_append_23 : decode cX5_append 23 = .ok (.getfield 13, 3) := by decide +kernel
theorem dX5_append_26 : decode cX5_append 26 = .ok (.iconst 1, 1) := by decide +kernel
theorem dX5_append_27 : decode cX5_append 27 = .ok (.iadd, 1) := by decide +kernel
theorem dX5_append_28 : decode cX5_append 28 = .ok (.putfield 13, 3) := by decide +kernel
theorem dX5_append_31 : decode cX5_append 31 = .ok (.iconst 1, 1) := by decide +kernel
theorem dX5_append_32 : decode cX5_append 32 = .ok (.ireturn, 1) := by decide +kernel
theorem dX5_parse_0 : decode cX5_parse 0 = .ok (.aload_n 0, 1) := by decide +kernel
theorem dX5_parse_1 : decode cX5_parse 1 = .ok (.iconst 0, 1) := by decide +kernel
theorem dX5_parse_2 : decode cX5_parse 2 = .ok (.putfield 17, 3) := by decide +kernel
theorem dX5_parse_5 : decode cX5_parse 5 = .ok (.aload_n 0, 1) := by decide +kernel
theorem dX5_parse_6 : decode cX5_parse 6 = .ok (.iconst 0, 1) := by decide +kernel
theorem dX5_parse_7 : decode cX5_parse 7 = .ok (.putfield 29, 3) := by decide +kernel
theorem dX5_parse_10 : decode cX5_parse 10 = .ok (.iconst 0, 1) := by decide +kernel
theorem dX5_parse_11 : decode cX5_parse 11 = .ok (.istore_n 1, 1) := by decide +kernel
theorem dX5_parse_12 : decode cX5_parse 12 = .ok (.iload_n 1, 1) := by decide +kernel
theorem dX5_parse_13 : decode cX5_parse 13 = .ok (.bipush 12, 2) := by decide +kernel
theorem dX5_parse_15 : decode cX5_parse 15 = .ok (.if_icmp .ge 75, 3) := by decide +kernel
theorem dX5_parse_18 : decode cX5_parse 18 = .ok (.aload_n 0, 1) := by decide +kernel
theorem dX5_parse_19 : decode cX5_parse 19 = .ok (.iload_n 1, 1) := by decide +kernel
theorem dX5_parse_20 : decode cX5_parse 20 = .ok (.invokevirtual 32, 3) := by decide +kernel
theorem dX5_parse_23 : decode cX5_parse 23 = .ok (.ifCond .ne 8, 3) := by decide +kernel
theorem dX5_parse_26 : decode cX5_parse 26 = .ok (.aload_n 0, 1) := by decide +kernel
theorem dX5_parse_27 : decode cX5_parse 27 = .ok (.getfield 17, 3) := by decide +kernel
theorem dX5_parse_30 : decode cX5_parse 30 = .ok (.ireturn, 1) := by decide +kernel
theorem dX5_parse_31 : decode cX5_parse 31 = .ok (.aload_n 0, 1) := by decide +kernel
theorem dX5_parse_32 : decode cX5_parse 32 = .ok (.dup, 1) := by decide +kernel
theorem dX5_parse_33 : decode cX5_parse 33 = .ok (.getfield 29, 3) := by decide +kernel
theorem dX5_parse_36 : decode cX5_parse 36 = .ok (.iconst 1, 1) := by decide +kernel
theorem dX5_parse_37 : decode cX5_parse 37 = .ok (.iadd, 1) := by decide +kernel
theorem dX5_parse_38 : decode cX5_parse 38 = .ok (.putfield 29, 3) := by decide +kernel
theorem dX5_parse_41 : decode cX5_parse 41 = .ok (.aload_n 0, 1) := by decide +kernel
theorem dX5_parse_42 : decode cX5_parse 42 = .ok (.invokevirtual 36, 3) := by decide +kernel
theorem dX5_parse_45 : decode cX5_parse 45 = .ok (.iconst (-1), 1) := by decide +kernel
theorem dX5_parse_46 : decode cX5_parse 46 = .ok (.if_icmp .ne 5, 3) := by decide +kernel
theorem dX5_parse_49 : decode cX5_parse 49 = .ok (.iconst (-1), 1) := by decide +kernel
theorem dX5_parse_50 : decode cX5_parse 50 = .ok (.ireturn, 1) := by decide +kernel
theorem dX5_parse_51 : decode cX5_parse 51 = .ok (.aload_n 0, 1) := by decide +kernel
theorem dX5_parse_52 : decode cX5_parse 52 = .ok (.invokevirtual 36, 3) := by decide +kernel
theorem dX5_parse_55 : decode cX5_parse 55 = .ok (.bipush 59, 2) := by decide +kernel
theorem dX5_parse_57 : decode cX5_parse 57 = .ok (.if_icmp .ne 12, 3) := by decide +kernel
theorem dX5_parse_60 : decode cX5_parse 60 = .ok (.aload_n 0, 1) := by decide +kernel
theorem dX5_parse_61 : decode cX5_parse 61 = .ok (.getfield 29, 3) := by decide +kernel
theorem dX5_parse_64 : decode cX5_parse 64 = .ok (.bipush 12, 2) := by decide +kernel
theorem dX5_parse_66 : decode cX5_parse 66 = .ok (.if_icmp .ne 8, 3) := by decide +kernel
theorem dX5_parse_69 : decode cX5_parse 69 = .ok (.aload_n 0, 1) := by decide +kernel
theorem dX5_parse_70 : decode cX5_parse 70 = .ok (.getfield 17, 3) := by decide +kernel
theorem dX5_parse_73 : decode cX5_parse 73 = .ok (.ireturn, 1) := by decide +kernel
theorem dX5_parse_74 : decode cX5_parse 74 = .ok (.aload_n 0, 1) := by decide +kernel
theorem dX5_parse_75 : decode cX5_parse 75 = .ok (.dup, 1) := by decide +kernel
theorem dX5_parse_76 : decode cX5_parse 76 = .ok (.getfield 17, 3) := by decide +kernel
theorem dX5_parse_79 : decode cX5_parse 79 = .ok (.iconst 1, 1) := by decide +kernel
theorem dX5_parse_80 : decode cX5_parse 80 = .ok (.iadd, 1) := by decide +kernel
theorem dX5_parse_81 : decode cX5_parse 81 = .ok (.putfield 17, 3) := by decide +kernel
theorem dX5_parse_84 : decode cX5_parse 84 = .ok (.iinc 1 1, 3) := by decide +kernel
theorem dX5_parse_87 : decode cX5_parse 87 = .ok (.goto (-75), 3) := by decide +kernel
theorem dX5_parse_90 : decode cX5_parse 90 = .ok (.aload_n 0, 1) := by decide +kernel
theorem dX5_parse_91 : decode cX5_parse 91 = .ok (.getfield 17, 3) := by decide +kernel
theorem dX5_parse_94 : decode cX5_parse 94 = .ok (.ireturn, 1) := by decide +kernel
theorem dX5_sign_0 : decode cX5_sign 0 = .ok (.aload_n 0, 1) := by decide +kernel
theorem dX5_sign_1 : decode cX5_sign 1 = .ok (.getfield 17, 3) := by decide +kernel
theorem dX5_sign_4 : decode cX5_sign 4 = .ok (.aload_n 0, 1) := by decide +kernel
theorem dX5_sign_5 : decode cX5_sign 5 = .ok (.getfield 13, 3) := by decide +kernel
theorem dX5_sign_8 : decode cX5_sign 8 = .ok (.if_icmp .ge 24, 3) := by decide +kernel
theorem dX5_sign_11 : decode cX5_sign 11 = .ok (.aload_n 0, 1) := by decide +kernel
theorem dX5_sign_12 : decode cX5_sign 12 = .ok (.getfield 17, 3) := by decide +kernel
theorem dX5_sign_15 : decode cX5_sign 15 = .ok (.bipush 100, 2) := by decide +kernel
theorem dX5_sign_17 : decode cX5_sign 17 = .ok (.if_icmp .ge 15, 3) := by decide +kernel
theorem dX5_sign_20 : decode cX5_sign 20 = .ok (.aload_n 0, 1) := by decide +kernel
theorem dX5_sign_21 : decode cX5_sign 21 = .ok (.getfield 9, 3) := by decide +kernel
theorem dX5_sign_24 : decode cX5_sign 24 = .ok (.aload_n 0, 1) := by decide +kernel
theorem dX5_sign_25 : decode cX5_sign 25 = .ok (.getfield 17, 3) := by decide +kernel
theorem dX5_sign_28 : decode cX5_sign 28 = .ok (.iaload, 1) := by decide +kernel
theorem dX5_sign_29 : decode cX5_sign 29 = .ok (.goto 4, 3) := by decide +kernel
theorem dX5_sign_32 : decode cX5_sign 32 = .ok (.iconst (-1), 1) := by decide +kernel
theorem dX5_sign_33 : decode cX5_sign 33 = .ok (.ireturn, 1) := by decide +kernel
theorem dX5_isDigit_0 : decode cX5_isDigit 0 = .ok (.aload_n 0, 1) := by decide +kernel
theorem dX5_isDigit_1 : decode cX5_isDigit 1 = .ok (.invokevirtual 36, 3) := by decide +kernel
theorem dX5_isDigit_4 : decode cX5_isDigit 4 = .ok (.bipush 48, 2) := by decide +kernel
theorem dX5_isDigit_6 : decode cX5_isDigit 6 = .ok (.if_icmp .lt 16, 3) := by decide +kernel
theorem dX5_isDigit_9 : decode cX5_isDigit 9 = .ok (.aload_n 0, 1) := by decide +kernel
theorem dX5_isDigit_10 : decode cX5_isDigit 10 = .ok (.invokevirtual 36, 3) := by decide +kernel
theorem dX5_isDigit_13 : decode cX5_isDigit 13 = .ok (.bipush 57, 2) := by decide +kernel
theorem dX5_isDigit_15 : decode cX5_isDigit 15 = .ok (.if_icmp .gt 7, 3) := by decide +kernel
theorem dX5_isDigit_18 : decode cX5_isDigit 18 = .ok (.iconst 1, 1) := by decide +kernel
theorem dX5_isDigit_19 : decode cX5_isDigit 19 = .ok (.goto 4, 3) := by decide +kernel
theorem dX5_isDigit_22 : decode cX5_isDigit 22 = .ok (.iconst 0, 1) := by decide +kernel
theorem dX5_isDigit_23 : decode cX5_isDigit 23 = .ok (.ireturn, 1) := by decide +kernel
theorem dX5_takeClause_0 : decode cX5_takeClause 0 = .ok (.aload_n 0, 1) := by decide +kernel
theorem dX5_takeClause_1 : decode cX5_takeClause 1 = .ok (.invokevirtual 36, 3) := by decide +kernel
theorem dX5_takeClause_4 : decode cX5_takeClause 4 = .ok (.istore_n 2, 1) := by decide +kernel
theorem dX5_takeClause_5 : decode cX5_takeClause 5 = .ok (.aload_n 0, 1) := by decide +kernel
theorem dX5_takeClause_6 : decode cX5_takeClause 6 = .ok (.getfield 20, 3) := by decide +kernel
theorem dX5_takeClause_9 : decode cX5_takeClause 9 = .ok (.iload_n 1, 1) := by decide +kernel
theorem dX5_takeClause_10 : decode cX5_takeClause 10 = .ok (.iload_n 2, 1) := by decide +kernel
theorem dX5_takeClause_11 : decode cX5_takeClause 11 = .ok (.iastore, 1) := by decide +kernel
theorem dX5_takeClause_12 : decode cX5_takeClause 12 = .ok (.iload_n 2, 1) := by decide +kernel
theorem dX5_takeClause_13 : decode cX5_takeClause 13 = .ok (.lookupswitch 248 #[(43, 119), (45, 119), (100, 236), (103, 236), (107, 236), (110, 99), (111, 236), (113, 176), (116, 99), (119, 136), (120, 196)], 99) := by decide +kernel
theorem dX5_takeClause_112 : decode cX5_takeClause 112 = .ok (.aload_n 0, 1) := by decide +kernel
theorem dX5_takeClause_113 : decode cX5_takeClause 113 = .ok (.dup, 1) := by decide +kernel
theorem dX5_takeClause_114 : decode cX5_takeClause 114 = .ok (.getfield 17, 3) := by decide +kernel
theorem dX5_takeClause_117 : decode cX5_takeClause 117 = .ok (.iconst 1, 1) := by decide +kernel
theorem dX5_takeClause_118 : decode cX5_takeClause 118 = .ok (.iadd, 1) := by decide +kernel
theorem dX5_takeClause_119 : decode cX5_takeClause 119 = .ok (.putfield 17, 3) := by decide +kernel
theorem dX5_takeClause_122 : decode cX5_takeClause 122 = .ok (.aload_n 0, 1) := by decide +kernel
theorem dX5_takeClause_123 : decode cX5_takeClause 123 = .ok (.aload_n 0, 1) := by decide +kernel
theorem dX5_takeClause_124 : decode cX5_takeClause 124 = .ok (.getfield 23, 3) := by decide +kernel
theorem dX5_takeClause_127 : decode cX5_takeClause 127 = .ok (.iload_n 1, 1) := by decide +kernel
theorem dX5_takeClause_128 : decode cX5_takeClause 128 = .ok (.invokevirtual 40, 3) := by decide +kernel
theorem dX5_takeClause_131 : decode cX5_takeClause 131 = .ok (.ireturn, 1) := by decide +kernel
theorem dX5_takeClause_132 : decode cX5_takeClause 132 = .ok (.aload_n 0, 1) := by decide +kernel
theorem dX5_takeClause_133 : decode cX5_takeClause 133 = .ok (.dup, 1) := by decide +kernel
theorem dX5_takeClause_134 : decode cX5_takeClause 134 = .ok (.getfield 17, 3) := by decide +kernel
theorem dX5_takeClause_137 : decode cX5_takeClause 137 = .ok (.iconst 1, 1) := by decide +kernel
theorem dX5_takeClause_138 : decode cX5_takeClause 138 = .ok (.iadd, 1) := by decide +kernel
theorem dX5_takeClause_139 : decode cX5_takeClause 139 = .ok (.putfield 17, 3) := by decide +kernel
theorem dX5_takeClause_142 : decode cX5_takeClause 142 = .ok (.aload_n 0, 1) := by decide +kernel
theorem dX5_takeClause_143 : decode cX5_takeClause 143 = .ok (.iload_n 1, 1) := by decide +kernel
theorem dX5_takeClause_144 : decode cX5_takeClause 144 = .ok (.invokevirtual 44, 3) := by decide +kernel
theorem dX5_takeClause_147 : decode cX5_takeClause 147 = .ok (.iconst 1, 1) := by decide +kernel
theorem dX5_takeClause_148 : decode cX5_takeClause 148 = .ok (.ireturn, 1) := by decide +kernel
theorem dX5_takeClause_149 : decode cX5_takeClause 149 = .ok (.aload_n 0, 1) := by decide +kernel
theorem dX5_takeClause_150 : decode cX5_takeClause 150 = .ok (.dup, 1) := by decide +kernel
theorem dX5_takeClause_151 : decode cX5_takeClause 151 = .ok (.getfield 17, 3) := by decide +kernel
theorem dX5_takeClause_154 : decode cX5_takeClause 154 = .ok (.iconst 1, 1) := by decide +kernel
theorem dX5_takeClause_155 : decode cX5_takeClause 155 = .ok (.iadd, 1) := by decide +kernel
theorem dX5_takeClause_156 : decode cX5_takeClause 156 = .ok (.putfield 17, 3) := by decide +kernel
theorem dX5_takeClause_159 : decode cX5_takeClause 159 = .ok (.aload_n 0, 1) := by decide +kernel
theorem dX5_takeClause_160 : decode cX5_takeClause 160 = .ok (.aload_n 0, 1) := by decide +kernel
theorem dX5_takeClause_161 : decode cX5_takeClause 161 = .ok (.getfield 23, 3) := by decide +kernel
theorem dX5_takeClause_164 : decode cX5_takeClause 164 = .ok (.iload_n 1, 1) := by decide +kernel
theorem dX5_takeClause_165 : decode cX5_takeClause 165 = .ok (.invokevirtual 40, 3) := by decide +kernel
theorem dX5_takeClause_168 : decode cX5_takeClause 168 = .ok (.ifCond .eq 19, 3) := by decide +kernel
theorem dX5_takeClause_171 : decode cX5_takeClause 171 = .ok (.aload_n 0, 1) := by decide +kernel
theorem dX5_takeClause_172 : decode cX5_takeClause 172 = .ok (.aload_n 0, 1) := by decide +kernel
theorem dX5_takeClause_173 : decode cX5_takeClause 173 = .ok (.getfield 26, 3) := by decide +kernel
theorem dX5_takeClause_176 : decode cX5_takeClause 176 = .ok (.iload_n 1, 1) := by decide +kernel
theorem dX5_takeClause_177 : decode cX5_takeClause 177 = .ok (.invokevirtual 48, 3) := by decide +kernel
theorem dX5_takeClause_180 : decode cX5_takeClause 180 = .ok (.ifCond .eq 7, 3) := by decide +kernel
theorem dX5_takeClause_183 : decode cX5_takeClause 183 = .ok (.iconst 1, 1) := by decide +kernel
theorem dX5_takeClause_184 : decode cX5_takeClause 184 = .ok (.goto 4, 3) := by decide +kernel
theorem dX5_takeClause_187 : decode cX5_takeClause 187 = .ok (.iconst 0, 1) := by decide +kernel
theorem dX5_takeClause_188 : decode cX5_takeClause 188 = .ok (.ireturn, 1) := by decide +kernel
theorem dX5_takeClause_189 : decode cX5_takeClause 189 = .ok (.aload_n 0, 1) := by decide +kernel
theorem dX5_takeClause_190 : decode cX5_takeClause 190 = .ok (.dup, 1) := by decide +kernel
theorem dX5_takeClause_191 : decode cX5_takeClause 191 = .ok (.getfield 17, 3) := by decide +kernel
theorem dX5_takeClause_194 : decode cX5_takeClause 194 = .ok (.iconst 1, 1) := by decide +kernel
theorem dX5_takeClause_195 : decode cX5_takeClause 195 = .ok (.iadd, 1) := by decide +kernel
theorem dX5_takeClause_196 : decode cX5_takeClause 196 = .ok (.putfield 17, 3) := by decide +kernel
theorem dX5_takeClause_199 : decode cX5_takeClause 199 = .ok (.aload_n 0, 1) := by decide +kernel
theorem dX5_takeClause_200 : decode cX5_takeClause 200 = .ok (.aload_n 0, 1) := by decide +kernel
theorem dX5_takeClause_201 : decode cX5_takeClause 201 = .ok (.getfield 23, 3) := by decide +kernel
theorem dX5_takeClause_204 : decode cX5_takeClause 204 = .ok (.iload_n 1, 1) := by decide +kernel
theorem dX5_takeClause_205 : decode cX5_takeClause 205 = .ok (.invokevirtual 48, 3) := by decide +kernel
theorem dX5_takeClause_208 : decode cX5_takeClause 208 = .ok (.ireturn, 1) := by decide +kernel
theorem dX5_takeClause_209 : decode cX5_takeClause 209 = .ok (.aload_n 0, 1) := by decide +kernel
theorem dX5_takeClause_210 : decode cX5_takeClause 210 = .ok (.dup, 1) := by decide +kernel
theorem dX5_takeClause_211 : decode cX5_takeClause 211 = .ok (.getfield 17, 3) := by decide +kernel
theorem dX5_takeClause_214 : decode cX5_takeClause 214 = .ok (.iconst 1, 1) := by decide +kernel
theorem dX5_takeClause_215 : decode cX5_takeClause 215 = .ok (.iadd, 1) := by decide +kernel
theorem dX5_takeClause_216 : decode cX5_takeClause 216 = .ok (.putfield 17, 3) := by decide +kernel
theorem dX5_takeClause_219 : decode cX5_takeClause 219 = .ok (.aload_n 0, 1) := by decide +kernel
theorem dX5_takeClause_220 : decode cX5_takeClause 220 = .ok (.aload_n 0, 1) := by decide +kernel
theorem dX5_takeClause_221 : decode cX5_takeClause 221 = .ok (.getfield 23, 3) := by decide +kernel
theorem dX5_takeClause_224 : decode cX5_takeClause 224 = .ok (.iload_n 1, 1) := by decide +kernel
theorem dX5_takeClause_225 : decode cX5_takeClause 225 = .ok (.invokevirtual 40, 3) := by decide +kernel
theorem dX5_takeClause_228 : decode cX5_takeClause 228 = .ok (.ifCond .eq 19, 3) := by decide +kernel
theorem dX5_takeClause_231 : decode cX5_takeClause 231 = .ok (.aload_n 0, 1) := by decide +kernel
theorem dX5_takeClause_232 : decode cX5_takeClause 232 = .ok (.aload_n 0, 1) := by decide +kernel
theorem dX5_takeClause_233 : decode cX5_takeClause 233 = .ok (.getfield 26, 3) := by decide +kernel
theorem dX5_takeClause_236 : decode cX5_takeClause 236 = .ok (.iload_n 1, 1) := by decide +kernel
theorem dX5_takeClause_237 : decode cX5_takeClause 237 = .ok (.invokevirtual 40, 3) := by decide +kernel
theorem dX5_takeClause_240 : decode cX5_takeClause 240 = .ok (.ifCond .eq 7, 3) := by decide +kernel
theorem dX5_takeClause_243 : decode cX5_takeClause 243 = .ok (.iconst 1, 1) := by decide +kernel
theorem dX5_takeClause_244 : decode cX5_takeClause 244 = .ok (.goto 4, 3) := by decide +kernel
theorem dX5_takeClause_247 : decode cX5_takeClause 247 = .ok (.iconst 0, 1) := by decide +kernel
theorem dX5_takeClause_248 : decode cX5_takeClause 248 = .ok (.ireturn, 1) := by decide +kernel
theorem dX5_takeClause_249 : decode cX5_takeClause 249 = .ok (.aload_n 0, 1) := by decide +kernel
theorem dX5_takeClause_250 : decode cX5_takeClause 250 = .ok (.dup, 1) := by decide +kernel
theorem dX5_takeClause_251 : decode cX5_takeClause 251 = .ok (.getfield 17, 3) := by decide +kernel
theorem dX5_takeClause_254 : decode cX5_takeClause 254 = .ok (.iconst 1, 1) := by decide +kernel
theorem dX5_takeClause_255 : decode cX5_takeClause 255 = .ok (.iadd, 1) := by decide +kernel
theorem dX5_takeClause_256 : decode cX5_takeClause 256 = .ok (.putfield 17, 3) := by decide +kernel
theorem dX5_takeClause_259 : decode cX5_takeClause 259 = .ok (.iconst 1, 1) := by decide +kernel
theorem dX5_takeClause_260 : decode cX5_takeClause 260 = .ok (.ireturn, 1) := by decide +kernel
theorem dX5_takeClause_261 : decode cX5_takeClause 261 = .ok (.iconst 0, 1) := by decide +kernel
theorem dX5_takeClause_262 : decode cX5_takeClause 262 = .ok (.ireturn, 1) := by decide +kernel
theorem dX5_takeDigit_0 : decode cX5_takeDigit 0 = .ok (.aload_n 0, 1) := by decide +kernel
theorem dX5_takeDigit_1 : decode cX5_takeDigit 1 = .ok (.invokevirtual 51, 3) := by decide +kernel
theorem dX5_takeDigit_4 : decode cX5_takeDigit 4 = .ok (.ifCond .ne 5, 3) := by decide +kernel
theorem dX5_takeDigit_7 : decode cX5_takeDigit 7 = .ok (.iconst 0, 1) := by decide +kernel
theorem dX5_takeDigit_8 : decode cX5_takeDigit 8 = .ok (.ireturn, 1) := by decide +kernel
theorem dX5_takeDigit_9 : decode cX5_takeDigit 9 = .ok (.aload_n 1, 1) := by decide +kernel
theorem dX5_takeDigit_10 : decode cX5_takeDigit 10 = .ok (.iload_n 2, 1) := by decide +kernel
theorem dX5_takeDigit_11 : decode cX5_takeDigit 11 = .ok (.aload_n 0, 1) := by decide +kernel
theorem dX5_takeDigit_12 : decode cX5_takeDigit 12 = .ok (.invokevirtual 36, 3) := by decide +kernel
theorem dX5_takeDigit_15 : decode cX5_takeDigit 15 = .ok (.bipush 48, 2) := by decide +kernel
theorem dX5_takeDigit_17 : decode cX5_takeDigit 17 = .ok (.isub, 1) := by decide +kernel
theorem dX5_takeDigit_18 : decode cX5_takeDigit 18 = .ok (.iastore, 1) := by decide +kernel
theorem dX5_takeDigit_19 : decode cX5_takeDigit 19 = .ok (.aload_n 0, 1) := by decide +kernel
theorem dX5_takeDigit_20 : decode cX5_takeDigit 20 = .ok (.dup, 1) := by decide +kernel
theorem dX5_takeDigit_21 : decode cX5_takeDigit 21 = .ok (.getfield 17, 3) := by decide +kernel
theorem dX5_takeDigit_24 : decode cX5_takeDigit 24 = .ok (.iconst 1, 1) := by decide +kernel
theorem dX5_takeDigit_25 : decode cX5_takeDigit 25 = .ok (.iadd, 1) := by decide +kernel
theorem dX5_takeDigit_26 : decode cX5_takeDigit 26 = .ok (.putfield 17, 3) := by decide +kernel
theorem dX5_takeDigit_29 : decode cX5_takeDigit 29 = .ok (.iconst 1, 1) := by decide +kernel
theorem dX5_takeDigit_30 : decode cX5_takeDigit 30 = .ok (.ireturn, 1) := by decide +kernel
theorem dX5_takeNumber_0 : decode cX5_takeNumber 0 = .ok (.aload_n 0, 1) := by decide +kernel
theorem dX5_takeNumber_1 : decode cX5_takeNumber 1 = .ok (.invokevirtual 36, 3) := by decide +kernel
theorem dX5_takeNumber_4 : decode cX5_takeNumber 4 = .ok (.bipush 45, 2) := by decide +kernel
theorem dX5_takeNumber_6 : decode cX5_takeNumber 6 = .ok (.if_icmp .ne 7, 3) := by decide +kernel
theorem dX5_takeNumber_9 : decode cX5_takeNumber 9 = .ok (.iconst 1, 1) := by decide +kernel
theorem dX5_takeNumber_10 : decode cX5_takeNumber 10 = .ok (.goto 4, 3) := by decide +kernel
theorem dX5_takeNumber_13 : decode cX5_takeNumber 13 = .ok (.iconst 0, 1) := by decide +kernel
theorem dX5_takeNumber_14 : decode cX5_takeNumber 14 = .ok (.istore_n 3, 1) := by decide +kernel
theorem dX5_takeNumber_15 : decode cX5_takeNumber 15 = .ok (.iload_n 3, 1) := by decide +kernel
theorem dX5_takeNumber_16 : decode cX5_takeNumber 16 = .ok (.ifCond .eq 13, 3) := by decide +kernel
theorem dX5_takeNumber_19 : decode cX5_takeNumber 19 = .ok (.aload_n 0, 1) := by decide +kernel
theorem dX5_takeNumber_20 : decode cX5_takeNumber 20 = .ok (.dup, 1) := by decide +kernel
theorem dX5_takeNumber_21 : decode cX5_takeNumber 21 = .ok (.getfield 17, 3) := by decide +kernel
theorem dX5_takeNumber_24 : decode cX5_takeNumber 24 = .ok (.iconst 1, 1) := by decide +kernel
theorem dX5_takeNumber_25 : decode cX5_takeNumber 25 = .ok (.iadd, 1) := by decide +kernel
theorem dX5_takeNumber_26 : decode cX5_takeNumber 26 = .ok (.putfield 17, 3) := by decide +kernel
theorem dX5_takeNumber_29 : decode cX5_takeNumber 29 = .ok (.aload_n 0, 1) := by decide +kernel
theorem dX5_takeNumber_30 : decode cX5_takeNumber 30 = .ok (.invokevirtual 51, 3) := by decide +kernel
theorem dX5_takeNumber_33 : decode cX5_takeNumber 33 = .ok (.ifCond .ne 5, 3) := by decide +kernel
theorem dX5_takeNumber_36 : decode cX5_takeNumber 36 = .ok (.iconst 0, 1) := by decide +kernel
theorem dX5_takeNumber_37 : decode cX5_takeNumber 37 = .ok (.ireturn, 1) := by decide +kernel
theorem dX5_takeNumber_38 : decode cX5_takeNumber 38 = .ok (.aload_n 0, 1) := by decide +kernel
theorem dX5_takeNumber_39 : decode cX5_takeNumber 39 = .ok (.invokevirtual 36, 3) := by decide +kernel
theorem dX5_takeNumber_42 : decode cX5_takeNumber 42 = .ok (.bipush 48, 2) := by decide +kernel
theorem dX5_takeNumber_44 : decode cX5_takeNumber 44 = .ok (.isub, 1) := by decide +kernel
theorem dX5_takeNumber_45 : decode cX5_takeNumber 45 = .ok (.istore 4, 2) := by decide +kernel
theorem dX5_takeNumber_47 : decode cX5_takeNumber 47 = .ok (.aload_n 0, 1) := by decide +kernel
theorem dX5_takeNumber_48 : decode cX5_takeNumber 48 = .ok (.dup, 1) := by decide +kernel
theorem dX5_takeNumber_49 : decode cX5_takeNumber 49 = .ok (.getfield 17, 3) := by decide +kernel
theorem dX5_takeNumber_52 : decode cX5_takeNumber 52 = .ok (.iconst 1, 1) := by decide +kernel
theorem dX5_takeNumber_53 : decode cX5_takeNumber 53 = .ok (.iadd, 1) := by decide +kernel
theorem dX5_takeNumber_54 : decode cX5_takeNumber 54 = .ok (.putfield 17, 3) := by decide +kernel
theorem dX5_takeNumber_57 : decode cX5_takeNumber 57 = .ok (.aload_n 0, 1) := by decide +kernel
theorem dX5_takeNumber_58 : decode cX5_takeNumber 58 = .ok (.invokevirtual 51, 3) := by decide +kernel
theorem dX5_takeNumber_61 : decode cX5_takeNumber 61 = .ok (.ifCond .eq 28, 3) := by decide +kernel
theorem dX5_takeNumber_64 : decode cX5_takeNumber 64 = .ok (.bipush 10, 2) := by decide +kernel
theorem dX5_takeNumber_66 : decode cX5_takeNumber 66 = .ok (.iload 4, 2) := by decide +kernel
theorem dX5_takeNumber_68 : decode cX5_takeNumber 68 = .ok (.imul, 1) := by decide +kernel
theorem dX5_takeNumber_69 : decode cX5_takeNumber 69 = .ok (.aload_n 0, 1) := by decide +kernel
theorem dX5_takeNumber_70 : decode cX5_takeNumber 70 = .ok (.invokevirtual 36, 3) := by decide +kernel
theorem dX5_takeNumber_73 : decode cX5_takeNumber 73 = .ok (.iadd, 1) := by decide +kernel
theorem dX5_takeNumber_74 : decode cX5_takeNumber 74 = .ok (.bipush 48, 2) := by decide +kernel
theorem dX5_takeNumber_76 : decode cX5_takeNumber 76 = .ok (.isub, 1) := by decide +kernel
theorem dX5_takeNumber_77 : decode cX5_takeNumber 77 = .ok (.istore 4, 2) := by decide +kernel
theorem dX5_takeNumber_79 : decode cX5_takeNumber 79 = .ok (.aload_n 0, 1) := by decide +kernel
theorem dX5_takeNumber_80 : decode cX5_takeNumber 80 = .ok (.dup, 1) := by decide +kernel
theorem dX5_takeNumber_81 : decode cX5_takeNumber 81 = .ok (.getfield 17, 3) := by decide +kernel
theorem dX5_takeNumber_84 : decode cX5_takeNumber 84 = .ok (.iconst 1, 1) := by decide +kernel
theorem dX5_takeNumber_85 : decode cX5_takeNumber 85 = .ok (.iadd, 1) := by decide +kernel
theorem dX5_takeNumber_86 : decode cX5_takeNumber 86 = .ok (.putfield 17, 3) := by decide +kernel
theorem dX5_takeNumber_89 : decode cX5_takeNumber 89 = .ok (.aload_n 1, 1) := by decide +kernel
theorem dX5_takeNumber_90 : decode cX5_takeNumber 90 = .ok (.iload_n 2, 1) := by decide +kernel
theorem dX5_takeNumber_91 : decode cX5_takeNumber 91 = .ok (.iload_n 3, 1) := by decide +kernel
theorem dX5_takeNumber_92 : decode cX5_takeNumber 92 = .ok (.ifCond .eq 9, 3) := by decide +kernel
theorem dX5_takeNumber_95 : decode cX5_takeNumber 95 = .ok (.iload 4, 2) := by decide +kernel
theorem dX5_takeNumber_97 : decode cX5_takeNumber 97 = .ok (.ineg, 1) := by decide +kernel
theorem dX5_takeNumber_98 : decode cX5_takeNumber 98 = .ok (.goto 5, 3) := by decide +kernel
theorem dX5_takeNumber_101 : decode cX5_takeNumber 101 = .ok (.iload 4, 2) := by decide +kernel
theorem dX5_takeNumber_103 : decode cX5_takeNumber 103 = .ok (.iastore, 1) := by decide +kernel
theorem dX5_takeNumber_104 : decode cX5_takeNumber 104 = .ok (.iconst 1, 1) := by decide +kernel
theorem dX5_takeNumber_105 : decode cX5_takeNumber 105 = .ok (.ireturn, 1) := by decide +kernel
theorem dX5_takeLot_0 : decode cX5_takeLot 0 = .ok (.aload_n 0, 1) := by decide +kernel
theorem dX5_takeLot_1 : decode cX5_takeLot 1 = .ok (.getfield 23, 3) := by decide +kernel
theorem dX5_takeLot_4 : decode cX5_takeLot 4 = .ok (.iload_n 1, 1) := by decide +kernel
theorem dX5_takeLot_5 : decode cX5_takeLot 5 = .ok (.iconst 0, 1) := by decide +kernel
theorem dX5_takeLot_6 : decode cX5_takeLot 6 = .ok (.iastore, 1) := by decide +kernel
theorem dX5_takeLot_7 : decode cX5_takeLot 7 = .ok (.iconst 0, 1) := by decide +kernel
theorem dX5_takeLot_8 : decode cX5_takeLot 8 = .ok (.istore_n 2, 1) := by decide +kernel
theorem dX5_takeLot_9 : decode cX5_takeLot 9 = .ok (.iload_n 2, 1) := by decide +kernel
theorem dX5_takeLot_10 : decode cX5_takeLot 10 = .ok (.iconst 4, 1) := by decide +kernel
theorem dX5_takeLot_11 : decode cX5_takeLot 11 = .ok (.if_icmp .ge 44, 3) := by decide +kernel
theorem dX5_takeLot_14 : decode cX5_takeLot 14 = .ok (.aload_n 0, 1) := by decide +kernel
theorem dX5_takeLot_15 : decode cX5_takeLot 15 = .ok (.invokevirtual 51, 3) := by decide +kernel
theorem dX5_takeLot_18 : decode cX5_takeLot 18 = .ok (.ifCond .eq 37, 3) := by decide +kernel
theorem dX5_takeLot_21 : decode cX5_takeLot 21 = .ok (.aload_n 0, 1) := by decide +kernel
theorem dX5_takeLot_22 : decode cX5_takeLot 22 = .ok (.getfield 23, 3) := by decide +kernel
theorem dX5_takeLot_25 : decode cX5_takeLot 25 = .ok (.iload_n 1, 1) := by decide +kernel
theorem dX5_takeLot_26 : decode cX5_takeLot 26 = .ok (.dup2, 1) := by decide +kernel
theorem dX5_takeLot_27 : decode cX5_takeLot 27 = .ok (.iaload, 1) := by decide +kernel
theorem dX5_takeLot_28 : decode cX5_takeLot 28 = .ok (.iconst 1, 1) := by decide +kernel
theorem dX5_takeLot_29 : decode cX5_takeLot 29 = .ok (.aload_n 0, 1) := by decide +kernel
theorem dX5_takeLot_30 : decode cX5_takeLot 30 = .ok (.invokevirtual 36, 3) := by decide +kernel
theorem dX5_takeLot_33 : decode cX5_takeLot 33 = .ok (.bipush 48, 2) := by decide +kernel
theorem dX5_takeLot_35 : decode cX5_takeLot 35 = .ok (.isub, 1) := by decide +kernel
theorem dX5_takeLot_36 : decode cX5_takeLot 36 = .ok (.ishl, 1) := by decide +kernel
theorem dX5_takeLot_37 : decode cX5_takeLot 37 = .ok (.ior, 1) := by decide +kernel
theorem dX5_takeLot_38 : decode cX5_takeLot 38 = .ok (.iastore, 1) := by decide +kernel
theorem dX5_takeLot_39 : decode cX5_takeLot 39 = .ok (.aload_n 0, 1) := by decide +kernel
theorem dX5_takeLot_40 : decode cX5_takeLot 40 = .ok (.dup, 1) := by decide +kernel
theorem dX5_takeLot_41 : decode cX5_takeLot 41 = .ok (.getfield 17, 3) := by decide +kernel
theorem dX5_takeLot_44 : decode cX5_takeLot 44 = .ok (.iconst 1, 1) := by decide +kernel
theorem dX5_takeLot_45 : decode cX5_takeLot 45 = .ok (.iadd, 1) := by decide +kernel
theorem dX5_takeLot_46 : decode cX5_takeLot 46 = .ok (.putfield 17, 3) := by decide +kernel
theorem dX5_takeLot_49 : decode cX5_takeLot 49 = .ok (.iinc 2 1, 3) := by decide +kernel
theorem dX5_takeLot_52 : decode cX5_takeLot 52 = .ok (.goto (-43), 3) := by decide +kernel
theorem dX5_takeLot_55 : decode cX5_takeLot 55 = .ok (.return_, 1) := by decide +kernel
theorem dX6_init_0 : decode cX6_init 0 = .ok (.aload_n 0, 1) := by decide +kernel
theorem dX6_init_1 : decode cX6_init 1 = .ok (.invokespecial 1, 3) := by decide +kernel
theorem dX6_init_4 : decode cX6_init 4 = .ok (.aload_n 0, 1) := by decide +kernel
theorem dX6_init_5 : decode cX6_init 5 = .ok (.iconst (-1), 1) := by decide +kernel
theorem dX6_init_6 : decode cX6_init 6 = .ok (.putfield 9, 3) := by decide +kernel
theorem dX6_init_9 : decode cX6_init 9 = .ok (.aload_n 0, 1) := by decide +kernel
theorem dX6_init_10 : decode cX6_init 10 = .ok (.iconst 0, 1) := by decide +kernel
theorem dX6_init_11 : decode cX6_init 11 = .ok (.putfield 13, 3) := by decide +kernel
theorem dX6_init_14 : decode cX6_init 14 = .ok (.aload_n 0, 1) := by decide +kernel
theorem dX6_init_15 : decode cX6_init 15 = .ok (.bipush 60, 2) := by decide +kernel
theorem dX6_init_17 : decode cX6_init 17 = .ok (.newarray .long, 2) := by decide +kernel
theorem dX6_init_19 : decode cX6_init 19 = .ok (.putfield 16, 3) := by decide +kernel
theorem dX6_init_22 : decode cX6_init 22 = .ok (.return_, 1) := by decide +kernel
theorem dX6_become_0 : decode cX6_become 0 = .ok (.aload_n 0, 1) := by decide +kernel
theorem dX6_become_1 : decode cX6_become 1 = .ok (.iload_n 1, 1) := by decide +kernel
theorem dX6_become_2 : decode cX6_become 2 = .ok (.putfield 9, 3) := by decide +kernel
theorem dX6_become_5 : decode cX6_become 5 = .ok (.aload_n 0, 1) := by decide +kernel
theorem dX6_become_6 : decode cX6_become 6 = .ok (.iload_n 2, 1) := by decide +kernel
theorem dX6_become_7 : decode cX6_become 7 = .ok (.putfield 13, 3) := by decide +kernel
theorem dX6_become_10 : decode cX6_become 10 = .ok (.iconst 0, 1) := by decide +kernel
theorem dX6_become_11 : decode cX6_become 11 = .ok (.istore_n 3, 1) := by decide +kernel
theorem dX6_become_12 : decode cX6_become 12 = .ok (.iload_n 3, 1) := by decide +kernel
theorem dX6_become_13 : decode cX6_become 13 = .ok (.bipush 60, 2) := by decide +kernel
theorem dX6_become_15 : decode cX6_become 15 = .ok (.if_icmp .ge 16, 3) := by decide +kernel
theorem dX6_become_18 : decode cX6_become 18 = .ok (.aload_n 0, 1) := by decide +kernel
theorem dX6_become_19 : decode cX6_become 19 = .ok (.getfield 16, 3) := by decide +kernel
theorem dX6_become_22 : decode cX6_become 22 = .ok (.iload_n 3, 1) := by decide +kernel
theorem dX6_become_23 : decode cX6_become 23 = .ok (.lconst 0, 1) := by decide +kernel
theorem dX6_become_24 : decode cX6_become 24 = .ok (.lastore, 1) := by decide +kernel
theorem dX6_become_25 : decode cX6_become 25 = .ok (.iinc 3 1, 3) := by decide +kernel
theorem dX6_become_28 : decode cX6_become 28 = .ok (.goto (-16), 3) := by decide +kernel
theorem dX6_become_31 : decode cX6_become 31 = .ok (.return_, 1) := by decide +kernel
theorem dX6_holdsNothing_0 : decode cX6_holdsNothing 0 = .ok (.aload_n 0, 1) := by decide +kernel
theorem dX6_holdsNothing_1 : decode cX6_holdsNothing 1 = .ok (.getfield 9, 3) := by decide +kernel
theorem dX6_holdsNothing_4 : decode cX6_holdsNothing 4 = .ok (.iconst (-1), 1) := by decide +kernel
theorem dX6_holdsNothing_5 : decode cX6_holdsNothing 5 = .ok (.if_icmp .ne 7, 3) := by decide +kernel
theorem dX6_holdsNothing_8 : decode cX6_holdsNothing 8 = .ok (.iconst 1, 1) := by decide +kernel
theorem dX6_holdsNothing_9 : decode cX6_holdsNothing 9 = .ok (.goto 4, 3) := by decide +kernel
theorem dX6_holdsNothing_12 : decode cX6_holdsNothing 12 = .ok (.iconst 0, 1) := by decide +kernel
theorem dX6_holdsNothing_13 : decode cX6_holdsNothing 13 = .ok (.ireturn, 1) := by decide +kernel
theorem dX6_hasPlace_0 : decode cX6_hasPlace 0 = .ok (.iload_n 1, 1) := by decide +kernel
theorem dX6_hasPlace_1 : decode cX6_hasPlace 1 = .ok (.ifCond .lt 15, 3) := by decide +kernel
theorem dX6_hasPlace_4 : decode cX6_hasPlace 4 = .ok (.iload_n 1, 1) := by decide +kernel
theorem dX6_hasPlace_5 : decode cX6_hasPlace 5 = .ok (.aload_n 0, 1) := by decide +kernel
theorem dX6_hasPlace_6 : decode cX6_hasPlace 6 = .ok (.getfield 13, 3) := by decide +kernel
theorem dX6_hasPlace_9 : decode cX6_hasPlace 9 = .ok (.if_icmp .ge 7, 3) := by decide +kernel
theorem dX6_hasPlace_12 : decode cX6_hasPlace 12 = .ok (.iconst 1, 1) := by decide +kernel
theorem dX6_hasPlace_13 : decode cX6_hasPlace 13 = .ok (.goto 4, 3) := by decide +kernel
theorem dX6_hasPlace_16 : decode cX6_hasPlace 16 = .ok (.iconst 0, 1) := by decide +kernel
theorem dX6_hasPlace_17 : decode cX6_hasPlace 17 = .ok (.ireturn, 1) := by decide +kernel
theorem dX6_hasStretch_0 : decode cX6_hasStretch 0 = .ok (.iload_n 2, 1) := by decide +kernel
theorem dX6_hasStretch_1 : decode cX6_hasStretch 1 = .ok (.ifCond .lt 21, 3) := by decide +kernel
theorem dX6_hasStretch_4 : decode cX6_hasStretch 4 = .ok (.iload_n 1, 1) := by decide +kernel
theorem dX6_hasStretch_5 : decode cX6_hasStretch 5 = .ok (.ifCond .lt 17, 3) := by decide +kernel
theorem dX6_hasStretch_8 : decode cX6_hasStretch 8 = .ok (.iload_n 1, 1) := by decide +kernel
theorem dX6_hasStretch_9 : decode cX6_hasStretch 9 = .ok (.aload_n 0, 1) := by decide +kernel
theorem dX6_hasStretch_10 : decode cX6_hasStretch 10 = .ok (.getfield 13, 3) := by decide +kernel
theorem dX6_hasStretch_13 : decode cX6_hasStretch 13 = .ok (.iload_n 2, 1) := by decide +kernel
theorem dX6_hasStretch_14 : decode cX6_hasStretch 14 = .ok (.isub, 1) := by decide +kernel
theorem dX6_hasStretch_15 : decode cX6_hasStretch 15 = .ok (.if_icmp .gt 7, 3) := by decide +kernel
theorem dX6_hasStretch_18 : decode cX6_hasStretch 18 = .ok (.iconst 1, 1) := by decide +kernel
theorem dX6_hasStretch_19 : decode cX6_hasStretch 19 = .ok (.goto 4, 3) := by decide +kernel
theorem dX6_hasStretch_22 : decode cX6_hasStretch 22 = .ok (.iconst 0, 1) := by decide +kernel
theorem dX6_hasStretch_23 : decode cX6_hasStretch 23 = .ok (.ireturn, 1) := by decide +kernel
theorem dX6_cut_0 : decode cX6_cut 0 = .ok (.aload_n 0, 1) := by decide +kernel
theorem dX6_cut_1 : decode cX6_cut 1 = .ok (.getfield 9, 3) := by decide +kernel
theorem dX6_cut_4 : decode cX6_cut 4 = .ok (.tableswitch 62 0 4 #[36, 41, 46, 62, 50], 36) := by decide +kernel
theorem dX6_cut_40 : decode cX6_cut 40 = .ok (.lload_n 1, 1) := by decide +kernel
theorem dX6_cut_41 : decode cX6_cut 41 = .ok (.l2i, 1) := by decide +kernel
theorem dX6_cut_42 : decode cX6_cut 42 = .ok (.i2b, 1) := by decide +kernel
theorem dX6_cut_43 : decode cX6_cut 43 = .ok (.i2l, 1) := by decide +kernel
theorem dX6_cut_44 : decode cX6_cut 44 = .ok (.lreturn, 1) := by decide +kernel
theorem dX6_cut_45 : decode cX6_cut 45 = .ok (.lload_n 1, 1) := by decide +kernel
theorem dX6_cut_46 : decode cX6_cut 46 = .ok (.l2i, 1) := by decide +kernel
theorem dX6_cut_47 : decode cX6_cut 47 = .ok (.i2s, 1) := by decide +kernel
theorem dX6_cut_48 : decode cX6_cut 48 = .ok (.i2l, 1) := by decide +kernel
theorem dX6_cut_49 : decode cX6_cut 49 = .ok (.lreturn, 1) := by decide +kernel
theorem dX6_cut_50 : decode cX6_cut 50 = .ok (.lload_n 1, 1) := by decide +kernel
theorem dX6_cut_51 : decode cX6_cut 51 = .ok (.l2i, 1) := by decide +kernel
theorem dX6_cut_52 : decode cX6_cut 52 = .ok (.i2l, 1) := by decide +kernel
theorem dX6_cut_53 : decode cX6_cut 53 = .ok (.lreturn, 1) := by decide +kernel
theorem dX6_cut_54 : decode cX6_cut 54 = .ok (.lload_n 1, 1) := by decide +kernel
theorem dX6_cut_55 : decode cX6_cut 55 = .ok (.lconst 0, 1) := by decide +kernel
theorem dX6_cut_56 : decode cX6_cut 56 = .ok (.lcmp, 1) := by decide +kernel
theorem dX6_cut_57 : decode cX6_cut 57 = .ok (.ifCond .eq 7, 3) := by decide +kernel
theorem dX6_cut_60 : decode cX6_cut 60 = .ok (.lconst 1, 1) := by decide +kernel
theorem dX6_cut_61 : decode cX6_cut 61 = .ok (.goto 4, 3) := by decide +kernel
theorem dX6_cut_64 : decode cX6_cut 64 = .ok (.lconst 0, 1) := by decide +kernel
theorem dX6_cut_65 : decode cX6_cut 65 = .ok (.lreturn, 1) := by decide +kernel
theorem dX6_cut_66 : decode cX6_cut 66 = .ok (.lload_n 1, 1) := by decide +kernel
theorem dX6_cut_67 : decode cX6_cut 67 = .ok (.lreturn, 1) := by decide +kernel
theorem dX7_init_0 : decode cX7_init 0 = .ok (.aload_n 0, 1) := by decide +kernel
theorem dX7_init_1 : decode cX7_init 1 = .ok (.invokespecial 1, 3) := by decide +kernel
theorem dX7_init_4 : decode cX7_init 4 = .ok (.aload_n 0, 1) := by decide +kernel
theorem dX7_init_5 : decode cX7_init 5 = .ok (.iconst 0, 1) := by decide +kernel
theorem dX7_init_6 : decode cX7_init 6 = .ok (.putfield 7, 3) := by decide +kernel
theorem dX7_init_9 : decode cX7_init 9 = .ok (.aload_n 0, 1) := by decide +kernel
theorem dX7_init_10 : decode cX7_init 10 = .ok (.iconst 4, 1) := by decide +kernel
theorem dX7_init_11 : decode cX7_init 11 = .ok (.newarray .int, 2) := by decide +kernel
theorem dX7_init_13 : decode cX7_init 13 = .ok (.putfield 13, 3) := by decide +kernel
theorem dX7_init_16 : decode cX7_init 16 = .ok (.return_, 1) := by decide +kernel
theorem dX7_find_0 : decode cX7_find 0 = .ok (.aload_n 0, 1) := by decide +kernel
theorem dX7_find_1 : decode cX7_find 1 = .ok (.iconst 0, 1) := by decide +kernel
theorem dX7_find_2 : decode cX7_find 2 = .ok (.putfield 7, 3) := by decide +kernel
theorem dX7_find_5 : decode cX7_find 5 = .ok (.iconst 0, 1) := by decide +kernel
theorem dX7_find_6 : decode cX7_find 6 = .ok (.istore_n 3, 1) := by decide +kernel
theorem dX7_find_7 : decode cX7_find 7 = .ok (.iload_n 3, 1) := by decide +kernel
theorem dX7_find_8 : decode cX7_find 8 = .ok (.iconst 1, 1) := by decide +kernel
theorem dX7_find_9 : decode cX7_find 9 = .ok (.iload_n 1, 1) := by decide +kernel
theorem dX7_find_10 : decode cX7_find 10 = .ok (.ishl, 1) := by decide +kernel
theorem dX7_find_11 : decode cX7_find 11 = .ok (.if_icmp .ge 54, 3) := by decide +kernel
theorem dX7_find_14 : decode cX7_find 14 = .ok (.iload_n 3, 1) := by decide +kernel
theorem dX7_find_15 : decode cX7_find 15 = .ok (.istore 4, 2) := by decide +kernel
theorem dX7_find_17 : decode cX7_find 17 = .ok (.iload 4, 2) := by decide +kernel
theorem dX7_find_19 : decode cX7_find 19 = .ok (.iconst 1, 1) := by decide +kernel
theorem dX7_find_20 : decode cX7_find 20 = .ok (.iload_n 1, 1) := by decide +kernel
theorem dX7_find_21 : decode cX7_find 21 = .ok (.ishl, 1) := by decide +kernel
theorem dX7_find_22 : decode cX7_find 22 = .ok (.if_icmp .ge 37, 3) := by decide +kernel
theorem dX7_find_25 : decode cX7_find 25 = .ok (.iload_n 2, 1) := by decide +kernel
theorem dX7_find_26 : decode cX7_find 26 = .ok (.iload_n 3, 1) := by decide +kernel
theorem dX7_find_27 : decode cX7_find 27 = .ok (.invokestatic 17, 3) := by decide +kernel
theorem dX7_find_30 : decode cX7_find 30 = .ok (.iconst 1, 1) := by decide +kernel
theorem dX7_find_31 : decode cX7_find 31 = .ok (.if_icmp .ne 22, 3) := by decide +kernel
theorem dX7_find_34 : decode cX7_find 34 = .ok (.iload_n 2, 1) := by decide +kernel
theorem dX7_find_35 : decode cX7_find 35 = .ok (.iload 4, 2) := by decide +kernel
theorem dX7_find_37 : decode cX7_find 37 = .ok (.invokestatic 17, 3) := by decide +kernel
theorem dX7_find_40 : decode cX7_find 40 = .ok (.iconst 1, 1) := by decide +kernel
theorem dX7_find_41 : decode cX7_find 41 = .ok (.if_icmp .ne 12, 3) := by decide +kernel
theorem dX7_find_44 : decode cX7_find 44 = .ok (.aload_n 0, 1) := by decide +kernel
theorem dX7_find_45 : decode cX7_find 45 = .ok (.iload_n 1, 1) := by decide +kernel
theorem dX7_find_46 : decode cX7_find 46 = .ok (.iload_n 2, 1) := by decide +kernel
theorem dX7_find_47 : decode cX7_find 47 = .ok (.iload_n 3, 1) := by decide +kernel
theorem dX7_find_48 : decode cX7_find 48 = .ok (.iload 4, 2) := by decide +kernel
theorem dX7_find_50 : decode cX7_find 50 = .ok (.invokevirtual 23, 3) := by decide +kernel
theorem dX7_find_53 : decode cX7_find 53 = .ok (.iinc 4 1, 3) := by decide +kernel
theorem dX7_find_56 : decode cX7_find 56 = .ok (.goto (-39), 3) := by decide +kernel
theorem dX7_find_59 : decode cX7_find 59 = .ok (.iinc 3 1, 3) := by decide +kernel
theorem dX7_find_62 : decode cX7_find 62 = .ok (.goto (-55), 3) := by decide +kernel
theorem dX7_find_65 : decode cX7_find 65 = .ok (.return_, 1) := by decide +kernel
theorem dX7_findFor_0 : decode cX7_findFor 0 = .ok (.iconst 0, 1) := by decide +kernel
theorem dX7_findFor_1 : decode cX7_findFor 1 = .ok (.istore 5, 2) := by decide +kernel
theorem dX7_findFor_3 : decode cX7_findFor 3 = .ok (.iload 5, 2) := by decide +kernel
theorem dX7_findFor_5 : decode cX7_findFor 5 = .ok (.iconst 1, 1) := by decide +kernel
theorem dX7_findFor_6 : decode cX7_findFor 6 = .ok (.iload_n 1, 1) := by decide +kernel
theorem dX7_findFor_7 : decode cX7_findFor 7 = .ok (.ishl, 1) := by decide +kernel
theorem dX7_findFor_8 : decode cX7_findFor 8 = .ok (.if_icmp .ge 78, 3) := by decide +kernel
theorem dX7_findFor_11 : decode cX7_findFor 11 = .ok (.iload_n 3, 1) := by decide +kernel
theorem dX7_findFor_12 : decode cX7_findFor 12 = .ok (.iload 4, 2) := by decide +kernel
theorem dX7_findFor_14 : decode cX7_findFor 14 = .ok (.ixor, 1) := by decide +kernel
theorem dX7_findFor_15 : decode cX7_findFor 15 = .ok (.iload 5, 2) := by decide +kernel
theorem dX7_findFor_17 : decode cX7_findFor 17 = .ok (.ixor, 1) := by decide +kernel
theorem dX7_findFor_18 : decode cX7_findFor 18 = .ok (.istore 6, 2) := by decide +kernel
theorem dX7_findFor_20 : decode cX7_findFor 20 = .ok (.iload_n 2, 1) := by decide +kernel
theorem dX7_findFor_21 : decode cX7_findFor 21 = .ok (.iload 5, 2) := by decide +kernel
theorem dX7_findFor_23 : decode cX7_findFor 23 = .ok (.invokestatic 17, 3) := by decide +kernel
theorem dX7_findFor_26 : decode cX7_findFor 26 = .ok (.ifCond .ne 16, 3) := by decide +kernel
theorem dX7_findFor_29 : decode cX7_findFor 29 = .ok (.iload_n 2, 1) := by decide +kernel
theorem dX7_findFor_30 : decode cX7_findFor 30 = .ok (.iload 6, 2) := by decide +kernel
theorem dX7_findFor_32 : decode cX7_findFor 32 = .ok (.invokestatic 17, 3) := by decide +kernel
theorem dX7_findFor_35 : decode cX7_findFor 35 = .ok (.ifCond .ne 7, 3) := by decide +kernel
theorem dX7_findFor_38 : decode cX7_findFor 38 = .ok (.iconst 1, 1) := by decide +kernel
theorem dX7_findFor_39 : decode cX7_findFor 39 = .ok (.goto 4, 3) := by decide +kernel
theorem dX7_findFor_42 : decode cX7_findFor 42 = .ok (.iconst 0, 1) := by decide +kernel
theorem dX7_findFor_43 : decode cX7_findFor 43 = .ok (.istore 7, 2) := by decide +kernel
theorem dX7_findFor_45 : decode cX7_findFor 45 = .ok (.iload 6, 2) := by decide +kernel
theorem dX7_findFor_47 : decode cX7_findFor 47 = .ok (.iload 5, 2) := by decide +kernel
theorem dX7_findFor_49 : decode cX7_findFor 49 = .ok (.if_icmp .lt 31, 3) := by decide +kernel
theorem dX7_findFor_52 : decode cX7_findFor 52 = .ok (.iload 7, 2) := by decide +kernel
theorem dX7_findFor_54 : decode cX7_findFor 54 = .ok (.ifCond .eq 26, 3) := by decide +kernel
theorem dX7_findFor_57 : decode cX7_findFor 57 = .ok (.iload_n 3, 1) := by decide +kernel
theorem dX7_findFor_58 : decode cX7_findFor 58 = .ok (.iload 4, 2) := by decide +kernel
theorem dX7_findFor_60 : decode cX7_findFor 60 = .ok (.iand, 1) := by decide +kernel
theorem dX7_findFor_61 : decode cX7_findFor 61 = .ok (.iload 5, 2) := by decide +kernel
theorem dX7_findFor_63 : decode cX7_findFor 63 = .ok (.iload 6, 2) := by decide +kernel
theorem dX7_findFor_65 : decode cX7_findFor 65 = .ok (.iand, 1) := by decide +kernel
theorem dX7_findFor_66 : decode cX7_findFor 66 = .ok (.if_icmp .ne 14, 3) := by decide +kernel
theorem dX7_findFor_69 : decode cX7_findFor 69 = .ok (.aload_n 0, 1) := by decide +kernel
theorem dX7_findFor_70 : decode cX7_findFor 70 = .ok (.iload_n 3, 1) := by decide +kernel
theorem dX7_findFor_71 : decode cX7_findFor 71 = .ok (.iload 4, 2) := by decide +kernel
theorem dX7_findFor_73 : decode cX7_findFor 73 = .ok (.iload 5, 2) := by decide +kernel
theorem dX7_findFor_75 : decode cX7_findFor 75 = .ok (.iload 6, 2) := by decide +kernel
theorem dX7_findFor_77 : decode cX7_findFor 77 = .ok (.invokevirtual 27, 3) := by decide +kernel
theorem dX7_findFor_80 : decode cX7_findFor 80 = .ok (.iinc 5 1, 3) := by decide +kernel
theorem dX7_findFor_83 : decode cX7_findFor 83 = .ok (.goto (-80), 3) := by decide +kernel
theorem dX7_findFor_86 : decode cX7_findFor 86 = .ok (.return_, 1) := by decide +kernel
theorem dX7_addTrade_0 : decode cX7_addTrade 0 = .ok (.aload_n 0, 1) := by decide +kernel
theorem dX7_addTrade_1 : decode cX7_addTrade 1 = .ok (.getfield 7, 3) := by decide +kernel
theorem dX7_addTrade_4 : decode cX7_addTrade 4 = .ok (.ifCond .ne 32, 3) := by decide +kernel
theorem dX7_addTrade_7 : decode cX7_addTrade 7 = .ok (.aload_n 0, 1) := by decide +kernel
theorem dX7_addTrade_8 : decode cX7_addTrade 8 = .ok (.getfield 13, 3) := by decide +kernel
theorem dX7_addTrade_11 : decode cX7_addTrade 11 = .ok (.iconst 0, 1) := by decide +kernel
theorem dX7_addTrade_12 : decode cX7_addTrade 12 = .ok (.iload_n 1, 1) := by decide +kernel
theorem dX7_addTrade_13 : decode cX7_addTrade 13 = .ok (.iastore, 1) := by decide +kernel
theorem dX7_addTrade_14 : decode cX7_addTrade 14 = .ok (.aload_n 0, 1) := by decide +kernel
theorem dX7_addTrade_15 : decode cX7_addTrade 15 = .ok (.getfield 13, 3) := by decide +kernel
theorem dX7_addTrade_18 : decode cX7_addTrade 18 = .ok (.iconst 1, 1) := by decide +kernel
theorem dX7_addTrade_19 : decode cX7_addTrade 19 = .ok (.iload_n 2, 1) := by decide +kernel
theorem dX7_addTrade_20 : decode cX7_addTrade 20 = .ok (.iastore, 1) := by decide +kernel
theorem dX7_addTrade_21 : decode cX7_addTrade 21 = .ok (.aload_n 0, 1) := by decide +kernel
theorem dX7_addTrade_22 : decode cX7_addTrade 22 = .ok (.getfield 13, 3) := by decide +kernel
theorem dX7_addTrade_25 : decode cX7_addTrade 25 = .ok (.iconst 2, 1) := by decide +kernel
theorem dX7_addTrade_26 : decode cX7_addTrade 26 = .ok (.iload_n 3, 1) := by decide +kernel
theorem dX7_addTrade_27 : decode cX7_addTrade 27 = .ok (.iastore, 1) := by decide +kernel
theorem dX7_addTrade_28 : decode cX7_addTrade 28 = .ok (.aload_n 0, 1) := by decide +kernel
theorem dX7_addTrade_29 : decode cX7_addTrade 29 = .ok (.getfield 13, 3) := by decide +kernel
theorem dX7_addTrade_32 : decode cX7_addTrade 32 = .ok (.iconst 3, 1) := by decide +kernel
theorem dX7_addTrade_33 : decode cX7_addTrade 33 = .ok (.iload 4, 2) := by decide +kernel
theorem dX7_addTrade_35 : decode cX7_addTrade 35 = .ok (.iastore, 1) := by decide +kernel
theorem dX7_addTrade_36 : decode cX7_addTrade 36 = .ok (.aload_n 0, 1) := by decide +kernel
theorem dX7_addTrade_37 : decode cX7_addTrade 37 = .ok (.dup, 1) := by decide +kernel
theorem dX7_addTrade_38 : decode cX7_addTrade 38 = .ok (.getfield 7, 3) := by decide +kernel
theorem dX7_addTrade_41 : decode cX7_addTrade 41 = .ok (.iconst 1, 1) := by decide +kernel
theorem dX7_addTrade_42 : decode cX7_addTrade 42 = .ok (.iadd, 1) := by decide +kernel
theorem dX7_addTrade_43 : decode cX7_addTrade 43 = .ok (.putfield 7, 3) := by decide +kernel
theorem dX7_addTrade_46 : decode cX7_addTrade 46 = .ok (.return_, 1) := by decide +kernel
theorem dX8_init_0 : decode cX8_init 0 = .ok (.aload_n 0, 1) := by decide +kernel
theorem dX8_init_1 : decode cX8_init 1 = .ok (.invokespecial 1, 3) := by decide +kernel
theorem dX8_init_4 : decode cX8_init 4 = .ok (.aload_n 0, 1) := by decide +kernel
theorem dX8_init_5 : decode cX8_init 5 = .ok (.sipush 729, 3) := by decide +kernel
theorem dX8_init_8 : decode cX8_init 8 = .ok (.newarray .int, 2) := by decide +kernel
theorem dX8_init_10 : decode cX8_init 10 = .ok (.putfield 9, 3) := by decide +kernel
theorem dX8_init_13 : decode cX8_init 13 = .ok (.return_, 1) := by decide +kernel
theorem dX8_ofCode_0 : decode cX8_ofCode 0 = .ok (.iload_n 2, 1) := by decide +kernel
theorem dX8_ofCode_1 : decode cX8_ofCode 1 = .ok (.sipush 255, 3) := by decide +kernel
theorem dX8_ofCode_4 : decode cX8_ofCode 4 = .ok (.iand, 1) := by decide +kernel
theorem dX8_ofCode_5 : decode cX8_ofCode 5 = .ok (.istore_n 3, 1) := by decide +kernel
theorem dX8_ofCode_6 : decode cX8_ofCode 6 = .ok (.iload_n 2, 1) := by decide +kernel
theorem dX8_ofCode_7 : decode cX8_ofCode 7 = .ok (.bipush 8, 2) := by decide +kernel
theorem dX8_ofCode_9 : decode cX8_ofCode 9 = .ok (.ishr, 1) := by decide +kernel
theorem dX8_ofCode_10 : decode cX8_ofCode 10 = .ok (.sipush 255, 3) := by decide +kernel
theorem dX8_ofCode_13 : decode cX8_ofCode 13 = .ok (.iand, 1) := by decide +kernel
theorem dX8_ofCode_14 : decode cX8_ofCode 14 = .ok (.istore 4, 2) := by decide +kernel
theorem dX8_ofCode_16 : decode cX8_ofCode 16 = .ok (.iload_n 3, 1) := by decide +kernel
theorem dX8_ofCode_17 : decode cX8_ofCode 17 = .ok (.invokestatic 13, 3) := by decide +kernel
theorem dX8_ofCode_20 : decode cX8_ofCode 20 = .ok (.iload 4, 2) := by decide +kernel
theorem dX8_ofCode_22 : decode cX8_ofCode 22 = .ok (.invokestatic 13, 3) := by decide +kernel
theorem dX8_ofCode_25 : decode cX8_ofCode 25 = .ok (.iadd, 1) := by decide +kernel
theorem dX8_ofCode_26 : decode cX8_ofCode 26 = .ok (.istore 5, 2) := by decide +kernel
theorem dX8_ofCode_28 : decode cX8_ofCode 28 = .ok (.aload_n 0, 1) := by decide +kernel
theorem dX8_ofCode_29 : decode cX8_ofCode 29 = .ok (.iload_n 1, 1) := by decide +kernel
theorem dX8_ofCode_30 : decode cX8_ofCode 30 = .ok (.invokestatic 17, 3) := by decide +kernel
theorem dX8_ofCode_33 : decode cX8_ofCode 33 = .ok (.sipush 255, 3) := by decide +kernel
theorem dX8_ofCode_36 : decode cX8_ofCode 36 = .ok (.iand, 1) := by decide +kernel
theorem dX8_ofCode_37 : decode cX8_ofCode 37 = .ok (.iload_n 3, 1) := by decide +kernel
theorem dX8_ofCode_38 : decode cX8_ofCode 38 = .ok (.invokestatic 22, 3) := by decide +kernel
theorem dX8_ofCode_41 : decode cX8_ofCode 41 = .ok (.invokevirtual 27, 3) := by decide +kernel
theorem dX8_ofCode_44 : decode cX8_ofCode 44 = .ok (.iconst 0, 1) := by decide +kernel
theorem dX8_ofCode_45 : decode cX8_ofCode 45 = .ok (.istore 6, 2) := by decide +kernel
theorem dX8_ofCode_47 : decode cX8_ofCode 47 = .ok (.iconst 0, 1) := by decide +kernel
theorem dX8_ofCode_48 : decode cX8_ofCode 48 = .ok (.istore 7, 2) := by decide +kernel
theorem dX8_ofCode_50 : decode cX8_ofCode 50 = .ok (.iload 7, 2) := by decide +kernel
theorem dX8_ofCode_52 : decode cX8_ofCode 52 = .ok (.sipush 255, 3) := by decide +kernel
theorem dX8_ofCode_55 : decode cX8_ofCode 55 = .ok (.if_icmp .gt 71, 3) := by decide +kernel
theorem dX8_ofCode_58 : decode cX8_ofCode 58 = .ok (.iload 5, 2) := by decide +kernel
theorem dX8_ofCode_60 : decode cX8_ofCode 60 = .ok (.iload 7, 2) := by decide +kernel
theorem dX8_ofCode_62 : decode cX8_ofCode 62 = .ok (.invokestatic 13, 3) := by decide +kernel
theorem dX8_ofCode_65 : decode cX8_ofCode 65 = .ok (.isub, 1) := by decide +kernel
theorem dX8_ofCode_66 : decode cX8_ofCode 66 = .ok (.istore 8, 2) := by decide +kernel
theorem dX8_ofCode_68 : decode cX8_ofCode 68 = .ok (.iload 7, 2) := by decide +kernel
theorem dX8_ofCode_70 : decode cX8_ofCode 70 = .ok (.invokestatic 22, 3) := by decide +kernel
theorem dX8_ofCode_73 : decode cX8_ofCode 73 = .ok (.iload 4, 2) := by decide +kernel
theorem dX8_ofCode_75 : decode cX8_ofCode 75 = .ok (.invokestatic 22, 3) := by decide +kernel
theorem dX8_ofCode_78 : decode cX8_ofCode 78 = .ok (.if_icmp .ne 7, 3) := by decide +kernel
theorem dX8_ofCode_81 : decode cX8_ofCode 81 = .ok (.iconst 1, 1) := by decide +kernel
theorem dX8_ofCode_82 : decode cX8_ofCode 82 = .ok (.goto 4, 3) := by decide +kernel
theorem dX8_ofCode_85 : decode cX8_ofCode 85 = .ok (.iconst 0, 1) := by decide +kernel
theorem dX8_ofCode_86 : decode cX8_ofCode 86 = .ok (.istore 9, 2) := by decide +kernel
theorem dX8_ofCode_88 : decode cX8_ofCode 88 = .ok (.iload 9, 2) := by decide +kernel
theorem dX8_ofCode_90 : decode cX8_ofCode 90 = .ok (.ifCond .eq 30, 3) := by decide +kernel
theorem dX8_ofCode_93 : decode cX8_ofCode 93 = .ok (.iload 8, 2) := by decide +kernel
theorem dX8_ofCode_95 : decode cX8_ofCode 95 = .ok (.ifCond .lt 25, 3) := by decide +kernel
theorem dX8_ofCode_98 : decode cX8_ofCode 98 = .ok (.iload 8, 2) := by decide +kernel
theorem dX8_ofCode_100 : decode cX8_ofCode 100 = .ok (.aload_n 0, 1) := by decide +kernel
theorem dX8_ofCode_101 : decode cX8_ofCode 101 = .ok (.getfield 9, 3) := by decide +kernel
theorem dX8_ofCode_104 : decode cX8_ofCode 104 = .ok (.arraylength, 1) := by decide +kernel
theorem dX8_ofCode_105 : decode cX8_ofCode 105 = .ok (.if_icmp .ge 15, 3) := by decide +kernel
theorem dX8_ofCode_108 : decode cX8_ofCode 108 = .ok (.iload 6, 2) := by decide +kernel
theorem dX8_ofCode_110 : decode cX8_ofCode 110 = .ok (.aload_n 0, 1) := by decide +kernel
theorem dX8_ofCode_111 : decode cX8_ofCode 111 = .ok (.getfield 9, 3) := by decide +kernel
theorem dX8_ofCode_114 : decode cX8_ofCode 114 = .ok (.iload 8, 2) := by decide +kernel
theorem dX8_ofCode_116 : decode cX8_ofCode 116 = .ok (.iaload, 1) := by decide +kernel
theorem dX8_ofCode_117 : decode cX8_ofCode 117 = .ok (.iadd, 1) := by decide +kernel
theorem dX8_ofCode_118 : decode cX8_ofCode 118 = .ok (.istore 6, 2) := by decide +kernel
theorem dX8_ofCode_120 : decode cX8_ofCode 120 = .ok (.iinc 7 1, 3) := by decide +kernel
theorem dX8_ofCode_123 : decode cX8_ofCode 123 = .ok (.goto (-73), 3) := by decide +kernel
theorem dX8_ofCode_126 : decode cX8_ofCode 126 = .ok (.iload 6, 2) := by decide +kernel
theorem dX8_ofCode_128 : decode cX8_ofCode 128 = .ok (.ireturn, 1) := by decide +kernel
theorem dX8_countKeys_0 : decode cX8_countKeys 0 = .ok (.iconst 0, 1) := by decide +kernel
theorem dX8_countKeys_1 : decode cX8_countKeys 1 = .ok (.istore_n 3, 1) := by decide +kernel
theorem dX8_countKeys_2 : decode cX8_countKeys 2 = .ok (.iload_n 3, 1) := by decide +kernel
theorem dX8_countKeys_3 : decode cX8_countKeys 3 = .ok (.aload_n 0, 1) := by decide +kernel
theorem dX8_countKeys_4 : decode cX8_countKeys 4 = .ok (.getfield 9, 3) := by decide +kernel
theorem dX8_countKeys_7 : decode cX8_countKeys 7 = .ok (.arraylength, 1) := by decide +kernel
theorem dX8_countKeys_8 : decode cX8_countKeys 8 = .ok (.if_icmp .ge 16, 3) := by decide +kernel
theorem dX8_countKeys_11 : decode cX8_countKeys 11 = .ok (.aload_n 0, 1) := by decide +kernel
theorem dX8_countKeys_12 : decode cX8_countKeys 12 = .ok (.getfield 9, 3) := by decide +kernel
theorem dX8_countKeys_15 : decode cX8_countKeys 15 = .ok (.iload_n 3, 1) := by decide +kernel
theorem dX8_countKeys_16 : decode cX8_countKeys 16 = .ok (.iconst 0, 1) := by decide +kernel
theorem dX8_countKeys_17 : decode cX8_countKeys 17 = .ok (.iastore, 1) := by decide +kernel
theorem dX8_countKeys_18 : decode cX8_countKeys 18 = .ok (.iinc 3 1, 3) := by decide +kernel
theorem dX8_countKeys_21 : decode cX8_countKeys 21 = .ok (.goto (-19), 3) := by decide +kernel
theorem dX8_countKeys_24 : decode cX8_countKeys 24 = .ok (.iconst 0, 1) := by decide +kernel
theorem dX8_countKeys_25 : decode cX8_countKeys 25 = .ok (.istore_n 3, 1) := by decide +kernel
theorem dX8_countKeys_26 : decode cX8_countKeys 26 = .ok (.iload_n 3, 1) := by decide +kernel
theorem dX8_countKeys_27 : decode cX8_countKeys 27 = .ok (.iload_n 1, 1) := by decide +kernel
theorem dX8_countKeys_28 : decode cX8_countKeys 28 = .ok (.if_icmp .gt 30, 3) := by decide +kernel
theorem dX8_countKeys_31 : decode cX8_countKeys 31 = .ok (.iload_n 3, 1) := by decide +kernel
theorem dX8_countKeys_32 : decode cX8_countKeys 32 = .ok (.invokestatic 22, 3) := by decide +kernel
theorem dX8_countKeys_35 : decode cX8_countKeys 35 = .ok (.iload_n 2, 1) := by decide +kernel
theorem dX8_countKeys_36 : decode cX8_countKeys 36 = .ok (.if_icmp .ne 16, 3) := by decide +kernel
theorem dX8_countKeys_39 : decode cX8_countKeys 39 = .ok (.aload_n 0, 1) := by decide +kernel
theorem dX8_countKeys_40 : decode cX8_countKeys 40 = .ok (.getfield 9, 3) := by decide +kernel
theorem dX8_countKeys_43 : decode cX8_countKeys 43 = .ok (.iload_n 3, 1) := by decide +kernel
theorem dX8_countKeys_44 : decode cX8_countKeys 44 = .ok (.invokestatic 13, 3) := by decide +kernel
theorem dX8_countKeys_47 : decode cX8_countKeys 47 = .ok (.dup2, 1) := by decide +kernel
theorem dX8_countKeys_48 : decode cX8_countKeys 48 = .ok (.iaload, 1) := by decide +kernel
theorem dX8_countKeys_49 : decode cX8_countKeys 49 = .ok (.iconst 1, 1) := by decide +kernel
theorem dX8_countKeys_50 : decode cX8_countKeys 50 = .ok (.iadd, 1) := by decide +kernel
theorem dX8_countKeys_51 : decode cX8_countKeys 51 = .ok (.iastore, 1) := by decide +kernel
theorem dX8_countKeys_52 : decode cX8_countKeys 52 = .ok (.iinc 3 1, 3) := by decide +kernel
theorem dX8_countKeys_55 : decode cX8_countKeys 55 = .ok (.goto (-29), 3) := by decide +kernel
theorem dX8_countKeys_58 : decode cX8_countKeys 58 = .ok (.return_, 1) := by decide +kernel
theorem dX8_key_0 : decode cX8_key 0 = .ok (.iload_n 0, 1) := by decide +kernel
theorem dX8_key_1 : decode cX8_key 1 = .ok (.iconst 0, 1) := by decide +kernel
theorem dX8_key_2 : decode cX8_key 2 = .ok (.invokestatic 31, 3) := by decide +kernel
theorem dX8_key_5 : decode cX8_key 5 = .ok (.iand, 1) := by decide +kernel
theorem dX8_key_6 : decode cX8_key 6 = .ok (.invokestatic 22, 3) := by decide +kernel
theorem dX8_key_9 : decode cX8_key 9 = .ok (.istore_n 1, 1) := by decide +kernel
theorem dX8_key_10 : decode cX8_key 10 = .ok (.iload_n 0, 1) := by decide +kernel
theorem dX8_key_11 : decode cX8_key 11 = .ok (.iconst 1, 1) := by decide +kernel
theorem dX8_key_12 : decode cX8_key 12 = .ok (.invokestatic 31, 3) := by decide +kernel
theorem dX8_key_15 : decode cX8_key 15 = .ok (.iand, 1) := by decide +kernel
theorem dX8_key_16 : decode cX8_key 16 = .ok (.invokestatic 22, 3) := by decide +kernel
theorem dX8_key_19 : decode cX8_key 19 = .ok (.istore_n 2, 1) := by decide +kernel
theorem dX8_key_20 : decode cX8_key 20 = .ok (.iload_n 0, 1) := by decide +kernel
theorem dX8_key_21 : decode cX8_key 21 = .ok (.iconst 2, 1) := by decide +kernel
theorem dX8_key_22 : decode cX8_key 22 = .ok (.invokestatic 31, 3) := by decide +kernel
theorem dX8_key_25 : decode cX8_key 25 = .ok (.iand, 1) := by decide +kernel
theorem dX8_key_26 : decode cX8_key 26 = .ok (.invokestatic 22, 3) := by decide +kernel
theorem dX8_key_29 : decode cX8_key 29 = .ok (.istore_n 3, 1) := by decide +kernel
theorem dX8_key_30 : decode cX8_key 30 = .ok (.iload_n 1, 1) := by decide +kernel
theorem dX8_key_31 : decode cX8_key 31 = .ok (.bipush 9, 2) := by decide +kernel
theorem dX8_key_33 : decode cX8_key 33 = .ok (.iload_n 2, 1) := by decide +kernel
theorem dX8_key_34 : decode cX8_key 34 = .ok (.bipush 9, 2) := by decide +kernel
theorem dX8_key_36 : decode cX8_key 36 = .ok (.iload_n 3, 1) := by decide +kernel
theorem dX8_key_37 : decode cX8_key 37 = .ok (.imul, 1) := by decide +kernel
theorem dX8_key_38 : decode cX8_key 38 = .ok (.iadd, 1) := by decide +kernel
theorem dX8_key_39 : decode cX8_key 39 = .ok (.imul, 1) := by decide +kernel
theorem dX8_key_40 : decode cX8_key 40 = .ok (.iadd, 1) := by decide +kernel
theorem dX8_key_41 : decode cX8_key 41 = .ok (.ireturn, 1) := by decide +kernel
theorem dJ6_bitCount_0f7a4_0 : decode cJ6_bitCount_0f7a4 0 = .ok (.iload_n 0, 1) := by decide +kernel
theorem dJ6_bitCount_0f7a4_1 : decode cJ6_bitCount_0f7a4 1 = .ok (.iload_n 0, 1) := by decide +kernel
theorem dJ6_bitCount_0f7a4_2 : decode cJ6_bitCount_0f7a4 2 = .ok (.iconst 1, 1) := by decide +kernel
theorem dJ6_bitCount_0f7a4_3 : decode cJ6_bitCount_0f7a4 3 = .ok (.iushr, 1) := by decide +kernel
theorem dJ6_bitCount_0f7a4_4 : decode cJ6_bitCount_0f7a4 4 = .ok (.ldc_w 265, 3) := by decide +kernel
theorem dJ6_bitCount_0f7a4_7 : decode cJ6_bitCount_0f7a4 7 = .ok (.iand, 1) := by decide +kernel
theorem dJ6_bitCount_0f7a4_8 : decode cJ6_bitCount_0f7a4 8 = .ok (.isub, 1) := by decide +kernel
theorem dJ6_bitCount_0f7a4_9 : decode cJ6_bitCount_0f7a4 9 = .ok (.istore_n 0, 1) := by decide +kernel
theorem dJ6_bitCount_0f7a4_10 : decode cJ6_bitCount_0f7a4 10 = .ok (.iload_n 0, 1) := by decide +kernel
theorem dJ6_bitCount_0f7a4_11 : decode cJ6_bitCount_0f7a4 11 = .ok (.ldc_w 266, 3) := by decide +kernel
theorem dJ6_bitCount_0f7a4_14 : decode cJ6_bitCount_0f7a4 14 = .ok (.iand, 1) := by decide +kernel
theorem dJ6_bitCount_0f7a4_15 : decode cJ6_bitCount_0f7a4 15 = .ok (.iload_n 0, 1) := by decide +kernel
theorem dJ6_bitCount_0f7a4_16 : decode cJ6_bitCount_0f7a4 16 = .ok (.iconst 2, 1) := by decide +kernel
theorem dJ6_bitCount_0f7a4_17 : decode cJ6_bitCount_0f7a4 17 = .ok (.iushr, 1) := by decide +kernel
theorem dJ6_bitCount_0f7a4_18 : decode cJ6_bitCount_0f7a4 18 = .ok (.ldc_w 266, 3) := by decide +kernel
theorem dJ6_bitCount_0f7a4_21 : decode cJ6_bitCount_0f7a4 21 = .ok (.iand, 1) := by decide +kernel
theorem dJ6_bitCount_0f7a4_22 : decode cJ6_bitCount_0f7a4 22 = .ok (.iadd, 1) := by decide +kernel
theorem dJ6_bitCount_0f7a4_23 : decode cJ6_bitCount_0f7a4 23 = .ok (.istore_n 0, 1) := by decide +kernel
theorem dJ6_bitCount_0f7a4_24 : decode cJ6_bitCount_0f7a4 24 = .ok (.iload_n 0, 1) := by decide +kernel
theorem dJ6_bitCount_0f7a4_25 : decode cJ6_bitCount_0f7a4 25 = .ok (.iload_n 0, 1) := by decide +kernel
theorem dJ6_bitCount_0f7a4_26 : decode cJ6_bitCount_0f7a4 26 = .ok (.iconst 4, 1) := by decide +kernel
theorem dJ6_bitCount_0f7a4_27 : decode cJ6_bitCount_0f7a4 27 = .ok (.iushr, 1) := by decide +kernel
theorem dJ6_bitCount_0f7a4_28 : decode cJ6_bitCount_0f7a4 28 = .ok (.iadd, 1) := by decide +kernel
theorem dJ6_bitCount_0f7a4_29 : decode cJ6_bitCount_0f7a4 29 = .ok (.ldc_w 267, 3) := by decide +kernel
theorem dJ6_bitCount_0f7a4_32 : decode cJ6_bitCount_0f7a4 32 = .ok (.iand, 1) := by decide +kernel
theorem dJ6_bitCount_0f7a4_33 : decode cJ6_bitCount_0f7a4 33 = .ok (.istore_n 0, 1) := by decide +kernel
theorem dJ6_bitCount_0f7a4_34 : decode cJ6_bitCount_0f7a4 34 = .ok (.iload_n 0, 1) := by decide +kernel
theorem dJ6_bitCount_0f7a4_35 : decode cJ6_bitCount_0f7a4 35 = .ok (.iload_n 0, 1) := by decide +kernel
theorem dJ6_bitCount_0f7a4_36 : decode cJ6_bitCount_0f7a4 36 = .ok (.bipush 8, 2) := by decide +kernel
theorem dJ6_bitCount_0f7a4_38 : decode cJ6_bitCount_0f7a4 38 = .ok (.iushr, 1) := by decide +kernel
theorem dJ6_bitCount_0f7a4_39 : decode cJ6_bitCount_0f7a4 39 = .ok (.iadd, 1) := by decide +kernel
theorem dJ6_bitCount_0f7a4_40 : decode cJ6_bitCount_0f7a4 40 = .ok (.istore_n 0, 1) := by decide +kernel
theorem dJ6_bitCount_0f7a4_41 : decode cJ6_bitCount_0f7a4 41 = .ok (.iload_n 0, 1) := by decide +kernel
theorem dJ6_bitCount_0f7a4_42 : decode cJ6_bitCount_0f7a4 42 = .ok (.iload_n 0, 1) := by decide +kernel
theorem dJ6_bitCount_0f7a4_43 : decode cJ6_bitCount_0f7a4 43 = .ok (.bipush 16, 2) := by decide +kernel
theorem dJ6_bitCount_0f7a4_45 : decode cJ6_bitCount_0f7a4 45 = .ok (.iushr, 1) := by decide +kernel
theorem dJ6_bitCount_0f7a4_46 : decode cJ6_bitCount_0f7a4 46 = .ok (.iadd, 1) := by decide +kernel
theorem dJ6_bitCount_0f7a4_47 : decode cJ6_bitCount_0f7a4 47 = .ok (.istore_n 0, 1) := by decide +kernel
theorem dJ6_bitCount_0f7a4_48 : decode cJ6_bitCount_0f7a4 48 = .ok (.iload_n 0, 1) := by decide +kernel
theorem dJ6_bitCount_0f7a4_49 : decode cJ6_bitCount_0f7a4 49 = .ok (.bipush 63, 2) := by decide +kernel
theorem dJ6_bitCount_0f7a4_51 : decode cJ6_bitCount_0f7a4 51 = .ok (.iand, 1) := by decide +kernel
theorem dJ6_bitCount_0f7a4_52 : decode cJ6_bitCount_0f7a4 52 = .ok (.ireturn, 1) := by decide +kernel
theorem dJ9_abs_0f7a4_0 : decode cJ9_abs_0f7a4 0 = .ok (.iload_n 0, 1) := by decide +kernel
theorem dJ9_abs_0f7a4_1 : decode cJ9_abs_0f7a4 1 = .ok (.ifCond .ge 8, 3) := by decide +kernel
theorem dJ9_abs_0f7a4_4 : decode cJ9_abs_0f7a4 4 = .ok (.iload_n 0, 1) := by decide +kernel
theorem dJ9_abs_0f7a4_5 : decode cJ9_abs_0f7a4 5 = .ok (.ineg, 1) := by decide +kernel
theorem dJ9_abs_0f7a4_6 : decode cJ9_abs_0f7a4 6 = .ok (.goto 4, 3) := by decide +kernel
theorem dJ9_abs_0f7a4_9 : decode cJ9_abs_0f7a4 9 = .ok (.iload_n 0, 1) := by decide +kernel
theorem dJ9_abs_0f7a4_10 : decode cJ9_abs_0f7a4 10 = .ok (.ireturn, 1) := by decide +kernel
theorem dJ9_max_7cf53_0 : decode cJ9_max_7cf53 0 = .ok (.iload_n 0, 1) := by decide +kernel
theorem dJ9_max_7cf53_1 : decode cJ9_max_7cf53 1 = .ok (.iload_n 1, 1) := by decide +kernel
theorem dJ9_max_7cf53_2 : decode cJ9_max_7cf53 2 = .ok (.if_icmp .lt 7, 3) := by decide +kernel
theorem dJ9_max_7cf53_5 : decode cJ9_max_7cf53 5 = .ok (.iload_n 0, 1) := by decide +kernel
theorem dJ9_max_7cf53_6 : decode cJ9_max_7cf53 6 = .ok (.goto 4, 3) := by decide +kernel
theorem dJ9_max_7cf53_9 : decode cJ9_max_7cf53 9 = .ok (.iload_n 1, 1) := by decide +kernel
theorem dJ9_max_7cf53_10 : decode cJ9_max_7cf53 10 = .ok (.ireturn, 1) := by decide +kernel
theorem dJ9_min_7cf53_0 : decode cJ9_min_7cf53 0 = .ok (.iload_n 0, 1) := by decide +kernel
theorem dJ9_min_7cf53_1 : decode cJ9_min_7cf53 1 = .ok (.iload_n 1, 1) := by decide +kernel
theorem dJ9_min_7cf53_2 : decode cJ9_min_7cf53 2 = .ok (.if_icmp .gt 7, 3) := by decide +kernel
theorem dJ9_min_7cf53_5 : decode cJ9_min_7cf53 5 = .ok (.iload_n 0, 1) := by decide +kernel
theorem dJ9_min_7cf53_6 : decode cJ9_min_7cf53 6 = .ok (.goto 4, 3) := by decide +kernel
theorem dJ9_min_7cf53_9 : decode cJ9_min_7cf53 9 = .ok (.iload_n 1, 1) := by decide +kernel
theorem dJ9_min_7cf53_10 : decode cJ9_min_7cf53 10 = .ok (.ireturn, 1) := by decide +kernel
end
section
theorem dX9_init_0 : decode cX9_init 0 = .ok (.aload_n 0, 1) := by decide +kernel
theorem dX9_init_1 : decode cX9_init 1 = .ok (.invokespecial 3, 3) := by decide +kernel
theorem dX9_init_4 : decode cX9_init 4 = .ok (.aload_n 0, 1) := by decide +kernel
theorem dX9_init_5 : decode cX9_init 5 = .ok (.new 9, 3) := by decide +kernel
theorem dX9_init_8 : decode cX9_init 8 = .ok (.dup, 1) := by decide +kernel
theorem dX9_init_9 : decode cX9_init 9 = .ok (.invokespecial 11, 3) := by decide +kernel
theorem dX9_init_12 : decode cX9_init 12 = .ok (.putfield 12, 3) := by decide +kernel
theorem dX9_init_15 : decode cX9_init 15 = .ok (.aload_n 0, 1) := by decide +kernel
theorem dX9_init_16 : decode cX9_init 16 = .ok (.new 9, 3) := by decide +kernel
theorem dX9_init_19 : decode cX9_init 19 = .ok (.dup, 1) := by decide +kernel
theorem dX9_init_20 : decode cX9_init 20 = .ok (.invokespecial 11, 3) := by decide +kernel
theorem dX9_init_23 : decode cX9_init 23 = .ok (.putfield 18, 3) := by decide +kernel
theorem dX9_init_26 : decode cX9_init 26 = .ok (.aload_n 0, 1) := by decide +kernel
theorem dX9_init_27 : decode cX9_init 27 = .ok (.iconst 0, 1) := by decide +kernel
theorem dX9_init_28 : decode cX9_init 28 = .ok (.putfield 21, 3) := by decide +kernel
theorem dX9_init_31 : decode cX9_init 31 = .ok (.aload_n 0, 1) := by decide +kernel
theorem dX9_init_32 : decode cX9_init 32 = .ok (.new 25, 3) := by decide +kernel
theorem dX9_init_35 : decode cX9_init 35 = .ok (.dup, 1) := by decide +kernel
theorem dX9_init_36 : decode cX9_init 36 = .ok (.invokespecial 27, 3) := by decide +kernel
theorem dX9_init_39 : decode cX9_init 39 = .ok (.putfield 28, 3) := by decide +kernel
theorem dX9_init_42 : decode cX9_init 42 = .ok (.aload_n 0, 1) := by decide +kernel
theorem dX9_init_43 : decode cX9_init 43 = .ok (.bipush 6, 2) := by decide +kernel
theorem dX9_init_45 : decode cX9_init 45 = .ok (.anewarray 32, 3) := by decide +kernel
theorem dX9_init_48 : decode cX9_init 48 = .ok (.putfield 34, 3) := by decide +kernel
theorem dX9_init_51 : decode cX9_init 51 = .ok (.aload_n 0, 1) := by decide +kernel
theorem dX9_init_52 : decode cX9_init 52 = .ok (.new 38, 3) := by decide +kernel
theorem dX9_init_55 : decode cX9_init 55 = .ok (.dup, 1) := by decide +kernel
theorem dX9_init_56 : decode cX9_init 56 = .ok (.invokespecial 40, 3) := by decide +kernel
theorem dX9_init_59 : decode cX9_init 59 = .ok (.putfield 41, 3) := by decide +kernel
theorem dX9_init_62 : decode cX9_init 62 = .ok (.aload_n 0, 1) := by decide +kernel
theorem dX9_init_63 : decode cX9_init 63 = .ok (.new 45, 3) := by decide +kernel
theorem dX9_init_66 : decode cX9_init 66 = .ok (.dup, 1) := by decide +kernel
theorem dX9_init_67 : decode cX9_init 67 = .ok (.invokespecial 47, 3) := by decide +kernel
theorem dX9_init_70 : decode cX9_init 70 = .ok (.putfield 48, 3) := by decide +kernel
theorem dX9_init_73 : decode cX9_init 73 = .ok (.aload_n 0, 1) := by decide +kernel
theorem dX9_init_74 : decode cX9_init 74 = .ok (.new 52, 3) := by decide +kernel
theorem dX9_init_77 : decode cX9_init 77 = .ok (.dup, 1) := by decide +kernel
theorem dX9_init_78 : decode cX9_init 78 = .ok (.invokespecial 54, 3) := by decide +kernel
theorem dX9_init_81 : decode cX9_init 81 = .ok (.putfield 55, 3) := by decide +kernel
theorem dX9_init_84 : decode cX9_init 84 = .ok (.aload_n 0, 1) := by decide +kernel
theorem dX9_init_85 : decode cX9_init 85 = .ok (.new 59, 3) := by decide +kernel
theorem dX9_init_88 : decode cX9_init 88 = .ok (.dup, 1) := by decide +kernel
theorem dX9_init_89 : decode cX9_init 89 = .ok (.invokespecial 61, 3) := by decide +kernel
theorem dX9_init_92 : decode cX9_init 92 = .ok (.putfield 62, 3) := by decide +kernel
theorem dX9_init_95 : decode cX9_init 95 = .ok (.iconst 0, 1) := by decide +kernel
theorem dX9_init_96 : decode cX9_init 96 = .ok (.istore_n 1, 1) := by decide +kernel
theorem dX9_init_97 : decode cX9_init 97 = .ok (.iload_n 1, 1) := by decide +kernel
theorem dX9_init_98 : decode cX9_init 98 = .ok (.bipush 6, 2) := by decide +kernel
theorem dX9_init_100 : decode cX9_init 100 = .ok (.if_icmp .ge 22, 3) := by decide +kernel
theorem dX9_init_103 : decode cX9_init 103 = .ok (.aload_n 0, 1) := by decide +kernel
theorem dX9_init_104 : decode cX9_init 104 = .ok (.getfield 34, 3) := by decide +kernel
theorem dX9_init_107 : decode cX9_init 107 = .ok (.iload_n 1, 1) := by decide +kernel
theorem dX9_init_108 : decode cX9_init 108 = .ok (.new 32, 3) := by decide +kernel
theorem dX9_init_111 : decode cX9_init 111 = .ok (.dup, 1) := by decide +kernel
theorem dX9_init_112 : decode cX9_init 112 = .ok (.invokespecial 66, 3) := by decide +kernel
theorem dX9_init_115 : decode cX9_init 115 = .ok (.aastore, 1) := by decide +kernel
theorem dX9_init_116 : decode cX9_init 116 = .ok (.iinc 1 1, 3) := by decide +kernel
theorem dX9_init_119 : decode cX9_init 119 = .ok (.goto (-22), 3) := by decide +kernel
theorem dX9_init_122 : decode cX9_init 122 = .ok (.return_, 1) := by decide +kernel
theorem dX9_voters_0 : decode cX9_voters 0 = .ok (.iload_n 1, 1) := by decide +kernel
theorem dX9_voters_1 : decode cX9_voters 1 = .ok (.iconst 2, 1) := by decide +kernel
theorem dX9_voters_2 : decode cX9_voters 2 = .ok (.if_icmp .lt 8, 3) := by decide +kernel
theorem dX9_voters_5 : decode cX9_voters 5 = .ok (.iload_n 1, 1) := by decide +kernel
theorem dX9_voters_6 : decode cX9_voters 6 = .ok (.iconst 4, 1) := by decide +kernel
theorem dX9_voters_7 : decode cX9_voters 7 = .ok (.if_icmp .le 6, 3) := by decide +kernel
theorem dX9_voters_10 : decode cX9_voters 10 = .ok (.bipush (-2), 2) := by decide +kernel
theorem dX9_voters_12 : decode cX9_voters 12 = .ok (.ireturn, 1) := by decide +kernel
theorem dX9_voters_13 : decode cX9_voters 13 = .ok (.aload_n 0, 1) := by decide +kernel
theorem dX9_voters_14 : decode cX9_voters 14 = .ok (.getfield 12, 3) := by decide +kernel
theorem dX9_voters_17 : decode cX9_voters 17 = .ok (.getfield 67, 3) := by decide +kernel
theorem dX9_voters_20 : decode cX9_voters 20 = .ok (.istore_n 2, 1) := by decide +kernel
theorem dX9_voters_21 : decode cX9_voters 21 = .ok (.aload_n 0, 1) := by decide +kernel
theorem dX9_voters_22 : decode cX9_voters 22 = .ok (.getfield 12, 3) := by decide +kernel
theorem dX9_voters_25 : decode cX9_voters 25 = .ok (.iload_n 1, 1) := by decide +kernel
theorem dX9_voters_26 : decode cX9_voters 26 = .ok (.invokevirtual 71, 3) := by decide +kernel
theorem dX9_voters_29 : decode cX9_voters 29 = .ok (.iload_n 2, 1) := by decide +kernel
theorem dX9_voters_30 : decode cX9_voters 30 = .ok (.ireturn, 1) := by decide +kernel
theorem dX9_say_0 : decode cX9_say 0 = .ok (.aload_n 0, 1) := by decide +kernel
theorem dX9_say_1 : decode cX9_say 1 = .ok (.getfield 12, 3) := by decide +kernel
theorem dX9_say_4 : decode cX9_say 4 = .ok (.iload_n 1, 1) := by decide +kernel
theorem dX9_say_5 : decode cX9_say 5 = .ok (.invokevirtual 75, 3) := by decide +kernel
theorem dX9_say_8 : decode cX9_say 8 = .ok (.ifCond .ne 5, 3) := by decide +kernel
theorem dX9_say_11 : decode cX9_say 11 = .ok (.iconst (-1), 1) := by decide +kernel
theorem dX9_say_12 : decode cX9_say 12 = .ok (.ireturn, 1) := by decide +kernel
theorem dX9_say_13 : decode cX9_say 13 = .ok (.iload_n 2, 1) := by decide +kernel
theorem dX9_say_14 : decode cX9_say 14 = .ok (.invokestatic 79, 3) := by decide +kernel
theorem dX9_say_17 : decode cX9_say 17 = .ok (.ifCond .ne 6, 3) := by decide +kernel
theorem dX9_say_20 : decode cX9_say 20 = .ok (.bipush (-2), 2) := by decide +kernel
theorem dX9_say_22 : decode cX9_say 22 = .ok (.ireturn, 1) := by decide +kernel
theorem dX9_say_23 : decode cX9_say 23 = .ok (.aload_n 0, 1) := by decide +kernel
theorem dX9_say_24 : decode cX9_say 24 = .ok (.getfield 12, 3) := by decide +kernel
theorem dX9_say_27 : decode cX9_say 27 = .ok (.getfield 82, 3) := by decide +kernel
theorem dX9_say_30 : decode cX9_say 30 = .ok (.iload_n 1, 1) := by decide +kernel
theorem dX9_say_31 : decode cX9_say 31 = .ok (.invokestatic 85, 3) := by decide +kernel
theorem dX9_say_34 : decode cX9_say 34 = .ok (.istore_n 3, 1) := by decide +kernel
theorem dX9_say_35 : decode cX9_say 35 = .ok (.iload_n 3, 1) := by decide +kernel
theorem dX9_say_36 : decode cX9_say 36 = .ok (.iload_n 2, 1) := by decide +kernel
theorem dX9_say_37 : decode cX9_say 37 = .ok (.if_icmp .eq 21, 3) := by decide +kernel
theorem dX9_say_40 : decode cX9_say 40 = .ok (.aload_n 0, 1) := by decide +kernel
theorem dX9_say_41 : decode cX9_say 41 = .ok (.getfield 12, 3) := by decide +kernel
theorem dX9_say_44 : decode cX9_say 44 = .ok (.aload_n 0, 1) := by decide +kernel
theorem dX9_say_45 : decode cX9_say 45 = .ok (.getfield 12, 3) := by decide +kernel
theorem dX9_say_48 : decode cX9_say 48 = .ok (.getfield 82, 3) := by decide +kernel
theorem dX9_say_51 : decode cX9_say 51 = .ok (.iload_n 1, 1) := by decide +kernel
theorem dX9_say_52 : decode cX9_say 52 = .ok (.invokestatic 91, 3) := by decide +kernel
theorem dX9_say_55 : decode cX9_say 55 = .ok (.putfield 82, 3) := by decide +kernel
theorem dX9_say_58 : decode cX9_say 58 = .ok (.iload_n 3, 1) := by decide +kernel
theorem dX9_say_59 : decode cX9_say 59 = .ok (.ireturn, 1) := by decide +kernel
theorem dX9_code_0 : decode cX9_code 0 = .ok (.iload_n 1, 1) := by decide +kernel
theorem dX9_code_1 : decode cX9_code 1 = .ok (.ifCond .lt 17, 3) := by decide +kernel
theorem dX9_code_4 : decode cX9_code 4 = .ok (.iload_n 1, 1) := by decide +kernel
theorem dX9_code_5 : decode cX9_code 5 = .ok (.aload_n 0, 1) := by decide +kernel
theorem dX9_code_6 : decode cX9_code 6 = .ok (.getfield 12, 3) := by decide +kernel
theorem dX9_code_9 : decode cX9_code 9 = .ok (.getfield 67, 3) := by decide +kernel
theorem dX9_code_12 : decode cX9_code 12 = .ok (.invokestatic 94, 3) := by decide +kernel
theorem dX9_code_15 : decode cX9_code 15 = .ok (.if_icmp .le 6, 3) := by decide +kernel
theorem dX9_code_18 : decode cX9_code 18 = .ok (.bipush (-2), 2) := by decide +kernel
theorem dX9_code_20 : decode cX9_code 20 = .ok (.ireturn, 1) := by decide +kernel
theorem dX9_code_21 : decode cX9_code 21 = .ok (.aload_n 0, 1) := by decide +kernel
theorem dX9_code_22 : decode cX9_code 22 = .ok (.getfield 12, 3) := by decide +kernel
theorem dX9_code_25 : decode cX9_code 25 = .ok (.getfield 82, 3) := by decide +kernel
theorem dX9_code_28 : decode cX9_code 28 = .ok (.istore_n 2, 1) := by decide +kernel
theorem dX9_code_29 : decode cX9_code 29 = .ok (.aload_n 0, 1) := by decide +kernel
theorem dX9_code_30 : decode cX9_code 30 = .ok (.getfield 12, 3) := by decide +kernel
theorem dX9_code_33 : decode cX9_code 33 = .ok (.iload_n 1, 1) := by decide +kernel
theorem dX9_code_34 : decode cX9_code 34 = .ok (.putfield 82, 3) := by decide +kernel
theorem dX9_code_37 : decode cX9_code 37 = .ok (.iload_n 2, 1) := by decide +kernel
theorem dX9_code_38 : decode cX9_code 38 = .ok (.ireturn, 1) := by decide +kernel
theorem dX9_weight_0 : decode cX9_weight 0 = .ok (.aload_n 0, 1) := by decide +kernel
theorem dX9_weight_1 : decode cX9_weight 1 = .ok (.getfield 12, 3) := by decide +kernel
theorem dX9_weight_4 : decode cX9_weight 4 = .ok (.iload_n 1, 1) := by decide +kernel
theorem dX9_weight_5 : decode cX9_weight 5 = .ok (.invokevirtual 98, 3) := by decide +kernel
theorem dX9_weight_8 : decode cX9_weight 8 = .ok (.ifCond .ne 5, 3) := by decide +kernel
theorem dX9_weight_11 : decode cX9_weight 11 = .ok (.iconst (-1), 1) := by decide +kernel
theorem dX9_weight_12 : decode cX9_weight 12 = .ok (.ireturn, 1) := by decide +kernel
theorem dX9_weight_13 : decode cX9_weight 13 = .ok (.iload_n 2, 1) := by decide +kernel
theorem dX9_weight_14 : decode cX9_weight 14 = .ok (.bipush (-9), 2) := by decide +kernel
theorem dX9_weight_16 : decode cX9_weight 16 = .ok (.if_icmp .lt 9, 3) := by decide +kernel
theorem dX9_weight_19 : decode cX9_weight 19 = .ok (.iload_n 2, 1) := by decide +kernel
theorem dX9_weight_20 : decode cX9_weight 20 = .ok (.bipush 9, 2) := by decide +kernel
theorem dX9_weight_22 : decode cX9_weight 22 = .ok (.if_icmp .le 6, 3) := by decide +kernel
theorem dX9_weight_25 : decode cX9_weight 25 = .ok (.bipush (-2), 2) := by decide +kernel
theorem dX9_weight_27 : decode cX9_weight 27 = .ok (.ireturn, 1) := by decide +kernel
theorem dX9_weight_28 : decode cX9_weight 28 = .ok (.aload_n 0, 1) := by decide +kernel
theorem dX9_weight_29 : decode cX9_weight 29 = .ok (.getfield 12, 3) := by decide +kernel
theorem dX9_weight_32 : decode cX9_weight 32 = .ok (.getfield 101, 3) := by decide +kernel
theorem dX9_weight_35 : decode cX9_weight 35 = .ok (.iload_n 1, 1) := by decide +kernel
theorem dX9_weight_36 : decode cX9_weight 36 = .ok (.iaload, 1) := by decide +kernel
theorem dX9_weight_37 : decode cX9_weight 37 = .ok (.istore_n 3, 1) := by decide +kernel
theorem dX9_weight_38 : decode cX9_weight 38 = .ok (.aload_n 0, 1) := by decide +kernel
theorem dX9_weight_39 : decode cX9_weight 39 = .ok (.getfield 12, 3) := by decide +kernel
theorem dX9_weight_42 : decode cX9_weight 42 = .ok (.getfield 101, 3) := by decide +kernel
theorem dX9_weight_45 : decode cX9_weight 45 = .ok (.iload_n 1, 1) := by decide +kernel
theorem dX9_weight_46 : decode cX9_weight 46 = .ok (.iload_n 2, 1) := by decide +kernel
theorem dX9_weight_47 : decode cX9_weight 47 = .ok (.iastore, 1) := by decide +kernel
theorem dX9_weight_48 : decode cX9_weight 48 = .ok (.iload_n 3, 1) := by decide +kernel
theorem dX9_weight_49 : decode cX9_weight 49 = .ok (.bipush 100, 2) := by decide +kernel
theorem dX9_weight_51 : decode cX9_weight 51 = .ok (.iadd, 1) := by decide +kernel
theorem dX9_weight_52 : decode cX9_weight 52 = .ok (.ireturn, 1) := by decide +kernel
theorem dX9_quota_0 : decode cX9_quota 0 = .ok (.iload_n 1, 1) := by decide +kernel
theorem dX9_quota_1 : decode cX9_quota 1 = .ok (.bipush (-40), 2) := by decide +kernel
theorem dX9_quota_3 : decode cX9_quota 3 = .ok (.if_icmp .lt 9, 3) := by decide +kernel
theorem dX9_quota_6 : decode cX9_quota 6 = .ok (.iload_n 1, 1) := by decide +kernel
theorem dX9_quota_7 : decode cX9_quota 7 = .ok (.bipush 40, 2) := by decide +kernel
theorem dX9_quota_9 : decode cX9_quota 9 = .ok (.if_icmp .le 6, 3) := by decide +kernel
theorem dX9_quota_12 : decode cX9_quota 12 = .ok (.bipush (-2), 2) := by decide +kernel
theorem dX9_quota_14 : decode cX9_quota 14 = .ok (.ireturn, 1) := by decide +kernel
theorem dX9_quota_15 : decode cX9_quota 15 = .ok (.aload_n 0, 1) := by decide +kernel
theorem dX9_quota_16 : decode cX9_quota 16 = .ok (.getfield 12, 3) := by decide +kernel
theorem dX9_quota_19 : decode cX9_quota 19 = .ok (.getfield 105, 3) := by decide +kernel
theorem dX9_quota_22 : decode cX9_quota 22 = .ok (.istore_n 2, 1) := by decide +kernel
theorem dX9_quota_23 : decode cX9_quota 23 = .ok (.aload_n 0, 1) := by decide +kernel
theorem dX9_quota_24 : decode cX9_quota 24 = .ok (.getfield 12, 3) := by decide +kernel
theorem dX9_quota_27 : decode cX9_quota 27 = .ok (.iload_n 1, 1) := by decide +kernel
theorem dX9_quota_28 : decode cX9_quota 28 = .ok (.putfield 105, 3) := by decide +kernel
theorem dX9_quota_31 : decode cX9_quota 31 = .ok (.iload_n 2, 1) := by decide +kernel
theorem dX9_quota_32 : decode cX9_quota 32 = .ok (.bipush 100, 2) := by decide +kernel
theorem dX9_quota_34 : decode cX9_quota 34 = .ok (.iadd, 1) := by decide +kernel
theorem dX9_quota_35 : decode cX9_quota 35 = .ok (.ireturn, 1) := by decide +kernel
theorem dX9_weigh_0 : decode cX9_weigh 0 = .ok (.aload_n 0, 1) := by decide +kernel
theorem dX9_weigh_1 : decode cX9_weigh 1 = .ok (.getfield 12, 3) := by decide +kernel
theorem dX9_weigh_4 : decode cX9_weigh 4 = .ok (.aload_n 0, 1) := by decide +kernel
theorem dX9_weigh_5 : decode cX9_weigh 5 = .ok (.getfield 12, 3) := by decide +kernel
theorem dX9_weigh_8 : decode cX9_weigh 8 = .ok (.invokevirtual 108, 3) := by decide +kernel
theorem dX9_weigh_11 : decode cX9_weigh 11 = .ok (.putfield 82, 3) := by decide +kernel
theorem dX9_weigh_14 : decode cX9_weigh 14 = .ok (.aload_n 0, 1) := by decide +kernel
theorem dX9_weigh_15 : decode cX9_weigh 15 = .ok (.getfield 12, 3) := by decide +kernel
theorem dX9_weigh_18 : decode cX9_weigh 18 = .ok (.getfield 82, 3) := by decide +kernel
theorem dX9_weigh_21 : decode cX9_weigh 21 = .ok (.ireturn, 1) := by decide +kernel
theorem dX9_becomes_0 : decode cX9_becomes 0 = .ok (.iload_n 1, 1) := by decide +kernel
theorem dX9_becomes_1 : decode cX9_becomes 1 = .ok (.tableswitch 96 0 2 #[27, 59, 91], 27) := by decide +kernel
theorem dX9_becomes_28 : decode cX9_becomes 28 = .ok (.aload_n 0, 1) := by decide +kernel
theorem dX9_becomes_29 : decode cX9_becomes 29 = .ok (.getfield 12, 3) := by decide +kernel
theorem dX9_becomes_32 : decode cX9_becomes 32 = .ok (.aload_n 0, 1) := by decide +kernel
theorem dX9_becomes_33 : decode cX9_becomes 33 = .ok (.getfield 12, 3) := by decide +kernel
theorem dX9_becomes_36 : decode cX9_becomes 36 = .ok (.getfield 67, 3) := by decide +kernel
theorem dX9_becomes_39 : decode cX9_becomes 39 = .ok (.aload_n 0, 1) := by decide +kernel
theorem dX9_becomes_40 : decode cX9_becomes 40 = .ok (.getfield 12, 3) := by decide +kernel
theorem dX9_becomes_43 : decode cX9_becomes 43 = .ok (.getfield 82, 3) := by decide +kernel
theorem dX9_becomes_46 : decode cX9_becomes 46 = .ok (.invokestatic 112, 3) := by decide +kernel
theorem dX9_becomes_49 : decode cX9_becomes 49 = .ok (.putfield 82, 3) := by decide +kernel
theorem dX9_becomes_52 : decode cX9_becomes 52 = .ok (.aload_n 0, 1) := by decide +kernel
theorem dX9_becomes_53 : decode cX9_becomes 53 = .ok (.getfield 12, 3) := by decide +kernel
theorem dX9_becomes_56 : decode cX9_becomes 56 = .ok (.getfield 82, 3) := by decide +kernel
theorem dX9_becomes_59 : decode cX9_becomes 59 = .ok (.ireturn, 1) := by decide +kernel
theorem dX9_becomes_60 : decode cX9_becomes 60 = .ok (.aload_n 0, 1) := by decide +kernel
theorem dX9_becomes_61 : decode cX9_becomes 61 = .ok (.getfield 12, 3) := by decide +kernel
theorem dX9_becomes_64 : decode cX9_becomes 64 = .ok (.aload_n 0, 1) := by decide +kernel
theorem dX9_becomes_65 : decode cX9_becomes 65 = .ok (.getfield 12, 3) := by decide +kernel
theorem dX9_becomes_68 : decode cX9_becomes 68 = .ok (.getfield 67, 3) := by decide +kernel
theorem dX9_becomes_71 : decode cX9_becomes 71 = .ok (.aload_n 0, 1) := by decide +kernel
theorem dX9_becomes_72 : decode cX9_becomes 72 = .ok (.getfield 12, 3) := by decide +kernel
theorem dX9_becomes_75 : decode cX9_becomes 75 = .ok (.getfield 82, 3) := by decide +kernel
theorem dX9_becomes_78 : decode cX9_becomes 78 = .ok (.invokestatic 115, 3) := by decide +kernel
theorem dX9_becomes_81 : decode cX9_becomes 81 = .ok (.putfield 82, 3) := by decide +kernel
theorem dX9_becomes_84 : decode cX9_becomes 84 = .ok (.aload_n 0, 1) := by decide +kernel
theorem dX9_becomes_85 : decode cX9_becomes 85 = .ok (.getfield 12, 3) := by decide +kernel
theorem dX9_becomes_88 : decode cX9_becomes 88 = .ok (.getfield 82, 3) := by decide +kernel
theorem dX9_becomes_91 : decode cX9_becomes 91 = .ok (.ireturn, 1) := by decide +kernel
theorem dX9_becomes_92 : decode cX9_becomes 92 = .ok (.aload_n 0, 1) := by decide +kernel
theorem dX9_becomes_93 : decode cX9_becomes 93 = .ok (.invokevirtual 118, 3) := by decide +kernel
theorem dX9_becomes_96 : decode cX9_becomes 96 = .ok (.ireturn, 1) := by decide +kernel
theorem dX9_becomes_97 : decode cX9_becomes 97 = .ok (.iconst (-1), 1) := by decide +kernel
theorem dX9_becomes_98 : decode cX9_becomes 98 = .ok (.ireturn, 1) := by decide +kernel
theorem dX9_takeLeastWeights_0 : decode cX9_takeLeastWeights 0 = .ok (.aload_n 0, 1) := by decide +kernel
theorem dX9_takeLeastWeights_1 : decode cX9_takeLeastWeights 1 = .ok (.getfield 41, 3) := by decide +kernel
theorem dX9_takeLeastWeights_4 : decode cX9_takeLeastWeights 4 = .ok (.aload_n 0, 1) := by decide +kernel
theorem dX9_takeLeastWeights_5 : decode cX9_takeLeastWeights 5 = .ok (.getfield 12, 3) := by decide +kernel
theorem dX9_takeLeastWeights_8 : decode cX9_takeLeastWeights 8 = .ok (.getfield 67, 3) := by decide +kernel
theorem dX9_takeLeastWeights_11 : decode cX9_takeLeastWeights 11 = .ok (.aload_n 0, 1) := by decide +kernel
theorem dX9_takeLeastWeights_12 : decode cX9_takeLeastWeights 12 = .ok (.getfield 12, 3) := by decide +kernel
theorem dX9_takeLeastWeights_15 : decode cX9_takeLeastWeights 15 = .ok (.getfield 82, 3) := by decide +kernel
theorem dX9_takeLeastWeights_18 : decode cX9_takeLeastWeights 18 = .ok (.invokevirtual 121, 3) := by decide +kernel
theorem dX9_takeLeastWeights_21 : decode cX9_takeLeastWeights 21 = .ok (.ifCond .ne 6, 3) := by decide +kernel
theorem dX9_takeLeastWeights_24 : decode cX9_takeLeastWeights 24 = .ok (.bipush (-3), 2) := by decide +kernel
theorem dX9_takeLeastWeights_26 : decode cX9_takeLeastWeights 26 = .ok (.ireturn, 1) := by decide +kernel
theorem dX9_takeLeastWeights_27 : decode cX9_takeLeastWeights 27 = .ok (.aload_n 0, 1) := by decide +kernel
theorem dX9_takeLeastWeights_28 : decode cX9_takeLeastWeights 28 = .ok (.getfield 41, 3) := by decide +kernel
theorem dX9_takeLeastWeights_31 : decode cX9_takeLeastWeights 31 = .ok (.getfield 125, 3) := by decide +kernel
theorem dX9_takeLeastWeights_34 : decode cX9_takeLeastWeights 34 = .ok (.aload_n 0, 1) := by decide +kernel
theorem dX9_takeLeastWeights_35 : decode cX9_takeLeastWeights 35 = .ok (.getfield 12, 3) := by decide +kernel
theorem dX9_takeLeastWeights_38 : decode cX9_takeLeastWeights 38 = .ok (.getfield 101, 3) := by decide +kernel
theorem dX9_takeLeastWeights_41 : decode cX9_takeLeastWeights 41 = .ok (.invokestatic 126, 3) := by decide +kernel
theorem dX9_takeLeastWeights_44 : decode cX9_takeLeastWeights 44 = .ok (.aload_n 0, 1) := by decide +kernel
theorem dX9_takeLeastWeights_45 : decode cX9_takeLeastWeights 45 = .ok (.getfield 12, 3) := by decide +kernel
theorem dX9_takeLeastWeights_48 : decode cX9_takeLeastWeights 48 = .ok (.aload_n 0, 1) := by decide +kernel
theorem dX9_takeLeastWeights_49 : decode cX9_takeLeastWeights 49 = .ok (.getfield 41, 3) := by decide +kernel
theorem dX9_takeLeastWeights_52 : decode cX9_takeLeastWeights 52 = .ok (.getfield 130, 3) := by decide +kernel
theorem dX9_takeLeastWeights_55 : decode cX9_takeLeastWeights 55 = .ok (.putfield 105, 3) := by decide +kernel
theorem dX9_takeLeastWeights_58 : decode cX9_takeLeastWeights 58 = .ok (.aload_n 0, 1) := by decide +kernel
theorem dX9_takeLeastWeights_59 : decode cX9_takeLeastWeights 59 = .ok (.getfield 12, 3) := by decide +kernel
theorem dX9_takeLeastWeights_62 : decode cX9_takeLeastWeights 62 = .ok (.getfield 105, 3) := by decide +kernel
theorem dX9_takeLeastWeights_65 : decode cX9_takeLeastWeights 65 = .ok (.bipush 100, 2) := by decide +kernel
theorem dX9_takeLeastWeights_67 : decode cX9_takeLeastWeights 67 = .ok (.iadd, 1) := by decide +kernel
theorem dX9_takeLeastWeights_68 : decode cX9_takeLeastWeights 68 = .ok (.ireturn, 1) := by decide +kernel
theorem dX9_turn_0 : decode cX9_turn 0 = .ok (.aload_n 0, 1) := by decide +kernel
theorem dX9_turn_1 : decode cX9_turn 1 = .ok (.getfield 12, 3) := by decide +kernel
theorem dX9_turn_4 : decode cX9_turn 4 = .ok (.iload_n 1, 1) := by decide +kernel
theorem dX9_turn_5 : decode cX9_turn 5 = .ok (.invokevirtual 98, 3) := by decide +kernel
theorem dX9_turn_8 : decode cX9_turn 8 = .ok (.ifCond .ne 5, 3) := by decide +kernel
theorem dX9_turn_11 : decode cX9_turn 11 = .ok (.iconst (-1), 1) := by decide +kernel
theorem dX9_turn_12 : decode cX9_turn 12 = .ok (.ireturn, 1) := by decide +kernel
theorem dX9_turn_13 : decode cX9_turn 13 = .ok (.aload_n 0, 1) := by decide +kernel
theorem dX9_turn_14 : decode cX9_turn 14 = .ok (.getfield 12, 3) := by decide +kernel
theorem dX9_turn_17 : decode cX9_turn 17 = .ok (.aload_n 0, 1) := by decide +kernel
theorem dX9_turn_18 : decode cX9_turn 18 = .ok (.getfield 12, 3) := by decide +kernel
theorem dX9_turn_21 : decode cX9_turn 21 = .ok (.getfield 82, 3) := by decide +kernel
theorem dX9_turn_24 : decode cX9_turn 24 = .ok (.iload_n 1, 1) := by decide +kernel
theorem dX9_turn_25 : decode cX9_turn 25 = .ok (.invokestatic 131, 3) := by decide +kernel
theorem dX9_turn_28 : decode cX9_turn 28 = .ok (.putfield 82, 3) := by decide +kernel
theorem dX9_turn_31 : decode cX9_turn 31 = .ok (.aload_n 0, 1) := by decide +kernel
theorem dX9_turn_32 : decode cX9_turn 32 = .ok (.getfield 12, 3) := by decide +kernel
theorem dX9_turn_35 : decode cX9_turn 35 = .ok (.getfield 82, 3) := by decide +kernel
theorem dX9_turn_38 : decode cX9_turn 38 = .ok (.ireturn, 1) := by decide +kernel
theorem dX9_exchange_0 : decode cX9_exchange 0 = .ok (.aload_n 0, 1) := by decide +kernel
theorem dX9_exchange_1 : decode cX9_exchange 1 = .ok (.getfield 12, 3) := by decide +kernel
theorem dX9_exchange_4 : decode cX9_exchange 4 = .ok (.iload_n 1, 1) := by decide +kernel
theorem dX9_exchange_5 : decode cX9_exchange 5 = .ok (.invokevirtual 98, 3) := by decide +kernel
theorem dX9_exchange_8 : decode cX9_exchange 8 = .ok (.ifCond .eq 19, 3) := by decide +kernel
theorem dX9_exchange_11 : decode cX9_exchange 11 = .ok (.aload_n 0, 1) := by decide +kernel
theorem dX9_exchange_12 : decode cX9_exchange 12 = .ok (.getfield 12, 3) := by decide +kernel
theorem dX9_exchange_15 : decode cX9_exchange 15 = .ok (.iload_n 2, 1) := by decide +kernel
theorem dX9_exchange_16 : decode cX9_exchange 16 = .ok (.invokevirtual 98, 3) := by decide +kernel
theorem dX9_exchange_19 : decode cX9_exchange 19 = .ok (.ifCond .eq 8, 3) := by decide +kernel
theorem dX9_exchange_22 : decode cX9_exchange 22 = .ok (.iload_n 1, 1) := by decide +kernel
theorem dX9_exchange_23 : decode cX9_exchange 23 = .ok (.iload_n 2, 1) := by decide +kernel
theorem dX9_exchange_24 : decode cX9_exchange 24 = .ok (.if_icmp .ne 5, 3) := by decide +kernel
theorem dX9_exchange_27 : decode cX9_exchange 27 = .ok (.iconst (-1), 1) := by decide +kernel
theorem dX9_exchange_28 : decode cX9_exchange 28 = .ok (.ireturn, 1) := by decide +kernel
theorem dX9_exchange_29 : decode cX9_exchange 29 = .ok (.aload_n 0, 1) := by decide +kernel
theorem dX9_exchange_30 : decode cX9_exchange 30 = .ok (.getfield 12, 3) := by decide +kernel
theorem dX9_exchange_33 : decode cX9_exchange 33 = .ok (.aload_n 0, 1) := by decide +kernel
theorem dX9_exchange_34 : decode cX9_exchange 34 = .ok (.getfield 12, 3) := by decide +kernel
theorem dX9_exchange_37 : decode cX9_exchange 37 = .ok (.getfield 82, 3) := by decide +kernel
theorem dX9_exchange_40 : decode cX9_exchange 40 = .ok (.iload_n 1, 1) := by decide +kernel
theorem dX9_exchange_41 : decode cX9_exchange 41 = .ok (.iload_n 2, 1) := by decide +kernel
theorem dX9_exchange_42 : decode cX9_exchange 42 = .ok (.invokestatic 134, 3) := by decide +kernel
theorem dX9_exchange_45 : decode cX9_exchange 45 = .ok (.putfield 82, 3) := by decide +kernel
theorem dX9_exchange_48 : decode cX9_exchange 48 = .ok (.aload_n 0, 1) := by decide +kernel
theorem dX9_exchange_49 : decode cX9_exchange 49 = .ok (.getfield 12, 3) := by decide +kernel
theorem dX9_exchange_52 : decode cX9_exchange 52 = .ok (.getfield 82, 3) := by decide +kernel
theorem dX9_exchange_55 : decode cX9_exchange 55 = .ok (.ireturn, 1) := by decide +kernel
theorem dX9_keep_0 : decode cX9_keep 0 = .ok (.aload_n 0, 1) := by decide +kernel
theorem dX9_keep_1 : decode cX9_keep 1 = .ok (.getfield 12, 3) := by decide +kernel
theorem dX9_keep_4 : decode cX9_keep 4 = .ok (.aload_n 0, 1) := by decide +kernel
theorem dX9_keep_5 : decode cX9_keep 5 = .ok (.getfield 12, 3) := by decide +kernel
theorem dX9_keep_8 : decode cX9_keep 8 = .ok (.getfield 82, 3) := by decide +kernel
theorem dX9_keep_11 : decode cX9_keep 11 = .ok (.putfield 138, 3) := by decide +kernel
theorem dX9_keep_14 : decode cX9_keep 14 = .ok (.aload_n 0, 1) := by decide +kernel
theorem dX9_keep_15 : decode cX9_keep 15 = .ok (.getfield 12, 3) := by decide +kernel
theorem dX9_keep_18 : decode cX9_keep 18 = .ok (.getfield 138, 3) := by decide +kernel
theorem dX9_keep_21 : decode cX9_keep 21 = .ok (.ireturn, 1) := by decide +kernel
theorem dX9_feed_0 : decode cX9_feed 0 = .ok (.iload_n 1, 1) := by decide +kernel
theorem dX9_feed_1 : decode cX9_feed 1 = .ok (.ifCond .lt 9, 3) := by decide +kernel
theorem dX9_feed_4 : decode cX9_feed 4 = .ok (.iload_n 1, 1) := by decide +kernel
theorem dX9_feed_5 : decode cX9_feed 5 = .ok (.bipush 127, 2) := by decide +kernel
theorem dX9_feed_7 : decode cX9_feed 7 = .ok (.if_icmp .le 6, 3) := by decide +kernel
theorem dX9_feed_10 : decode cX9_feed 10 = .ok (.bipush (-2), 2) := by decide +kernel
theorem dX9_feed_12 : decode cX9_feed 12 = .ok (.ireturn, 1) := by decide +kernel
theorem dX9_feed_13 : decode cX9_feed 13 = .ok (.aload_n 0, 1) := by decide +kernel
theorem dX9_feed_14 : decode cX9_feed 14 = .ok (.getfield 28, 3) := by decide +kernel
theorem dX9_feed_17 : decode cX9_feed 17 = .ok (.iload_n 1, 1) := by decide +kernel
theorem dX9_feed_18 : decode cX9_feed 18 = .ok (.invokevirtual 141, 3) := by decide +kernel
theorem dX9_feed_21 : decode cX9_feed 21 = .ok (.ifCond .eq 13, 3) := by decide +kernel
theorem dX9_feed_24 : decode cX9_feed 24 = .ok (.aload_n 0, 1) := by decide +kernel
theorem dX9_feed_25 : decode cX9_feed 25 = .ok (.getfield 28, 3) := by decide +kernel
theorem dX9_feed_28 : decode cX9_feed 28 = .ok (.getfield 144, 3) := by decide +kernel
theorem dX9_feed_31 : decode cX9_feed 31 = .ok (.goto 5, 3) := by decide +kernel
theorem dX9_feed_34 : decode cX9_feed 34 = .ok (.bipush (-4), 2) := by decide +kernel
theorem dX9_feed_36 : decode cX9_feed 36 = .ok (.ireturn, 1) := by decide +kernel
theorem dX9_read_0 : decode cX9_read 0 = .ok (.aload_n 0, 1) := by decide +kernel
theorem dX9_read_1 : decode cX9_read 1 = .ok (.getfield 28, 3) := by decide +kernel
theorem dX9_read_4 : decode cX9_read 4 = .ok (.invokevirtual 147, 3) := by decide +kernel
theorem dX9_read_7 : decode cX9_read 7 = .ok (.istore_n 1, 1) := by decide +kernel
theorem dX9_read_8 : decode cX9_read 8 = .ok (.aload_n 0, 1) := by decide +kernel
theorem dX9_read_9 : decode cX9_read 9 = .ok (.getfield 28, 3) := by decide +kernel
theorem dX9_read_12 : decode cX9_read 12 = .ok (.iconst 0, 1) := by decide +kernel
theorem dX9_read_13 : decode cX9_read 13 = .ok (.putfield 144, 3) := by decide +kernel
theorem dX9_read_16 : decode cX9_read 16 = .ok (.iload_n 1, 1) := by decide +kernel
theorem dX9_read_17 : decode cX9_read 17 = .ok (.iconst (-1), 1) := by decide +kernel
theorem dX9_read_18 : decode cX9_read 18 = .ok (.if_icmp .eq 8, 3) := by decide +kernel
theorem dX9_read_21 : decode cX9_read 21 = .ok (.bipush (-10), 2) := by decide +kernel
theorem dX9_read_23 : decode cX9_read 23 = .ok (.iload_n 1, 1) := by decide +kernel
theorem dX9_read_24 : decode cX9_read 24 = .ok (.isub, 1) := by decide +kernel
theorem dX9_read_25 : decode cX9_read 25 = .ok (.ireturn, 1) := by decide +kernel
theorem dX9_read_26 : decode cX9_read 26 = .ok (.iconst 0, 1) := by decide +kernel
theorem dX9_read_27 : decode cX9_read 27 = .ok (.istore_n 2, 1) := by decide +kernel
theorem dX9_read_28 : decode cX9_read 28 = .ok (.iconst 0, 1) := by decide +kernel
theorem dX9_read_29 : decode cX9_read 29 = .ok (.istore_n 3, 1) := by decide +kernel
theorem dX9_read_30 : decode cX9_read 30 = .ok (.iload_n 3, 1) := by decide +kernel
theorem dX9_read_31 : decode cX9_read 31 = .ok (.aload_n 0, 1) := by decide +kernel
theorem dX9_read_32 : decode cX9_read 32 = .ok (.getfield 28, 3) := by decide +kernel
theorem dX9_read_35 : decode cX9_read 35 = .ok (.getfield 150, 3) := by decide +kernel
theorem dX9_read_38 : decode cX9_read 38 = .ok (.if_icmp .ge 46, 3) := by decide +kernel
theorem dX9_read_41 : decode cX9_read 41 = .ok (.aload_n 0, 1) := by decide +kernel
theorem dX9_read_42 : decode cX9_read 42 = .ok (.aload_n 0, 1) := by decide +kernel
theorem dX9_read_43 : decode cX9_read 43 = .ok (.getfield 28, 3) := by decide +kernel
theorem dX9_read_46 : decode cX9_read 46 = .ok (.getfield 153, 3) := by decide +kernel
theorem dX9_read_49 : decode cX9_read 49 = .ok (.iload_n 3, 1) := by decide +kernel
theorem dX9_read_50 : decode cX9_read 50 = .ok (.iaload, 1) := by decide +kernel
theorem dX9_read_51 : decode cX9_read 51 = .ok (.aload_n 0, 1) := by decide +kernel
theorem dX9_read_52 : decode cX9_read 52 = .ok (.getfield 28, 3) := by decide +kernel
theorem dX9_read_55 : decode cX9_read 55 = .ok (.getfield 156, 3) := by decide +kernel
theorem dX9_read_58 : decode cX9_read 58 = .ok (.iload_n 3, 1) := by decide +kernel
theorem dX9_read_59 : decode cX9_read 59 = .ok (.iaload, 1) := by decide +kernel
theorem dX9_read_60 : decode cX9_read 60 = .ok (.aload_n 0, 1) := by decide +kernel
theorem dX9_read_61 : decode cX9_read 61 = .ok (.getfield 28, 3) := by decide +kernel
theorem dX9_read_64 : decode cX9_read 64 = .ok (.getfield 159, 3) := by decide +kernel
theorem dX9_read_67 : decode cX9_read 67 = .ok (.iload_n 3, 1) := by decide +kernel
theorem dX9_read_68 : decode cX9_read 68 = .ok (.iaload, 1) := by decide +kernel
theorem dX9_read_69 : decode cX9_read 69 = .ok (.invokevirtual 162, 3) := by decide +kernel
theorem dX9_read_72 : decode cX9_read 72 = .ok (.ifCond .lt 6, 3) := by decide +kernel
theorem dX9_read_75 : decode cX9_read 75 = .ok (.iinc 2 1, 3) := by decide +kernel
theorem dX9_read_78 : decode cX9_read 78 = .ok (.iinc 3 1, 3) := by decide +kernel
theorem dX9_read_81 : decode cX9_read 81 = .ok (.goto (-51), 3) := by decide +kernel
theorem dX9_read_84 : decode cX9_read 84 = .ok (.iload_n 2, 1) := by decide +kernel
theorem dX9_read_85 : decode cX9_read 85 = .ok (.ireturn, 1) := by decide +kernel
theorem dX9_carryOut_0 : decode cX9_carryOut 0 = .ok (.iload_n 1, 1) := by decide +kernel
theorem dX9_carryOut_1 : decode cX9_carryOut 1 = .ok (.lookupswitch 167 #[(43, 105), (45, 112), (100, 137), (103, 132), (107, 162), (110, 99), (111, 143), (113, 126), (116, 149), (119, 119), (120, 155)], 99) := by decide +kernel
theorem dX9_carryOut_100 : decode cX9_carryOut 100 = .ok (.aload_n 0, 1) := by decide +kernel
theorem dX9_carryOut_101 : decode cX9_carryOut 101 = .ok (.iload_n 2, 1) := by decide +kernel
theorem dX9_carryOut_102 : decode cX9_carryOut 102 = .ok (.invokevirtual 165, 3) := by decide +kernel
theorem dX9_carryOut_105 : decode cX9_carryOut 105 = .ok (.ireturn, 1) := by decide +kernel
theorem dX9_carryOut_106 : decode cX9_carryOut 106 = .ok (.aload_n 0, 1) := by decide +kernel
theorem dX9_carryOut_107 : decode cX9_carryOut 107 = .ok (.iload_n 2, 1) := by decide +kernel
theorem dX9_carryOut_108 : decode cX9_carryOut 108 = .ok (.iconst 1, 1) := by decide +kernel
theorem dX9_carryOut_109 : decode cX9_carryOut 109 = .ok (.invokevirtual 168, 3) := by decide +kernel
theorem dX9_carryOut_112 : decode cX9_carryOut 112 = .ok (.ireturn, 1) := by decide +kernel
theorem dX9_carryOut_113 : decode cX9_carryOut 113 = .ok (.aload_n 0, 1) := by decide +kernel
theorem dX9_carryOut_114 : decode cX9_carryOut 114 = .ok (.iload_n 2, 1) := by decide +kernel
theorem dX9_carryOut_115 : decode cX9_carryOut 115 = .ok (.iconst 0, 1) := by decide +kernel
theorem dX9_carryOut_116 : decode cX9_carryOut 116 = .ok (.invokevirtual 168, 3) := by decide +kernel
theorem dX9_carryOut_119 : decode cX9_carryOut 119 = .ok (.ireturn, 1) := by decide +kernel
theorem dX9_carryOut_120 : decode cX9_carryOut 120 = .ok (.aload_n 0, 1) := by decide +kernel
theorem dX9_carryOut_121 : decode cX9_carryOut 121 = .ok (.iload_n 2, 1) := by decide +kernel
theorem dX9_carryOut_122 : decode cX9_carryOut 122 = .ok (.iload_n 3, 1) := by decide +kernel
theorem dX9_carryOut_123 : decode cX9_carryOut 123 = .ok (.invokevirtual 171, 3) := by decide +kernel
theorem dX9_carryOut_126 : decode cX9_carryOut 126 = .ok (.ireturn, 1) := by decide +kernel
theorem dX9_carryOut_127 : decode cX9_carryOut 127 = .ok (.aload_n 0, 1) := by decide +kernel
theorem dX9_carryOut_128 : decode cX9_carryOut 128 = .ok (.iload_n 2, 1) := by decide +kernel
theorem dX9_carryOut_129 : decode cX9_carryOut 129 = .ok (.invokevirtual 174, 3) := by decide +kernel
theorem dX9_carryOut_132 : decode cX9_carryOut 132 = .ok (.ireturn, 1) := by decide +kernel
theorem dX9_carryOut_133 : decode cX9_carryOut 133 = .ok (.aload_n 0, 1) := by decide +kernel
theorem dX9_carryOut_134 : decode cX9_carryOut 134 = .ok (.invokevirtual 176, 3) := by decide +kernel
theorem dX9_carryOut_137 : decode cX9_carryOut 137 = .ok (.ireturn, 1) := by decide +kernel
theorem dX9_carryOut_138 : decode cX9_carryOut 138 = .ok (.aload_n 0, 1) := by decide +kernel
theorem dX9_carryOut_139 : decode cX9_carryOut 139 = .ok (.iconst 0, 1) := by decide +kernel
theorem dX9_carryOut_140 : decode cX9_carryOut 140 = .ok (.invokevirtual 179, 3) := by decide +kernel
theorem dX9_carryOut_143 : decode cX9_carryOut 143 = .ok (.ireturn, 1) := by decide +kernel
theorem dX9_carryOut_144 : decode cX9_carryOut 144 = .ok (.aload_n 0, 1) := by decide +kernel
theorem dX9_carryOut_145 : decode cX9_carryOut 145 = .ok (.iconst 1, 1) := by decide +kernel
theorem dX9_carryOut_146 : decode cX9_carryOut 146 = .ok (.invokevirtual 179, 3) := by decide +kernel
theorem dX9_carryOut_149 : decode cX9_carryOut 149 = .ok (.ireturn, 1) := by decide +kernel
theorem dX9_carryOut_150 : decode cX9_carryOut 150 = .ok (.aload_n 0, 1) := by decide +kernel
theorem dX9_carryOut_151 : decode cX9_carryOut 151 = .ok (.iload_n 2, 1) := by decide +kernel
theorem dX9_carryOut_152 : decode cX9_carryOut 152 = .ok (.invokevirtual 182, 3) := by decide +kernel
theorem dX9_carryOut_155 : decode cX9_carryOut 155 = .ok (.ireturn, 1) := by decide +kernel
theorem dX9_carryOut_156 : decode cX9_carryOut 156 = .ok (.aload_n 0, 1) := by decide +kernel
theorem dX9_carryOut_157 : decode cX9_carryOut 157 = .ok (.iload_n 2, 1) := by decide +kernel
theorem dX9_carryOut_158 : decode cX9_carryOut 158 = .ok (.iload_n 3, 1) := by decide +kernel
theorem dX9_carryOut_159 : decode cX9_carryOut 159 = .ok (.invokevirtual 185, 3) := by decide +kernel
theorem dX9_carryOut_162 : decode cX9_carryOut 162 = .ok (.ireturn, 1) := by decide +kernel
theorem dX9_carryOut_163 : decode cX9_carryOut 163 = .ok (.aload_n 0, 1) := by decide +kernel
theorem dX9_carryOut_164 : decode cX9_carryOut 164 = .ok (.invokevirtual 188, 3) := by decide +kernel
theorem dX9_carryOut_167 : decode cX9_carryOut 167 = .ok (.ireturn, 1) := by decide +kernel
theorem dX9_carryOut_168 : decode cX9_carryOut 168 = .ok (.iconst (-1), 1) := by decide +kernel
theorem dX9_carryOut_169 : decode cX9_carryOut 169 = .ok (.ireturn, 1) := by decide +kernel
theorem dX9_of_0 : decode cX9_of 0 = .ok (.aload_n 0, 1) := by decide +kernel
theorem dX9_of_1 : decode cX9_of 1 = .ok (.getfield 12, 3) := by decide +kernel
theorem dX9_of_4 : decode cX9_of 4 = .ok (.iload_n 1, 1) := by decide +kernel
theorem dX9_of_5 : decode cX9_of 5 = .ok (.invokevirtual 75, 3) := by decide +kernel
theorem dX9_of_8 : decode cX9_of 8 = .ok (.ifCond .ne 5, 3) := by decide +kernel
theorem dX9_of_11 : decode cX9_of 11 = .ok (.iconst (-1), 1) := by decide +kernel
theorem dX9_of_12 : decode cX9_of 12 = .ok (.ireturn, 1) := by decide +kernel
theorem dX9_of_13 : decode cX9_of 13 = .ok (.iload_n 2, 1) := by decide +kernel
theorem dX9_of_14 : decode cX9_of 14 = .ok (.tableswitch 78 0 3 #[30, 42, 54, 66], 30) := by decide +kernel
theorem dX9_of_44 : decode cX9_of 44 = .ok (.aload_n 0, 1) := by decide +kernel
theorem dX9_of_45 : decode cX9_of 45 = .ok (.getfield 12, 3) := by decide +kernel
theorem dX9_of_48 : decode cX9_of 48 = .ok (.getfield 82, 3) := by decide +kernel
theorem dX9_of_51 : decode cX9_of 51 = .ok (.iload_n 1, 1) := by decide +kernel
theorem dX9_of_52 : decode cX9_of 52 = .ok (.invokestatic 85, 3) := by decide +kernel
theorem dX9_of_55 : decode cX9_of 55 = .ok (.ireturn, 1) := by decide +kernel
theorem dX9_of_56 : decode cX9_of 56 = .ok (.aload_n 0, 1) := by decide +kernel
theorem dX9_of_57 : decode cX9_of 57 = .ok (.getfield 12, 3) := by decide +kernel
theorem dX9_of_60 : decode cX9_of 60 = .ok (.getfield 138, 3) := by decide +kernel
theorem dX9_of_63 : decode cX9_of 63 = .ok (.iload_n 1, 1) := by decide +kernel
theorem dX9_of_64 : decode cX9_of 64 = .ok (.invokestatic 85, 3) := by decide +kernel
theorem dX9_of_67 : decode cX9_of 67 = .ok (.ireturn, 1) := by decide +kernel
theorem dX9_of_68 : decode cX9_of 68 = .ok (.aload_n 0, 1) := by decide +kernel
theorem dX9_of_69 : decode cX9_of 69 = .ok (.getfield 12, 3) := by decide +kernel
theorem dX9_of_72 : decode cX9_of 72 = .ok (.invokevirtual 108, 3) := by decide +kernel
theorem dX9_of_75 : decode cX9_of 75 = .ok (.iload_n 1, 1) := by decide +kernel
theorem dX9_of_76 : decode cX9_of 76 = .ok (.invokestatic 85, 3) := by decide +kernel
theorem dX9_of_79 : decode cX9_of 79 = .ok (.ireturn, 1) := by decide +kernel
theorem dX9_of_80 : decode cX9_of 80 = .ok (.aload_n 0, 1) := by decide +kernel
theorem dX9_of_81 : decode cX9_of 81 = .ok (.getfield 12, 3) := by decide +kernel
theorem dX9_of_84 : decode cX9_of 84 = .ok (.iload_n 1, 1) := by decide +kernel
theorem dX9_of_85 : decode cX9_of 85 = .ok (.invokevirtual 191, 3) := by decide +kernel
theorem dX9_of_88 : decode cX9_of 88 = .ok (.bipush 100, 2) := by decide +kernel
theorem dX9_of_90 : decode cX9_of 90 = .ok (.iadd, 1) := by decide +kernel
theorem dX9_of_91 : decode cX9_of 91 = .ok (.ireturn, 1) := by decide +kernel
theorem dX9_of_92 : decode cX9_of 92 = .ok (.iconst (-1), 1) := by decide +kernel
theorem dX9_of_93 : decode cX9_of 93 = .ok (.ireturn, 1) := by decide +kernel
theorem dX9_told_0 : decode cX9_told 0 = .ok (.iload_n 1, 1) := by decide +kernel
theorem dX9_told_1 : decode cX9_told 1 = .ok (.tableswitch 281 0 11 #[63, 71, 79, 87, 95, 106, 127, 148, 173, 195, 216, 245], 63) := by decide +kernel
theorem dX9_told_64 : decode cX9_told 64 = .ok (.aload_n 0, 1) := by decide +kernel
theorem dX9_told_65 : decode cX9_told 65 = .ok (.getfield 12, 3) := by decide +kernel
theorem dX9_told_68 : decode cX9_told 68 = .ok (.getfield 67, 3) := by decide +kernel
theorem dX9_told_71 : decode cX9_told 71 = .ok (.ireturn, 1) := by decide +kernel
theorem dX9_told_72 : decode cX9_told 72 = .ok (.aload_n 0, 1) := by decide +kernel
theorem dX9_told_73 : decode cX9_told 73 = .ok (.getfield 12, 3) := by decide +kernel
theorem dX9_told_76 : decode cX9_told 76 = .ok (.getfield 82, 3) := by decide +kernel
theorem dX9_told_79 : decode cX9_told 79 = .ok (.ireturn, 1) := by decide +kernel
theorem dX9_told_80 : decode cX9_told 80 = .ok (.aload_n 0, 1) := by decide +kernel
theorem dX9_told_81 : decode cX9_told 81 = .ok (.getfield 12, 3) := by decide +kernel
theorem dX9_told_84 : decode cX9_told 84 = .ok (.getfield 138, 3) := by decide +kernel
theorem dX9_told_87 : decode cX9_told 87 = .ok (.ireturn, 1) := by decide +kernel
theorem dX9_told_88 : decode cX9_told 88 = .ok (.aload_n 0, 1) := by decide +kernel
theorem dX9_told_89 : decode cX9_told 89 = .ok (.getfield 12, 3) := by decide +kernel
theorem dX9_told_92 : decode cX9_told 92 = .ok (.invokevirtual 108, 3) := by decide +kernel
theorem dX9_told_95 : decode cX9_told 95 = .ok (.ireturn, 1) := by decide +kernel
theorem dX9_told_96 : decode cX9_told 96 = .ok (.aload_n 0, 1) := by decide +kernel
theorem dX9_told_97 : decode cX9_told 97 = .ok (.getfield 12, 3) := by decide +kernel
theorem dX9_told_100 : decode cX9_told 100 = .ok (.getfield 105, 3) := by decide +kernel
theorem dX9_told_103 : decode cX9_told 103 = .ok (.bipush 100, 2) := by decide +kernel
theorem dX9_told_105 : decode cX9_told 105 = .ok (.iadd, 1) := by decide +kernel
theorem dX9_told_106 : decode cX9_told 106 = .ok (.ireturn, 1) := by decide +kernel
theorem dX9_told_107 : decode cX9_told 107 = .ok (.aload_n 0, 1) := by decide +kernel
theorem dX9_told_108 : decode cX9_told 108 = .ok (.getfield 12, 3) := by decide +kernel
theorem dX9_told_111 : decode cX9_told 111 = .ok (.getfield 67, 3) := by decide +kernel
theorem dX9_told_114 : decode cX9_told 114 = .ok (.aload_n 0, 1) := by decide +kernel
theorem dX9_told_115 : decode cX9_told 115 = .ok (.getfield 12, 3) := by decide +kernel
theorem dX9_told_118 : decode cX9_told 118 = .ok (.getfield 82, 3) := by decide +kernel
theorem dX9_told_121 : decode cX9_told 121 = .ok (.invokestatic 194, 3) := by decide +kernel
theorem dX9_told_124 : decode cX9_told 124 = .ok (.invokestatic 197, 3) := by decide +kernel
theorem dX9_told_127 : decode cX9_told 127 = .ok (.ireturn, 1) := by decide +kernel
theorem dX9_told_128 : decode cX9_told 128 = .ok (.aload_n 0, 1) := by decide +kernel
theorem dX9_told_129 : decode cX9_told 129 = .ok (.getfield 12, 3) := by decide +kernel
theorem dX9_told_132 : decode cX9_told 132 = .ok (.getfield 67, 3) := by decide +kernel
theorem dX9_told_135 : decode cX9_told 135 = .ok (.aload_n 0, 1) := by decide +kernel
theorem dX9_told_136 : decode cX9_told 136 = .ok (.getfield 12, 3) := by decide +kernel
theorem dX9_told_139 : decode cX9_told 139 = .ok (.getfield 82, 3) := by decide +kernel
theorem dX9_told_142 : decode cX9_told 142 = .ok (.invokestatic 201, 3) := by decide +kernel
theorem dX9_told_145 : decode cX9_told 145 = .ok (.invokestatic 197, 3) := by decide +kernel
theorem dX9_told_148 : decode cX9_told 148 = .ok (.ireturn, 1) := by decide +kernel
theorem dX9_told_149 : decode cX9_told 149 = .ok (.aload_n 0, 1) := by decide +kernel
theorem dX9_told_150 : decode cX9_told 150 = .ok (.getfield 41, 3) := by decide +kernel
theorem dX9_told_153 : decode cX9_told 153 = .ok (.aload_n 0, 1) := by decide +kernel
theorem dX9_told_154 : decode cX9_told 154 = .ok (.getfield 12, 3) := by decide +kernel
theorem dX9_told_157 : decode cX9_told 157 = .ok (.getfield 67, 3) := by decide +kernel
theorem dX9_told_160 : decode cX9_told 160 = .ok (.aload_n 0, 1) := by decide +kernel
theorem dX9_told_161 : decode cX9_told 161 = .ok (.getfield 12, 3) := by decide +kernel
theorem dX9_told_164 : decode cX9_told 164 = .ok (.getfield 82, 3) := by decide +kernel
theorem dX9_told_167 : decode cX9_told 167 = .ok (.invokevirtual 121, 3) := by decide +kernel
theorem dX9_told_170 : decode cX9_told 170 = .ok (.invokestatic 197, 3) := by decide +kernel
theorem dX9_told_173 : decode cX9_told 173 = .ok (.ireturn, 1) := by decide +kernel
theorem dX9_told_174 : decode cX9_told 174 = .ok (.aload_n 0, 1) := by decide +kernel
theorem dX9_told_175 : decode cX9_told 175 = .ok (.getfield 62, 3) := by decide +kernel
theorem dX9_told_178 : decode cX9_told 178 = .ok (.aload_n 0, 1) := by decide +kernel
theorem dX9_told_179 : decode cX9_told 179 = .ok (.getfield 12, 3) := by decide +kernel
theorem dX9_told_182 : decode cX9_told 182 = .ok (.getfield 67, 3) := by decide +kernel
theorem dX9_told_185 : decode cX9_told 185 = .ok (.aload_n 0, 1) := by decide +kernel
theorem dX9_told_186 : decode cX9_told 186 = .ok (.getfield 12, 3) := by decide +kernel
theorem dX9_told_189 : decode cX9_told 189 = .ok (.getfield 82, 3) := by decide +kernel
theorem dX9_told_192 : decode cX9_told 192 = .ok (.invokevirtual 204, 3) := by decide +kernel
theorem dX9_told_195 : decode cX9_told 195 = .ok (.ireturn, 1) := by decide +kernel
theorem dX9_told_196 : decode cX9_told 196 = .ok (.aload_n 0, 1) := by decide +kernel
theorem dX9_told_197 : decode cX9_told 197 = .ok (.getfield 12, 3) := by decide +kernel
theorem dX9_told_200 : decode cX9_told 200 = .ok (.getfield 67, 3) := by decide +kernel
theorem dX9_told_203 : decode cX9_told 203 = .ok (.aload_n 0, 1) := by decide +kernel
theorem dX9_told_204 : decode cX9_told 204 = .ok (.getfield 12, 3) := by decide +kernel
theorem dX9_told_207 : decode cX9_told 207 = .ok (.getfield 82, 3) := by decide +kernel
theorem dX9_told_210 : decode cX9_told 210 = .ok (.invokestatic 207, 3) := by decide +kernel
theorem dX9_told_213 : decode cX9_told 213 = .ok (.invokestatic 210, 3) := by decide +kernel
theorem dX9_told_216 : decode cX9_told 216 = .ok (.ireturn, 1) := by decide +kernel
theorem dX9_told_217 : decode cX9_told 217 = .ok (.aload_n 0, 1) := by decide +kernel
theorem dX9_told_218 : decode cX9_told 218 = .ok (.getfield 48, 3) := by decide +kernel
theorem dX9_told_221 : decode cX9_told 221 = .ok (.aload_n 0, 1) := by decide +kernel
theorem dX9_told_222 : decode cX9_told 222 = .ok (.getfield 12, 3) := by decide +kernel
theorem dX9_told_225 : decode cX9_told 225 = .ok (.getfield 67, 3) := by decide +kernel
theorem dX9_told_228 : decode cX9_told 228 = .ok (.aload_n 0, 1) := by decide +kernel
theorem dX9_told_229 : decode cX9_told 229 = .ok (.getfield 12, 3) := by decide +kernel
theorem dX9_told_232 : decode cX9_told 232 = .ok (.getfield 82, 3) := by decide +kernel
theorem dX9_told_235 : decode cX9_told 235 = .ok (.invokevirtual 215, 3) := by decide +kernel
theorem dX9_told_238 : decode cX9_told 238 = .ok (.aload_n 0, 1) := by decide +kernel
theorem dX9_told_239 : decode cX9_told 239 = .ok (.getfield 48, 3) := by decide +kernel
theorem dX9_told_242 : decode cX9_told 242 = .ok (.getfield 219, 3) := by decide +kernel
theorem dX9_told_245 : decode cX9_told 245 = .ok (.ireturn, 1) := by decide +kernel
theorem dX9_told_246 : decode cX9_told 246 = .ok (.aload_n 0, 1) := by decide +kernel
theorem dX9_told_247 : decode cX9_told 247 = .ok (.getfield 48, 3) := by decide +kernel
theorem dX9_told_250 : decode cX9_told 250 = .ok (.aload_n 0, 1) := by decide +kernel
theorem dX9_told_251 : decode cX9_told 251 = .ok (.getfield 12, 3) := by decide +kernel
theorem dX9_told_254 : decode cX9_told 254 = .ok (.getfield 67, 3) := by decide +kernel
theorem dX9_told_257 : decode cX9_told 257 = .ok (.aload_n 0, 1) := by decide +kernel
theorem dX9_told_258 : decode cX9_told 258 = .ok (.getfield 12, 3) := by decide +kernel
theorem dX9_told_261 : decode cX9_told 261 = .ok (.getfield 82, 3) := by decide +kernel
theorem dX9_told_264 : decode cX9_told 264 = .ok (.invokevirtual 215, 3) := by decide +kernel
theorem dX9_told_267 : decode cX9_told 267 = .ok (.aload_n 0, 1) := by decide +kernel
theorem dX9_told_268 : decode cX9_told 268 = .ok (.getfield 48, 3) := by decide +kernel
theorem dX9_told_271 : decode cX9_told 271 = .ok (.aload_n 0, 1) := by decide +kernel
theorem dX9_told_272 : decode cX9_told 272 = .ok (.getfield 12, 3) := by decide +kernel
theorem dX9_told_275 : decode cX9_told 275 = .ok (.getfield 138, 3) := by decide +kernel
theorem dX9_told_278 : decode cX9_told 278 = .ok (.invokevirtual 222, 3) := by decide +kernel
theorem dX9_told_281 : decode cX9_told 281 = .ok (.ireturn, 1) := by decide +kernel
theorem dX9_told_282 : decode cX9_told 282 = .ok (.iconst (-1), 1) := by decide +kernel
theorem dX9_told_283 : decode cX9_told 283 = .ok (.ireturn, 1) := by decide +kernel
theorem dX9_weightOf_0 : decode cX9_weightOf 0 = .ok (.aload_n 0, 1) := by decide +kernel
theorem dX9_weightOf_1 : decode cX9_weightOf 1 = .ok (.getfield 12, 3) := by decide +kernel
theorem dX9_weightOf_4 : decode cX9_weightOf 4 = .ok (.iload_n 1, 1) := by decide +kernel
theorem dX9_weightOf_5 : decode cX9_weightOf 5 = .ok (.invokevirtual 98, 3) := by decide +kernel
theorem dX9_weightOf_8 : decode cX9_weightOf 8 = .ok (.ifCond .eq 12, 3) := by decide +kernel
theorem dX9_weightOf_11 : decode cX9_weightOf 11 = .ok (.iload_n 2, 1) := by decide +kernel
theorem dX9_weightOf_12 : decode cX9_weightOf 12 = .ok (.ifCond .lt 8, 3) := by decide +kernel
theorem dX9_weightOf_15 : decode cX9_weightOf 15 = .ok (.iload_n 2, 1) := by decide +kernel
theorem dX9_weightOf_16 : decode cX9_weightOf 16 = .ok (.iconst 1, 1) := by decide +kernel
theorem dX9_weightOf_17 : decode cX9_weightOf 17 = .ok (.if_icmp .le 5, 3) := by decide +kernel
theorem dX9_weightOf_20 : decode cX9_weightOf 20 = .ok (.iconst (-1), 1) := by decide +kernel
theorem dX9_weightOf_21 : decode cX9_weightOf 21 = .ok (.ireturn, 1) := by decide +kernel
theorem dX9_weightOf_22 : decode cX9_weightOf 22 = .ok (.iload_n 2, 1) := by decide +kernel
theorem dX9_weightOf_23 : decode cX9_weightOf 23 = .ok (.ifCond .ne 16, 3) := by decide +kernel
theorem dX9_weightOf_26 : decode cX9_weightOf 26 = .ok (.aload_n 0, 1) := by decide +kernel
theorem dX9_weightOf_27 : decode cX9_weightOf 27 = .ok (.getfield 12, 3) := by decide +kernel
theorem dX9_weightOf_30 : decode cX9_weightOf 30 = .ok (.getfield 101, 3) := by decide +kernel
theorem dX9_weightOf_33 : decode cX9_weightOf 33 = .ok (.iload_n 1, 1) := by decide +kernel
theorem dX9_weightOf_34 : decode cX9_weightOf 34 = .ok (.iaload, 1) := by decide +kernel
theorem dX9_weightOf_35 : decode cX9_weightOf 35 = .ok (.bipush 100, 2) := by decide +kernel
theorem dX9_weightOf_37 : decode cX9_weightOf 37 = .ok (.iadd, 1) := by decide +kernel
theorem dX9_weightOf_38 : decode cX9_weightOf 38 = .ok (.ireturn, 1) := by decide +kernel
theorem dX9_weightOf_39 : decode cX9_weightOf 39 = .ok (.aload_n 0, 1) := by decide +kernel
theorem dX9_weightOf_40 : decode cX9_weightOf 40 = .ok (.getfield 41, 3) := by decide +kernel
theorem dX9_weightOf_43 : decode cX9_weightOf 43 = .ok (.aload_n 0, 1) := by decide +kernel
theorem dX9_weightOf_44 : decode cX9_weightOf 44 = .ok (.getfield 12, 3) := by decide +kernel
theorem dX9_weightOf_47 : decode cX9_weightOf 47 = .ok (.getfield 67, 3) := by decide +kernel
theorem dX9_weightOf_50 : decode cX9_weightOf 50 = .ok (.aload_n 0, 1) := by decide +kernel
theorem dX9_weightOf_51 : decode cX9_weightOf 51 = .ok (.getfield 12, 3) := by decide +kernel
theorem dX9_weightOf_54 : decode cX9_weightOf 54 = .ok (.getfield 82, 3) := by decide +kernel
theorem dX9_weightOf_57 : decode cX9_weightOf 57 = .ok (.invokevirtual 121, 3) := by decide +kernel
theorem dX9_weightOf_60 : decode cX9_weightOf 60 = .ok (.ifCond .eq 18, 3) := by decide +kernel
theorem dX9_weightOf_63 : decode cX9_weightOf 63 = .ok (.aload_n 0, 1) := by decide +kernel
theorem dX9_weightOf_64 : decode cX9_weightOf 64 = .ok (.getfield 41, 3) := by decide +kernel
theorem dX9_weightOf_67 : decode cX9_weightOf 67 = .ok (.getfield 125, 3) := by decide +kernel
theorem dX9_weightOf_70 : decode cX9_weightOf 70 = .ok (.iload_n 1, 1) := by decide +kernel
theorem dX9_weightOf_71 : decode cX9_weightOf 71 = .ok (.iaload, 1) := by decide +kernel
theorem dX9_weightOf_72 : decode cX9_weightOf 72 = .ok (.bipush 100, 2) := by decide +kernel
theorem dX9_weightOf_74 : decode cX9_weightOf 74 = .ok (.iadd, 1) := by decide +kernel
theorem dX9_weightOf_75 : decode cX9_weightOf 75 = .ok (.goto 5, 3) := by decide +kernel
theorem dX9_weightOf_78 : decode cX9_weightOf 78 = .ok (.bipush (-3), 2) := by decide +kernel
theorem dX9_weightOf_80 : decode cX9_weightOf 80 = .ok (.ireturn, 1) := by decide +kernel
theorem dX9_least_0 : decode cX9_least 0 = .ok (.aload_n 0, 1) := by decide +kernel
theorem dX9_least_1 : decode cX9_least 1 = .ok (.getfield 41, 3) := by decide +kernel
theorem dX9_least_4 : decode cX9_least 4 = .ok (.aload_n 0, 1) := by decide +kernel
theorem dX9_least_5 : decode cX9_least 5 = .ok (.getfield 12, 3) := by decide +kernel
theorem dX9_least_8 : decode cX9_least 8 = .ok (.getfield 67, 3) := by decide +kernel
theorem dX9_least_11 : decode cX9_least 11 = .ok (.aload_n 0, 1) := by decide +kernel
theorem dX9_least_12 : decode cX9_least 12 = .ok (.getfield 12, 3) := by decide +kernel
theorem dX9_least_15 : decode cX9_least 15 = .ok (.getfield 82, 3) := by decide +kernel
theorem dX9_least_18 : decode cX9_least 18 = .ok (.invokevirtual 121, 3) := by decide +kernel
theorem dX9_least_21 : decode cX9_least 21 = .ok (.ifCond .eq 16, 3) := by decide +kernel
theorem dX9_least_24 : decode cX9_least 24 = .ok (.aload_n 0, 1) := by decide +kernel
theorem dX9_least_25 : decode cX9_least 25 = .ok (.getfield 41, 3) := by decide +kernel
theorem dX9_least_28 : decode cX9_least 28 = .ok (.getfield 130, 3) := by decide +kernel
theorem dX9_least_31 : decode cX9_least 31 = .ok (.bipush 100, 2) := by decide +kernel
theorem dX9_least_33 : decode cX9_least 33 = .ok (.iadd, 1) := by decide +kernel
theorem dX9_least_34 : decode cX9_least 34 = .ok (.goto 5, 3) := by decide +kernel
theorem dX9_least_37 : decode cX9_least 37 = .ok (.bipush (-3), 2) := by decide +kernel
theorem dX9_least_39 : decode cX9_least 39 = .ok (.ireturn, 1) := by decide +kernel
theorem dX9_chow_0 : decode cX9_chow 0 = .ok (.iload_n 1, 1) := by decide +kernel
theorem dX9_chow_1 : decode cX9_chow 1 = .ok (.iconst (-1), 1) := by decide +kernel
theorem dX9_chow_2 : decode cX9_chow 2 = .ok (.if_icmp .ne 14, 3) := by decide +kernel
theorem dX9_chow_5 : decode cX9_chow 5 = .ok (.aload_n 0, 1) := by decide +kernel
theorem dX9_chow_6 : decode cX9_chow 6 = .ok (.getfield 12, 3) := by decide +kernel
theorem dX9_chow_9 : decode cX9_chow 9 = .ok (.getfield 82, 3) := by decide +kernel
theorem dX9_chow_12 : decode cX9_chow 12 = .ok (.invokestatic 210, 3) := by decide +kernel
theorem dX9_chow_15 : decode cX9_chow 15 = .ok (.ireturn, 1) := by decide +kernel
theorem dX9_chow_16 : decode cX9_chow 16 = .ok (.aload_n 0, 1) := by decide +kernel
theorem dX9_chow_17 : decode cX9_chow 17 = .ok (.getfield 12, 3) := by decide +kernel
theorem dX9_chow_20 : decode cX9_chow 20 = .ok (.iload_n 1, 1) := by decide +kernel
theorem dX9_chow_21 : decode cX9_chow 21 = .ok (.invokevirtual 98, 3) := by decide +kernel
theorem dX9_chow_24 : decode cX9_chow 24 = .ok (.ifCond .eq 21, 3) := by decide +kernel
theorem dX9_chow_27 : decode cX9_chow 27 = .ok (.aload_n 0, 1) := by decide +kernel
theorem dX9_chow_28 : decode cX9_chow 28 = .ok (.getfield 12, 3) := by decide +kernel
theorem dX9_chow_31 : decode cX9_chow 31 = .ok (.getfield 82, 3) := by decide +kernel
theorem dX9_chow_34 : decode cX9_chow 34 = .ok (.iload_n 1, 1) := by decide +kernel
theorem dX9_chow_35 : decode cX9_chow 35 = .ok (.invokestatic 225, 3) := by decide +kernel
theorem dX9_chow_38 : decode cX9_chow 38 = .ok (.iand, 1) := by decide +kernel
theorem dX9_chow_39 : decode cX9_chow 39 = .ok (.invokestatic 210, 3) := by decide +kernel
theorem dX9_chow_42 : decode cX9_chow 42 = .ok (.goto 4, 3) := by decide +kernel
theorem dX9_chow_45 : decode cX9_chow 45 = .ok (.iconst (-1), 1) := by decide +kernel
theorem dX9_chow_46 : decode cX9_chow 46 = .ok (.ireturn, 1) := by decide +kernel
theorem dX9_trade_0 : decode cX9_trade 0 = .ok (.iload_n 1, 1) := by decide +kernel
theorem dX9_trade_1 : decode cX9_trade 1 = .ok (.ifCond .lt 8, 3) := by decide +kernel
theorem dX9_trade_4 : decode cX9_trade 4 = .ok (.iload_n 1, 1) := by decide +kernel
theorem dX9_trade_5 : decode cX9_trade 5 = .ok (.iconst 4, 1) := by decide +kernel
theorem dX9_trade_6 : decode cX9_trade 6 = .ok (.if_icmp .le 5, 3) := by decide +kernel
theorem dX9_trade_9 : decode cX9_trade 9 = .ok (.iconst (-1), 1) := by decide +kernel
theorem dX9_trade_10 : decode cX9_trade 10 = .ok (.ireturn, 1) := by decide +kernel
theorem dX9_trade_11 : decode cX9_trade 11 = .ok (.aload_n 0, 1) := by decide +kernel
theorem dX9_trade_12 : decode cX9_trade 12 = .ok (.getfield 55, 3) := by decide +kernel
theorem dX9_trade_15 : decode cX9_trade 15 = .ok (.aload_n 0, 1) := by decide +kernel
theorem dX9_trade_16 : decode cX9_trade 16 = .ok (.getfield 12, 3) := by decide +kernel
theorem dX9_trade_19 : decode cX9_trade 19 = .ok (.getfield 67, 3) := by decide +kernel
theorem dX9_trade_22 : decode cX9_trade 22 = .ok (.aload_n 0, 1) := by decide +kernel
theorem dX9_trade_23 : decode cX9_trade 23 = .ok (.getfield 12, 3) := by decide +kernel
theorem dX9_trade_26 : decode cX9_trade 26 = .ok (.getfield 82, 3) := by decide +kernel
theorem dX9_trade_29 : decode cX9_trade 29 = .ok (.invokevirtual 228, 3) := by decide +kernel
theorem dX9_trade_32 : decode cX9_trade 32 = .ok (.iload_n 1, 1) := by decide +kernel
theorem dX9_trade_33 : decode cX9_trade 33 = .ok (.ifCond .ne 11, 3) := by decide +kernel
theorem dX9_trade_36 : decode cX9_trade 36 = .ok (.aload_n 0, 1) := by decide +kernel
theorem dX9_trade_37 : decode cX9_trade 37 = .ok (.getfield 55, 3) := by decide +kernel
theorem dX9_trade_40 : decode cX9_trade 40 = .ok (.getfield 231, 3) := by decide +kernel
theorem dX9_trade_43 : decode cX9_trade 43 = .ok (.ireturn, 1) := by decide +kernel
theorem dX9_trade_44 : decode cX9_trade 44 = .ok (.aload_n 0, 1) := by decide +kernel
theorem dX9_trade_45 : decode cX9_trade 45 = .ok (.getfield 55, 3) := by decide +kernel
theorem dX9_trade_48 : decode cX9_trade 48 = .ok (.getfield 231, 3) := by decide +kernel
theorem dX9_trade_51 : decode cX9_trade 51 = .ok (.ifCond .ne 8, 3) := by decide +kernel
theorem dX9_trade_54 : decode cX9_trade 54 = .ok (.bipush (-5), 2) := by decide +kernel
theorem dX9_trade_56 : decode cX9_trade 56 = .ok (.goto 14, 3) := by decide +kernel
theorem dX9_trade_59 : decode cX9_trade 59 = .ok (.aload_n 0, 1) := by decide +kernel
theorem dX9_trade_60 : decode cX9_trade 60 = .ok (.getfield 55, 3) := by decide +kernel
theorem dX9_trade_63 : decode cX9_trade 63 = .ok (.getfield 234, 3) := by decide +kernel
theorem dX9_trade_66 : decode cX9_trade 66 = .ok (.iload_n 1, 1) := by decide +kernel
theorem dX9_trade_67 : decode cX9_trade 67 = .ok (.iconst 1, 1) := by decide +kernel
theorem dX9_trade_68 : decode cX9_trade 68 = .ok (.isub, 1) := by decide +kernel
theorem dX9_trade_69 : decode cX9_trade 69 = .ok (.iaload, 1) := by decide +kernel
theorem dX9_trade_70 : decode cX9_trade 70 = .ok (.ireturn, 1) := by decide +kernel
theorem dX9_leastLot_0 : decode cX9_leastLot 0 = .ok (.iload_n 1, 1) := by decide +kernel
theorem dX9_leastLot_1 : decode cX9_leastLot 1 = .ok (.ifCond .ge 5, 3) := by decide +kernel
theorem dX9_leastLot_4 : decode cX9_leastLot 4 = .ok (.iconst (-1), 1) := by decide +kernel
theorem dX9_leastLot_5 : decode cX9_leastLot 5 = .ok (.ireturn, 1) := by decide +kernel
theorem dX9_leastLot_6 : decode cX9_leastLot 6 = .ok (.aload_n 0, 1) := by decide +kernel
theorem dX9_leastLot_7 : decode cX9_leastLot 7 = .ok (.getfield 12, 3) := by decide +kernel
theorem dX9_leastLot_10 : decode cX9_leastLot 10 = .ok (.getfield 67, 3) := by decide +kernel
theorem dX9_leastLot_13 : decode cX9_leastLot 13 = .ok (.aload_n 0, 1) := by decide +kernel
theorem dX9_leastLot_14 : decode cX9_leastLot 14 = .ok (.getfield 12, 3) := by decide +kernel
theorem dX9_leastLot_17 : decode cX9_leastLot 17 = .ok (.getfield 82, 3) := by decide +kernel
theorem dX9_leastLot_20 : decode cX9_leastLot 20 = .ok (.invokestatic 207, 3) := by decide +kernel
theorem dX9_leastLot_23 : decode cX9_leastLot 23 = .ok (.istore_n 2, 1) := by decide +kernel
theorem dX9_leastLot_24 : decode cX9_leastLot 24 = .ok (.iconst 0, 1) := by decide +kernel
theorem dX9_leastLot_25 : decode cX9_leastLot 25 = .ok (.istore_n 3, 1) := by decide +kernel
theorem dX9_leastLot_26 : decode cX9_leastLot 26 = .ok (.iconst 0, 1) := by decide +kernel
theorem dX9_leastLot_27 : decode cX9_leastLot 27 = .ok (.istore 4, 2) := by decide +kernel
theorem dX9_leastLot_29 : decode cX9_leastLot 29 = .ok (.iload 4, 2) := by decide +kernel
theorem dX9_leastLot_31 : decode cX9_leastLot 31 = .ok (.aload_n 0, 1) := by decide +kernel
theorem dX9_leastLot_32 : decode cX9_leastLot 32 = .ok (.getfield 12, 3) := by decide +kernel
theorem dX9_leastLot_35 : decode cX9_leastLot 35 = .ok (.invokevirtual 237, 3) := by decide +kernel
theorem dX9_leastLot_38 : decode cX9_leastLot 38 = .ok (.if_icmp .ge 30, 3) := by decide +kernel
theorem dX9_leastLot_41 : decode cX9_leastLot 41 = .ok (.iload_n 2, 1) := by decide +kernel
theorem dX9_leastLot_42 : decode cX9_leastLot 42 = .ok (.iload 4, 2) := by decide +kernel
theorem dX9_leastLot_44 : decode cX9_leastLot 44 = .ok (.invokestatic 85, 3) := by decide +kernel
theorem dX9_leastLot_47 : decode cX9_leastLot 47 = .ok (.iconst 1, 1) := by decide +kernel
theorem dX9_leastLot_48 : decode cX9_leastLot 48 = .ok (.if_icmp .ne 14, 3) := by decide +kernel
theorem dX9_leastLot_51 : decode cX9_leastLot 51 = .ok (.iload_n 3, 1) := by decide +kernel
theorem dX9_leastLot_52 : decode cX9_leastLot 52 = .ok (.iload_n 1, 1) := by decide +kernel
theorem dX9_leastLot_53 : decode cX9_leastLot 53 = .ok (.if_icmp .ne 6, 3) := by decide +kernel
theorem dX9_leastLot_56 : decode cX9_leastLot 56 = .ok (.iload 4, 2) := by decide +kernel
theorem dX9_leastLot_58 : decode cX9_leastLot 58 = .ok (.ireturn, 1) := by decide +kernel
theorem dX9_leastLot_59 : decode cX9_leastLot 59 = .ok (.iinc 3 1, 3) := by decide +kernel
theorem dX9_leastLot_62 : decode cX9_leastLot 62 = .ok (.iinc 4 1, 3) := by decide +kernel
theorem dX9_leastLot_65 : decode cX9_leastLot 65 = .ok (.goto (-36), 3) := by decide +kernel
theorem dX9_leastLot_68 : decode cX9_leastLot 68 = .ok (.bipush (-5), 2) := by decide +kernel
theorem dX9_leastLot_70 : decode cX9_leastLot 70 = .ok (.ireturn, 1) := by decide +kernel
theorem dX9_swings_0 : decode cX9_swings 0 = .ok (.aload_n 0, 1) := by decide +kernel
theorem dX9_swings_1 : decode cX9_swings 1 = .ok (.getfield 12, 3) := by decide +kernel
theorem dX9_swings_4 : decode cX9_swings 4 = .ok (.iload_n 1, 1) := by decide +kernel
theorem dX9_swings_5 : decode cX9_swings 5 = .ok (.invokevirtual 98, 3) := by decide +kernel
theorem dX9_swings_8 : decode cX9_swings 8 = .ok (.ifCond .eq 24, 3) := by decide +kernel
theorem dX9_swings_11 : decode cX9_swings 11 = .ok (.aload_n 0, 1) := by decide +kernel
theorem dX9_swings_12 : decode cX9_swings 12 = .ok (.getfield 12, 3) := by decide +kernel
theorem dX9_swings_15 : decode cX9_swings 15 = .ok (.getfield 67, 3) := by decide +kernel
theorem dX9_swings_18 : decode cX9_swings 18 = .ok (.aload_n 0, 1) := by decide +kernel
theorem dX9_swings_19 : decode cX9_swings 19 = .ok (.getfield 12, 3) := by decide +kernel
theorem dX9_swings_22 : decode cX9_swings 22 = .ok (.getfield 82, 3) := by decide +kernel
theorem dX9_swings_25 : decode cX9_swings 25 = .ok (.iload_n 1, 1) := by decide +kernel
theorem dX9_swings_26 : decode cX9_swings 26 = .ok (.invokestatic 240, 3) := by decide +kernel
theorem dX9_swings_29 : decode cX9_swings 29 = .ok (.goto 4, 3) := by decide +kernel
theorem dX9_swings_32 : decode cX9_swings 32 = .ok (.iconst (-1), 1) := by decide +kernel
theorem dX9_swings_33 : decode cX9_swings 33 = .ok (.ireturn, 1) := by decide +kernel
theorem dX9_see_0 : decode cX9_see 0 = .ok (.aload_n 0, 1) := by decide +kernel
theorem dX9_see_1 : decode cX9_see 1 = .ok (.aload_n 0, 1) := by decide +kernel
theorem dX9_see_2 : decode cX9_see 2 = .ok (.getfield 12, 3) := by decide +kernel
theorem dX9_see_5 : decode cX9_see 5 = .ok (.getfield 243, 3) := by decide +kernel
theorem dX9_see_8 : decode cX9_see 8 = .ok (.iload_n 1, 1) := by decide +kernel
theorem dX9_see_9 : decode cX9_see 9 = .ok (.iload_n 2, 1) := by decide +kernel
theorem dX9_see_10 : decode cX9_see 10 = .ok (.invokevirtual 247, 3) := by decide +kernel
theorem dX9_see_13 : decode cX9_see 13 = .ok (.ireturn, 1) := by decide +kernel
theorem dX9_fits_0 : decode cX9_fits 0 = .ok (.iload_n 1, 1) := by decide +kernel
theorem dX9_fits_1 : decode cX9_fits 1 = .ok (.ifCond .lt 8, 3) := by decide +kernel
theorem dX9_fits_4 : decode cX9_fits 4 = .ok (.iload_n 1, 1) := by decide +kernel
theorem dX9_fits_5 : decode cX9_fits 5 = .ok (.iconst 1, 1) := by decide +kernel
theorem dX9_fits_6 : decode cX9_fits 6 = .ok (.if_icmp .le 5, 3) := by decide +kernel
theorem dX9_fits_9 : decode cX9_fits 9 = .ok (.iconst (-1), 1) := by decide +kernel
theorem dX9_fits_10 : decode cX9_fits 10 = .ok (.ireturn, 1) := by decide +kernel
theorem dX9_fits_11 : decode cX9_fits 11 = .ok (.aload_n 0, 1) := by decide +kernel
theorem dX9_fits_12 : decode cX9_fits 12 = .ok (.invokevirtual 251, 3) := by decide +kernel
theorem dX9_fits_15 : decode cX9_fits 15 = .ok (.istore_n 2, 1) := by decide +kernel
theorem dX9_fits_16 : decode cX9_fits 16 = .ok (.iconst 0, 1) := by decide +kernel
theorem dX9_fits_17 : decode cX9_fits 17 = .ok (.aload_n 0, 1) := by decide +kernel
theorem dX9_fits_18 : decode cX9_fits 18 = .ok (.invokevirtual 254, 3) := by decide +kernel
theorem dX9_fits_21 : decode cX9_fits 21 = .ok (.iload_n 2, 1) := by decide +kernel
theorem dX9_fits_22 : decode cX9_fits 22 = .ok (.isub, 1) := by decide +kernel
theorem dX9_fits_23 : decode cX9_fits 23 = .ok (.iconst 1, 1) := by decide +kernel
theorem dX9_fits_24 : decode cX9_fits 24 = .ok (.iadd, 1) := by decide +kernel
theorem dX9_fits_25 : decode cX9_fits 25 = .ok (.invokestatic 257, 3) := by decide +kernel
theorem dX9_fits_28 : decode cX9_fits 28 = .ok (.istore_n 3, 1) := by decide +kernel
theorem dX9_fits_29 : decode cX9_fits 29 = .ok (.iload_n 1, 1) := by decide +kernel
theorem dX9_fits_30 : decode cX9_fits 30 = .ok (.ifCond .ne 5, 3) := by decide +kernel
theorem dX9_fits_33 : decode cX9_fits 33 = .ok (.iload_n 3, 1) := by decide +kernel
theorem dX9_fits_34 : decode cX9_fits 34 = .ok (.ireturn, 1) := by decide +kernel
theorem dX9_fits_35 : decode cX9_fits 35 = .ok (.iload_n 3, 1) := by decide +kernel
theorem dX9_fits_36 : decode cX9_fits 36 = .ok (.ifCond .ne 7, 3) := by decide +kernel
theorem dX9_fits_39 : decode cX9_fits 39 = .ok (.iconst 0, 1) := by decide +kernel
theorem dX9_fits_40 : decode cX9_fits 40 = .ok (.goto 9, 3) := by decide +kernel
theorem dX9_fits_43 : decode cX9_fits 43 = .ok (.iload_n 2, 1) := by decide +kernel
theorem dX9_fits_44 : decode cX9_fits 44 = .ok (.bipush 40, 2) := by decide +kernel
theorem dX9_fits_46 : decode cX9_fits 46 = .ok (.iadd, 1) := by decide +kernel
theorem dX9_fits_47 : decode cX9_fits 47 = .ok (.iconst 1, 1) := by decide +kernel
theorem dX9_fits_48 : decode cX9_fits 48 = .ok (.iadd, 1) := by decide +kernel
theorem dX9_fits_49 : decode cX9_fits 49 = .ok (.ireturn, 1) := by decide +kernel
theorem dX9_leastFit_0 : decode cX9_leastFit 0 = .ok (.bipush (-40), 2) := by decide +kernel
theorem dX9_leastFit_2 : decode cX9_leastFit 2 = .ok (.istore_n 1, 1) := by decide +kernel
theorem dX9_leastFit_3 : decode cX9_leastFit 3 = .ok (.iconst 0, 1) := by decide +kernel
theorem dX9_leastFit_4 : decode cX9_leastFit 4 = .ok (.istore_n 2, 1) := by decide +kernel
theorem dX9_leastFit_5 : decode cX9_leastFit 5 = .ok (.iload_n 2, 1) := by decide +kernel
theorem dX9_leastFit_6 : decode cX9_leastFit 6 = .ok (.aload_n 0, 1) := by decide +kernel
theorem dX9_leastFit_7 : decode cX9_leastFit 7 = .ok (.getfield 12, 3) := by decide +kernel
theorem dX9_leastFit_10 : decode cX9_leastFit 10 = .ok (.getfield 243, 3) := by decide +kernel
theorem dX9_leastFit_13 : decode cX9_leastFit 13 = .ok (.getfield 262, 3) := by decide +kernel
theorem dX9_leastFit_16 : decode cX9_leastFit 16 = .ok (.if_icmp .ge 66, 3) := by decide +kernel
theorem dX9_leastFit_19 : decode cX9_leastFit 19 = .ok (.aload_n 0, 1) := by decide +kernel
theorem dX9_leastFit_20 : decode cX9_leastFit 20 = .ok (.getfield 12, 3) := by decide +kernel
theorem dX9_leastFit_23 : decode cX9_leastFit 23 = .ok (.getfield 243, 3) := by decide +kernel
theorem dX9_leastFit_26 : decode cX9_leastFit 26 = .ok (.getfield 265, 3) := by decide +kernel
theorem dX9_leastFit_29 : decode cX9_leastFit 29 = .ok (.iload_n 2, 1) := by decide +kernel
theorem dX9_leastFit_30 : decode cX9_leastFit 30 = .ok (.iaload, 1) := by decide +kernel
theorem dX9_leastFit_31 : decode cX9_leastFit 31 = .ok (.istore_n 3, 1) := by decide +kernel
theorem dX9_leastFit_32 : decode cX9_leastFit 32 = .ok (.aload_n 0, 1) := by decide +kernel
theorem dX9_leastFit_33 : decode cX9_leastFit 33 = .ok (.getfield 12, 3) := by decide +kernel
theorem dX9_leastFit_36 : decode cX9_leastFit 36 = .ok (.iload_n 3, 1) := by decide +kernel
theorem dX9_leastFit_37 : decode cX9_leastFit 37 = .ok (.invokevirtual 75, 3) := by decide +kernel
theorem dX9_leastFit_40 : decode cX9_leastFit 40 = .ok (.ifCond .ne 6, 3) := by decide +kernel
theorem dX9_leastFit_43 : decode cX9_leastFit 43 = .ok (.bipush 41, 2) := by decide +kernel
theorem dX9_leastFit_45 : decode cX9_leastFit 45 = .ok (.ireturn, 1) := by decide +kernel
theorem dX9_leastFit_46 : decode cX9_leastFit 46 = .ok (.aload_n 0, 1) := by decide +kernel
theorem dX9_leastFit_47 : decode cX9_leastFit 47 = .ok (.getfield 12, 3) := by decide +kernel
theorem dX9_leastFit_50 : decode cX9_leastFit 50 = .ok (.getfield 243, 3) := by decide +kernel
theorem dX9_leastFit_53 : decode cX9_leastFit 53 = .ok (.getfield 266, 3) := by decide +kernel
theorem dX9_leastFit_56 : decode cX9_leastFit 56 = .ok (.iload_n 2, 1) := by decide +kernel
theorem dX9_leastFit_57 : decode cX9_leastFit 57 = .ok (.iaload, 1) := by decide +kernel
theorem dX9_leastFit_58 : decode cX9_leastFit 58 = .ok (.ifCond .ne 18, 3) := by decide +kernel
theorem dX9_leastFit_61 : decode cX9_leastFit 61 = .ok (.iload_n 1, 1) := by decide +kernel
theorem dX9_leastFit_62 : decode cX9_leastFit 62 = .ok (.aload_n 0, 1) := by decide +kernel
theorem dX9_leastFit_63 : decode cX9_leastFit 63 = .ok (.getfield 12, 3) := by decide +kernel
theorem dX9_leastFit_66 : decode cX9_leastFit 66 = .ok (.iload_n 3, 1) := by decide +kernel
theorem dX9_leastFit_67 : decode cX9_leastFit 67 = .ok (.invokevirtual 191, 3) := by decide +kernel
theorem dX9_leastFit_70 : decode cX9_leastFit 70 = .ok (.iconst 1, 1) := by decide +kernel
theorem dX9_leastFit_71 : decode cX9_leastFit 71 = .ok (.iadd, 1) := by decide +kernel
theorem dX9_leastFit_72 : decode cX9_leastFit 72 = .ok (.invokestatic 257, 3) := by decide +kernel
theorem dX9_leastFit_75 : decode cX9_leastFit 75 = .ok (.istore_n 1, 1) := by decide +kernel
theorem dX9_leastFit_76 : decode cX9_leastFit 76 = .ok (.iinc 2 1, 3) := by decide +kernel
theorem dX9_leastFit_79 : decode cX9_leastFit 79 = .ok (.goto (-74), 3) := by decide +kernel
theorem dX9_leastFit_82 : decode cX9_leastFit 82 = .ok (.iload_n 1, 1) := by decide +kernel
theorem dX9_leastFit_83 : decode cX9_leastFit 83 = .ok (.ireturn, 1) := by decide +kernel
theorem dX9_greatestFit_0 : decode cX9_greatestFit 0 = .ok (.bipush 40, 2) := by decide +kernel
theorem dX9_greatestFit_2 : decode cX9_greatestFit 2 = .ok (.istore_n 1, 1) := by decide +kernel
theorem dX9_greatestFit_3 : decode cX9_greatestFit 3 = .ok (.iconst 0, 1) := by decide +kernel
theorem dX9_greatestFit_4 : decode cX9_greatestFit 4 = .ok (.istore_n 2, 1) := by decide +kernel
theorem dX9_greatestFit_5 : decode cX9_greatestFit 5 = .ok (.iload_n 2, 1) := by decide +kernel
theorem dX9_greatestFit_6 : decode cX9_greatestFit 6 = .ok (.aload_n 0, 1) := by decide +kernel
theorem dX9_greatestFit_7 : decode cX9_greatestFit 7 = .ok (.getfield 12, 3) := by decide +kernel
theorem dX9_greatestFit_10 : decode cX9_greatestFit 10 = .ok (.getfield 243, 3) := by decide +kernel
theorem dX9_greatestFit_13 : decode cX9_greatestFit 13 = .ok (.getfield 262, 3) := by decide +kernel
theorem dX9_greatestFit_16 : decode cX9_greatestFit 16 = .ok (.if_icmp .ge 62, 3) := by decide +kernel
theorem dX9_greatestFit_19 : decode cX9_greatestFit 19 = .ok (.aload_n 0, 1) := by decide +kernel
theorem dX9_greatestFit_20 : decode cX9_greatestFit 20 = .ok (.getfield 12, 3) := by decide +kernel
theorem dX9_greatestFit_23 : decode cX9_greatestFit 23 = .ok (.getfield 243, 3) := by decide +kernel
theorem dX9_greatestFit_26 : decode cX9_greatestFit 26 = .ok (.getfield 265, 3) := by decide +kernel
theorem dX9_greatestFit_29 : decode cX9_greatestFit 29 = .ok (.iload_n 2, 1) := by decide +kernel
theorem dX9_greatestFit_30 : decode cX9_greatestFit 30 = .ok (.iaload, 1) := by decide +kernel
theorem dX9_greatestFit_31 : decode cX9_greatestFit 31 = .ok (.istore_n 3, 1) := by decide +kernel
theorem dX9_greatestFit_32 : decode cX9_greatestFit 32 = .ok (.aload_n 0, 1) := by decide +kernel
theorem dX9_greatestFit_33 : decode cX9_greatestFit 33 = .ok (.getfield 12, 3) := by decide +kernel
theorem dX9_greatestFit_36 : decode cX9_greatestFit 36 = .ok (.iload_n 3, 1) := by decide +kernel
theorem dX9_greatestFit_37 : decode cX9_greatestFit 37 = .ok (.invokevirtual 75, 3) := by decide +kernel
theorem dX9_greatestFit_40 : decode cX9_greatestFit 40 = .ok (.ifCond .eq 32, 3) := by decide +kernel
theorem dX9_greatestFit_43 : decode cX9_greatestFit 43 = .ok (.aload_n 0, 1) := by decide +kernel
theorem dX9_greatestFit_44 : decode cX9_greatestFit 44 = .ok (.getfield 12, 3) := by decide +kernel
theorem dX9_greatestFit_47 : decode cX9_greatestFit 47 = .ok (.getfield 243, 3) := by decide +kernel
theorem dX9_greatestFit_50 : decode cX9_greatestFit 50 = .ok (.getfield 266, 3) := by decide +kernel
theorem dX9_greatestFit_53 : decode cX9_greatestFit 53 = .ok (.iload_n 2, 1) := by decide +kernel
theorem dX9_greatestFit_54 : decode cX9_greatestFit 54 = .ok (.iaload, 1) := by decide +kernel
theorem dX9_greatestFit_55 : decode cX9_greatestFit 55 = .ok (.iconst 1, 1) := by decide +kernel
theorem dX9_greatestFit_56 : decode cX9_greatestFit 56 = .ok (.if_icmp .ne 16, 3) := by decide +kernel
theorem dX9_greatestFit_59 : decode cX9_greatestFit 59 = .ok (.iload_n 1, 1) := by decide +kernel
theorem dX9_greatestFit_60 : decode cX9_greatestFit 60 = .ok (.aload_n 0, 1) := by decide +kernel
theorem dX9_greatestFit_61 : decode cX9_greatestFit 61 = .ok (.getfield 12, 3) := by decide +kernel
theorem dX9_greatestFit_64 : decode cX9_greatestFit 64 = .ok (.iload_n 3, 1) := by decide +kernel
theorem dX9_greatestFit_65 : decode cX9_greatestFit 65 = .ok (.invokevirtual 191, 3) := by decide +kernel
theorem dX9_greatestFit_68 : decode cX9_greatestFit 68 = .ok (.invokestatic 267, 3) := by decide +kernel
theorem dX9_greatestFit_71 : decode cX9_greatestFit 71 = .ok (.istore_n 1, 1) := by decide +kernel
theorem dX9_greatestFit_72 : decode cX9_greatestFit 72 = .ok (.iinc 2 1, 3) := by decide +kernel
theorem dX9_greatestFit_75 : decode cX9_greatestFit 75 = .ok (.goto (-70), 3) := by decide +kernel
theorem dX9_greatestFit_78 : decode cX9_greatestFit 78 = .ok (.iload_n 1, 1) := by decide +kernel
theorem dX9_greatestFit_79 : decode cX9_greatestFit 79 = .ok (.ireturn, 1) := by decide +kernel
theorem dX9_odds_0 : decode cX9_odds 0 = .ok (.aload_n 0, 1) := by decide +kernel
theorem dX9_odds_1 : decode cX9_odds 1 = .ok (.getfield 12, 3) := by decide +kernel
theorem dX9_odds_4 : decode cX9_odds 4 = .ok (.iload_n 1, 1) := by decide +kernel
theorem dX9_odds_5 : decode cX9_odds 5 = .ok (.invokevirtual 98, 3) := by decide +kernel
theorem dX9_odds_8 : decode cX9_odds 8 = .ok (.ifCond .eq 12, 3) := by decide +kernel
theorem dX9_odds_11 : decode cX9_odds 11 = .ok (.iload_n 2, 1) := by decide +kernel
theorem dX9_odds_12 : decode cX9_odds 12 = .ok (.ifCond .lt 8, 3) := by decide +kernel
theorem dX9_odds_15 : decode cX9_odds 15 = .ok (.iload_n 2, 1) := by decide +kernel
theorem dX9_odds_16 : decode cX9_odds 16 = .ok (.iconst 1, 1) := by decide +kernel
theorem dX9_odds_17 : decode cX9_odds 17 = .ok (.if_icmp .le 7, 3) := by decide +kernel
theorem dX9_odds_20 : decode cX9_odds 20 = .ok (.ldc2_w 270, 3) := by decide +kernel
theorem dX9_odds_23 : decode cX9_odds 23 = .ok (.lreturn, 1) := by decide +kernel
theorem dX9_odds_24 : decode cX9_odds 24 = .ok (.aload_n 0, 1) := by decide +kernel
theorem dX9_odds_25 : decode cX9_odds 25 = .ok (.getfield 12, 3) := by decide +kernel
theorem dX9_odds_28 : decode cX9_odds 28 = .ok (.getfield 67, 3) := by decide +kernel
theorem dX9_odds_31 : decode cX9_odds 31 = .ok (.aload_n 0, 1) := by decide +kernel
theorem dX9_odds_32 : decode cX9_odds 32 = .ok (.getfield 12, 3) := by decide +kernel
theorem dX9_odds_35 : decode cX9_odds 35 = .ok (.getfield 82, 3) := by decide +kernel
theorem dX9_odds_38 : decode cX9_odds 38 = .ok (.iload_n 1, 1) := by decide +kernel
theorem dX9_odds_39 : decode cX9_odds 39 = .ok (.invokestatic 240, 3) := by decide +kernel
theorem dX9_odds_42 : decode cX9_odds 42 = .ok (.aload_n 0, 1) := by decide +kernel
theorem dX9_odds_43 : decode cX9_odds 43 = .ok (.getfield 12, 3) := by decide +kernel
theorem dX9_odds_46 : decode cX9_odds 46 = .ok (.invokevirtual 237, 3) := by decide +kernel
theorem dX9_odds_49 : decode cX9_odds 49 = .ok (.iconst 2, 1) := by decide +kernel
theorem dX9_odds_50 : decode cX9_odds 50 = .ok (.idiv, 1) := by decide +kernel
theorem dX9_odds_51 : decode cX9_odds 51 = .ok (.iload_n 2, 1) := by decide +kernel
theorem dX9_odds_52 : decode cX9_odds 52 = .ok (.invokestatic 272, 3) := by decide +kernel
theorem dX9_odds_55 : decode cX9_odds 55 = .ok (.lreturn, 1) := by decide +kernel
theorem dX9_mean_0 : decode cX9_mean 0 = .ok (.iload_n 1, 1) := by decide +kernel
theorem dX9_mean_1 : decode cX9_mean 1 = .ok (.ifCond .lt 8, 3) := by decide +kernel
theorem dX9_mean_4 : decode cX9_mean 4 = .ok (.iload_n 1, 1) := by decide +kernel
theorem dX9_mean_5 : decode cX9_mean 5 = .ok (.iconst 1, 1) := by decide +kernel
theorem dX9_mean_6 : decode cX9_mean 6 = .ok (.if_icmp .le 7, 3) := by decide +kernel
theorem dX9_mean_9 : decode cX9_mean 9 = .ok (.ldc2_w 270, 3) := by decide +kernel
theorem dX9_mean_12 : decode cX9_mean 12 = .ok (.lreturn, 1) := by decide +kernel
theorem dX9_mean_13 : decode cX9_mean 13 = .ok (.iconst 0, 1) := by decide +kernel
theorem dX9_mean_14 : decode cX9_mean 14 = .ok (.istore_n 2, 1) := by decide +kernel
theorem dX9_mean_15 : decode cX9_mean 15 = .ok (.iconst 0, 1) := by decide +kernel
theorem dX9_mean_16 : decode cX9_mean 16 = .ok (.istore_n 3, 1) := by decide +kernel
theorem dX9_mean_17 : decode cX9_mean 17 = .ok (.iload_n 3, 1) := by decide +kernel
theorem dX9_mean_18 : decode cX9_mean 18 = .ok (.aload_n 0, 1) := by decide +kernel
theorem dX9_mean_19 : decode cX9_mean 19 = .ok (.getfield 12, 3) := by decide +kernel
theorem dX9_mean_22 : decode cX9_mean 22 = .ok (.invokevirtual 237, 3) := by decide +kernel
theorem dX9_mean_25 : decode cX9_mean 25 = .ok (.if_icmp .ge 20, 3) := by decide +kernel
theorem dX9_mean_28 : decode cX9_mean 28 = .ok (.iload_n 2, 1) := by decide +kernel
theorem dX9_mean_29 : decode cX9_mean 29 = .ok (.aload_n 0, 1) := by decide +kernel
theorem dX9_mean_30 : decode cX9_mean 30 = .ok (.getfield 12, 3) := by decide +kernel
theorem dX9_mean_33 : decode cX9_mean 33 = .ok (.iload_n 3, 1) := by decide +kernel
theorem dX9_mean_34 : decode cX9_mean 34 = .ok (.invokevirtual 191, 3) := by decide +kernel
theorem dX9_mean_37 : decode cX9_mean 37 = .ok (.iadd, 1) := by decide +kernel
theorem dX9_mean_38 : decode cX9_mean 38 = .ok (.istore_n 2, 1) := by decide +kernel
theorem dX9_mean_39 : decode cX9_mean 39 = .ok (.iinc 3 1, 3) := by decide +kernel
theorem dX9_mean_42 : decode cX9_mean 42 = .ok (.goto (-25), 3) := by decide +kernel
theorem dX9_mean_45 : decode cX9_mean 45 = .ok (.iload_n 2, 1) := by decide +kernel
theorem dX9_mean_46 : decode cX9_mean 46 = .ok (.aload_n 0, 1) := by decide +kernel
theorem dX9_mean_47 : decode cX9_mean 47 = .ok (.getfield 12, 3) := by decide +kernel
theorem dX9_mean_50 : decode cX9_mean 50 = .ok (.invokevirtual 237, 3) := by decide +kernel
theorem dX9_mean_53 : decode cX9_mean 53 = .ok (.iload_n 1, 1) := by decide +kernel
theorem dX9_mean_54 : decode cX9_mean 54 = .ok (.invokestatic 272, 3) := by decide +kernel
theorem dX9_mean_57 : decode cX9_mean 57 = .ok (.lreturn, 1) := by decide +kernel
theorem dX9_partOfFraction_0 : decode cX9_partOfFraction 0 = .ok (.iload_n 0, 1) := by decide +kernel
theorem dX9_partOfFraction_1 : decode cX9_partOfFraction 1 = .ok (.iload_n 1, 1) := by decide +kernel
theorem dX9_partOfFraction_2 : decode cX9_partOfFraction 2 = .ok (.invokestatic 276, 3) := by decide +kernel
theorem dX9_partOfFraction_5 : decode cX9_partOfFraction 5 = .ok (.istore_n 3, 1) := by decide +kernel
theorem dX9_partOfFraction_6 : decode cX9_partOfFraction 6 = .ok (.iload_n 2, 1) := by decide +kernel
theorem dX9_partOfFraction_7 : decode cX9_partOfFraction 7 = .ok (.ifCond .ne 10, 3) := by decide +kernel
theorem dX9_partOfFraction_10 : decode cX9_partOfFraction 10 = .ok (.iload_n 0, 1) := by decide +kernel
theorem dX9_partOfFraction_11 : decode cX9_partOfFraction 11 = .ok (.iload_n 3, 1) := by decide +kernel
theorem dX9_partOfFraction_12 : decode cX9_partOfFraction 12 = .ok (.idiv, 1) := by decide +kernel
theorem dX9_partOfFraction_13 : decode cX9_partOfFraction 13 = .ok (.i2l, 1) := by decide +kernel
theorem dX9_partOfFraction_14 : decode cX9_partOfFraction 14 = .ok (.goto 7, 3) := by decide +kernel
theorem dX9_partOfFraction_17 : decode cX9_partOfFraction 17 = .ok (.iload_n 1, 1) := by decide +kernel
theorem dX9_partOfFraction_18 : decode cX9_partOfFraction 18 = .ok (.iload_n 3, 1) := by decide +kernel
theorem dX9_partOfFraction_19 : decode cX9_partOfFraction 19 = .ok (.idiv, 1) := by decide +kernel
theorem dX9_partOfFraction_20 : decode cX9_partOfFraction 20 = .ok (.i2l, 1) := by decide +kernel
theorem dX9_partOfFraction_21 : decode cX9_partOfFraction 21 = .ok (.lreturn, 1) := by decide +kernel
theorem dX9_greatestCommonDivisor_0 : decode cX9_greatestCommonDivisor 0 = .ok (.iload_n 1, 1) := by decide +kernel
theorem dX9_greatestCommonDivisor_1 : decode cX9_greatestCommonDivisor 1 = .ok (.istore_n 2, 1) := by decide +kernel
theorem dX9_greatestCommonDivisor_2 : decode cX9_greatestCommonDivisor 2 = .ok (.iload_n 2, 1) := by decide +kernel
theorem dX9_greatestCommonDivisor_3 : decode cX9_greatestCommonDivisor 3 = .ok (.iconst 1, 1) := by decide +kernel
theorem dX9_greatestCommonDivisor_4 : decode cX9_greatestCommonDivisor 4 = .ok (.if_icmp .le 23, 3) := by decide +kernel
theorem dX9_greatestCommonDivisor_7 : decode cX9_greatestCommonDivisor 7 = .ok (.iload_n 1, 1) := by decide +kernel
theorem dX9_greatestCommonDivisor_8 : decode cX9_greatestCommonDivisor 8 = .ok (.iload_n 2, 1) := by decide +kernel
theorem dX9_greatestCommonDivisor_9 : decode cX9_greatestCommonDivisor 9 = .ok (.irem, 1) := by decide +kernel
theorem dX9_greatestCommonDivisor_10 : decode cX9_greatestCommonDivisor 10 = .ok (.ifCond .ne 11, 3) := by decide +kernel
theorem dX9_greatestCommonDivisor_13 : decode cX9_greatestCommonDivisor 13 = .ok (.iload_n 0, 1) := by decide +kernel
theorem dX9_greatestCommonDivisor_14 : decode cX9_greatestCommonDivisor 14 = .ok (.iload_n 2, 1) := by decide +kernel
theorem dX9_greatestCommonDivisor_15 : decode cX9_greatestCommonDivisor 15 = .ok (.irem, 1) := by decide +kernel
theorem dX9_greatestCommonDivisor_16 : decode cX9_greatestCommonDivisor 16 = .ok (.ifCond .ne 5, 3) := by decide +kernel
theorem dX9_greatestCommonDivisor_19 : decode cX9_greatestCommonDivisor 19 = .ok (.iload_n 2, 1) := by decide +kernel
theorem dX9_greatestCommonDivisor_20 : decode cX9_greatestCommonDivisor 20 = .ok (.ireturn, 1) := by decide +kernel
theorem dX9_greatestCommonDivisor_21 : decode cX9_greatestCommonDivisor 21 = .ok (.iinc 2 (-1), 3) := by decide +kernel
theorem dX9_greatestCommonDivisor_24 : decode cX9_greatestCommonDivisor 24 = .ok (.goto (-22), 3) := by decide +kernel
theorem dX9_greatestCommonDivisor_27 : decode cX9_greatestCommonDivisor 27 = .ok (.iconst 1, 1) := by decide +kernel
theorem dX9_greatestCommonDivisor_28 : decode cX9_greatestCommonDivisor 28 = .ok (.ireturn, 1) := by decide +kernel
theorem dX9_event_0 : decode cX9_event 0 = .ok (.iload_n 1, 1) := by decide +kernel
theorem dX9_event_1 : decode cX9_event 1 = .ok (.iconst (-1), 1) := by decide +kernel
theorem dX9_event_2 : decode cX9_event 2 = .ok (.if_icmp .ne 16, 3) := by decide +kernel
theorem dX9_event_5 : decode cX9_event 5 = .ok (.aload_n 0, 1) := by decide +kernel
theorem dX9_event_6 : decode cX9_event 6 = .ok (.getfield 12, 3) := by decide +kernel
theorem dX9_event_9 : decode cX9_event 9 = .ok (.getfield 279, 3) := by decide +kernel
theorem dX9_event_12 : decode cX9_event 12 = .ok (.iconst 0, 1) := by decide +kernel
theorem dX9_event_13 : decode cX9_event 13 = .ok (.putfield 262, 3) := by decide +kernel
theorem dX9_event_16 : decode cX9_event 16 = .ok (.iconst 0, 1) := by decide +kernel
theorem dX9_event_17 : decode cX9_event 17 = .ok (.ireturn, 1) := by decide +kernel
theorem dX9_event_18 : decode cX9_event 18 = .ok (.iload_n 1, 1) := by decide +kernel
theorem dX9_event_19 : decode cX9_event 19 = .ok (.iconst 2, 1) := by decide +kernel
theorem dX9_event_20 : decode cX9_event 20 = .ok (.if_icmp .ne 10, 3) := by decide +kernel
theorem dX9_event_23 : decode cX9_event 23 = .ok (.iload_n 2, 1) := by decide +kernel
theorem dX9_event_24 : decode cX9_event 24 = .ok (.ifCond .eq 17, 3) := by decide +kernel
theorem dX9_event_27 : decode cX9_event 27 = .ok (.bipush (-2), 2) := by decide +kernel
theorem dX9_event_29 : decode cX9_event 29 = .ok (.ireturn, 1) := by decide +kernel
theorem dX9_event_30 : decode cX9_event 30 = .ok (.aload_n 0, 1) := by decide +kernel
theorem dX9_event_31 : decode cX9_event 31 = .ok (.iload_n 1, 1) := by decide +kernel
theorem dX9_event_32 : decode cX9_event 32 = .ok (.iload_n 2, 1) := by decide +kernel
theorem dX9_event_33 : decode cX9_event 33 = .ok (.invokevirtual 282, 3) := by decide +kernel
theorem dX9_event_36 : decode cX9_event 36 = .ok (.ifCond .ne 5, 3) := by decide +kernel
theorem dX9_event_39 : decode cX9_event 39 = .ok (.iconst (-1), 1) := by decide +kernel
theorem dX9_event_40 : decode cX9_event 40 = .ok (.ireturn, 1) := by decide +kernel
theorem dX9_event_41 : decode cX9_event 41 = .ok (.aload_n 0, 1) := by decide +kernel
theorem dX9_event_42 : decode cX9_event 42 = .ok (.getfield 12, 3) := by decide +kernel
theorem dX9_event_45 : decode cX9_event 45 = .ok (.getfield 279, 3) := by decide +kernel
theorem dX9_event_48 : decode cX9_event 48 = .ok (.iload_n 1, 1) := by decide +kernel
theorem dX9_event_49 : decode cX9_event 49 = .ok (.iload_n 2, 1) := by decide +kernel
theorem dX9_event_50 : decode cX9_event 50 = .ok (.invokevirtual 285, 3) := by decide +kernel
theorem dX9_event_53 : decode cX9_event 53 = .ok (.ifCond .eq 16, 3) := by decide +kernel
theorem dX9_event_56 : decode cX9_event 56 = .ok (.aload_n 0, 1) := by decide +kernel
theorem dX9_event_57 : decode cX9_event 57 = .ok (.getfield 12, 3) := by decide +kernel
theorem dX9_event_60 : decode cX9_event 60 = .ok (.getfield 279, 3) := by decide +kernel
theorem dX9_event_63 : decode cX9_event 63 = .ok (.getfield 262, 3) := by decide +kernel
theorem dX9_event_66 : decode cX9_event 66 = .ok (.goto 5, 3) := by decide +kernel
theorem dX9_event_69 : decode cX9_event 69 = .ok (.bipush (-4), 2) := by decide +kernel
theorem dX9_event_71 : decode cX9_event 71 = .ok (.ireturn, 1) := by decide +kernel
theorem dX9_eventFinds_0 : decode cX9_eventFinds 0 = .ok (.iload_n 1, 1) := by decide +kernel
theorem dX9_eventFinds_1 : decode cX9_eventFinds 1 = .ok (.tableswitch 74 0 3 #[31, 40, 49, 51], 31) := by decide +kernel
theorem dX9_eventFinds_32 : decode cX9_eventFinds 32 = .ok (.aload_n 0, 1) := by decide +kernel
theorem dX9_eventFinds_33 : decode cX9_eventFinds 33 = .ok (.getfield 12, 3) := by decide +kernel
theorem dX9_eventFinds_36 : decode cX9_eventFinds 36 = .ok (.iload_n 2, 1) := by decide +kernel
theorem dX9_eventFinds_37 : decode cX9_eventFinds 37 = .ok (.invokevirtual 75, 3) := by decide +kernel
theorem dX9_eventFinds_40 : decode cX9_eventFinds 40 = .ok (.ireturn, 1) := by decide +kernel
theorem dX9_eventFinds_41 : decode cX9_eventFinds 41 = .ok (.aload_n 0, 1) := by decide +kernel
theorem dX9_eventFinds_42 : decode cX9_eventFinds 42 = .ok (.getfield 12, 3) := by decide +kernel
theorem dX9_eventFinds_45 : decode cX9_eventFinds 45 = .ok (.iload_n 2, 1) := by decide +kernel
theorem dX9_eventFinds_46 : decode cX9_eventFinds 46 = .ok (.invokevirtual 98, 3) := by decide +kernel
theorem dX9_eventFinds_49 : decode cX9_eventFinds 49 = .ok (.ireturn, 1) := by decide +kernel
theorem dX9_eventFinds_50 : decode cX9_eventFinds 50 = .ok (.iconst 1, 1) := by decide +kernel
theorem dX9_eventFinds_51 : decode cX9_eventFinds 51 = .ok (.ireturn, 1) := by decide +kernel
theorem dX9_eventFinds_52 : decode cX9_eventFinds 52 = .ok (.iload_n 2, 1) := by decide +kernel
theorem dX9_eventFinds_53 : decode cX9_eventFinds 53 = .ok (.ifCond .lt 20, 3) := by decide +kernel
theorem dX9_eventFinds_56 : decode cX9_eventFinds 56 = .ok (.iload_n 2, 1) := by decide +kernel
theorem dX9_eventFinds_57 : decode cX9_eventFinds 57 = .ok (.aload_n 0, 1) := by decide +kernel
theorem dX9_eventFinds_58 : decode cX9_eventFinds 58 = .ok (.getfield 12, 3) := by decide +kernel
theorem dX9_eventFinds_61 : decode cX9_eventFinds 61 = .ok (.getfield 67, 3) := by decide +kernel
theorem dX9_eventFinds_64 : decode cX9_eventFinds 64 = .ok (.iconst 1, 1) := by decide +kernel
theorem dX9_eventFinds_65 : decode cX9_eventFinds 65 = .ok (.isub, 1) := by decide +kernel
theorem dX9_eventFinds_66 : decode cX9_eventFinds 66 = .ok (.if_icmp .ge 7, 3) := by decide +kernel
theorem dX9_eventFinds_69 : decode cX9_eventFinds 69 = .ok (.iconst 1, 1) := by decide +kernel
theorem dX9_eventFinds_70 : decode cX9_eventFinds 70 = .ok (.goto 4, 3) := by decide +kernel
theorem dX9_eventFinds_73 : decode cX9_eventFinds 73 = .ok (.iconst 0, 1) := by decide +kernel
theorem dX9_eventFinds_74 : decode cX9_eventFinds 74 = .ok (.ireturn, 1) := by decide +kernel
theorem dX9_eventFinds_75 : decode cX9_eventFinds 75 = .ok (.iconst 0, 1) := by decide +kernel
theorem dX9_eventFinds_76 : decode cX9_eventFinds 76 = .ok (.ireturn, 1) := by decide +kernel
theorem dX9_after_0 : decode cX9_after 0 = .ok (.iload_n 1, 1) := by decide +kernel
theorem dX9_after_1 : decode cX9_after 1 = .ok (.tableswitch 72 0 2 #[27, 32, 54], 27) := by decide +kernel
theorem dX9_after_28 : decode cX9_after 28 = .ok (.aload_n 0, 1) := by decide +kernel
theorem dX9_after_29 : decode cX9_after 29 = .ok (.invokevirtual 287, 3) := by decide +kernel
theorem dX9_after_32 : decode cX9_after 32 = .ok (.ireturn, 1) := by decide +kernel
theorem dX9_after_33 : decode cX9_after 33 = .ok (.aload_n 0, 1) := by decide +kernel
theorem dX9_after_34 : decode cX9_after 34 = .ok (.getfield 41, 3) := by decide +kernel
theorem dX9_after_37 : decode cX9_after 37 = .ok (.aload_n 0, 1) := by decide +kernel
theorem dX9_after_38 : decode cX9_after 38 = .ok (.getfield 12, 3) := by decide +kernel
theorem dX9_after_41 : decode cX9_after 41 = .ok (.getfield 67, 3) := by decide +kernel
theorem dX9_after_44 : decode cX9_after 44 = .ok (.aload_n 0, 1) := by decide +kernel
theorem dX9_after_45 : decode cX9_after 45 = .ok (.invokevirtual 287, 3) := by decide +kernel
theorem dX9_after_48 : decode cX9_after 48 = .ok (.invokevirtual 121, 3) := by decide +kernel
theorem dX9_after_51 : decode cX9_after 51 = .ok (.invokestatic 197, 3) := by decide +kernel
theorem dX9_after_54 : decode cX9_after 54 = .ok (.ireturn, 1) := by decide +kernel
theorem dX9_after_55 : decode cX9_after 55 = .ok (.aload_n 0, 1) := by decide +kernel
theorem dX9_after_56 : decode cX9_after 56 = .ok (.getfield 12, 3) := by decide +kernel
theorem dX9_after_59 : decode cX9_after 59 = .ok (.getfield 67, 3) := by decide +kernel
theorem dX9_after_62 : decode cX9_after 62 = .ok (.aload_n 0, 1) := by decide +kernel
theorem dX9_after_63 : decode cX9_after 63 = .ok (.invokevirtual 287, 3) := by decide +kernel
theorem dX9_after_66 : decode cX9_after 66 = .ok (.invokestatic 201, 3) := by decide +kernel
theorem dX9_after_69 : decode cX9_after 69 = .ok (.invokestatic 197, 3) := by decide +kernel
theorem dX9_after_72 : decode cX9_after 72 = .ok (.ireturn, 1) := by decide +kernel
theorem dX9_after_73 : decode cX9_after 73 = .ok (.iconst (-1), 1) := by decide +kernel
theorem dX9_after_74 : decode cX9_after 74 = .ok (.ireturn, 1) := by decide +kernel
theorem dX9_codeBehindEvents_0 : decode cX9_codeBehindEvents 0 = .ok (.aload_n 0, 1) := by decide +kernel
theorem dX9_codeBehindEvents_1 : decode cX9_codeBehindEvents 1 = .ok (.getfield 12, 3) := by decide +kernel
theorem dX9_codeBehindEvents_4 : decode cX9_codeBehindEvents 4 = .ok (.getfield 82, 3) := by decide +kernel
theorem dX9_codeBehindEvents_7 : decode cX9_codeBehindEvents 7 = .ok (.istore_n 1, 1) := by decide +kernel
theorem dX9_codeBehindEvents_8 : decode cX9_codeBehindEvents 8 = .ok (.iconst 0, 1) := by decide +kernel
theorem dX9_codeBehindEvents_9 : decode cX9_codeBehindEvents 9 = .ok (.istore_n 2, 1) := by decide +kernel
theorem dX9_codeBehindEvents_10 : decode cX9_codeBehindEvents 10 = .ok (.iload_n 2, 1) := by decide +kernel
theorem dX9_codeBehindEvents_11 : decode cX9_codeBehindEvents 11 = .ok (.aload_n 0, 1) := by decide +kernel
theorem dX9_codeBehindEvents_12 : decode cX9_codeBehindEvents 12 = .ok (.getfield 12, 3) := by decide +kernel
theorem dX9_codeBehindEvents_15 : decode cX9_codeBehindEvents 15 = .ok (.getfield 279, 3) := by decide +kernel
theorem dX9_codeBehindEvents_18 : decode cX9_codeBehindEvents 18 = .ok (.getfield 262, 3) := by decide +kernel
theorem dX9_codeBehindEvents_21 : decode cX9_codeBehindEvents 21 = .ok (.if_icmp .ge 55, 3) := by decide +kernel
theorem dX9_codeBehindEvents_24 : decode cX9_codeBehindEvents 24 = .ok (.aload_n 0, 1) := by decide +kernel
theorem dX9_codeBehindEvents_25 : decode cX9_codeBehindEvents 25 = .ok (.getfield 12, 3) := by decide +kernel
theorem dX9_codeBehindEvents_28 : decode cX9_codeBehindEvents 28 = .ok (.getfield 279, 3) := by decide +kernel
theorem dX9_codeBehindEvents_31 : decode cX9_codeBehindEvents 31 = .ok (.getfield 265, 3) := by decide +kernel
theorem dX9_codeBehindEvents_34 : decode cX9_codeBehindEvents 34 = .ok (.iload_n 2, 1) := by decide +kernel
theorem dX9_codeBehindEvents_35 : decode cX9_codeBehindEvents 35 = .ok (.iaload, 1) := by decide +kernel
theorem dX9_codeBehindEvents_36 : decode cX9_codeBehindEvents 36 = .ok (.istore_n 3, 1) := by decide +kernel
theorem dX9_codeBehindEvents_37 : decode cX9_codeBehindEvents 37 = .ok (.aload_n 0, 1) := by decide +kernel
theorem dX9_codeBehindEvents_38 : decode cX9_codeBehindEvents 38 = .ok (.getfield 12, 3) := by decide +kernel
theorem dX9_codeBehindEvents_41 : decode cX9_codeBehindEvents 41 = .ok (.getfield 279, 3) := by decide +kernel
theorem dX9_codeBehindEvents_44 : decode cX9_codeBehindEvents 44 = .ok (.getfield 266, 3) := by decide +kernel
theorem dX9_codeBehindEvents_47 : decode cX9_codeBehindEvents 47 = .ok (.iload_n 2, 1) := by decide +kernel
theorem dX9_codeBehindEvents_48 : decode cX9_codeBehindEvents 48 = .ok (.iaload, 1) := by decide +kernel
theorem dX9_codeBehindEvents_49 : decode cX9_codeBehindEvents 49 = .ok (.istore 4, 2) := by decide +kernel
theorem dX9_codeBehindEvents_51 : decode cX9_codeBehindEvents 51 = .ok (.aload_n 0, 1) := by decide +kernel
theorem dX9_codeBehindEvents_52 : decode cX9_codeBehindEvents 52 = .ok (.iload_n 3, 1) := by decide +kernel
theorem dX9_codeBehindEvents_53 : decode cX9_codeBehindEvents 53 = .ok (.iload 4, 2) := by decide +kernel
theorem dX9_codeBehindEvents_55 : decode cX9_codeBehindEvents 55 = .ok (.invokevirtual 282, 3) := by decide +kernel
theorem dX9_codeBehindEvents_58 : decode cX9_codeBehindEvents 58 = .ok (.ifCond .eq 12, 3) := by decide +kernel
theorem dX9_codeBehindEvents_61 : decode cX9_codeBehindEvents 61 = .ok (.aload_n 0, 1) := by decide +kernel
theorem dX9_codeBehindEvents_62 : decode cX9_codeBehindEvents 62 = .ok (.iload_n 1, 1) := by decide +kernel
theorem dX9_codeBehindEvents_63 : decode cX9_codeBehindEvents 63 = .ok (.iload_n 3, 1) := by decide +kernel
theorem dX9_codeBehindEvents_64 : decode cX9_codeBehindEvents 64 = .ok (.iload 4, 2) := by decide +kernel
theorem dX9_codeBehindEvents_66 : decode cX9_codeBehindEvents 66 = .ok (.invokevirtual 290, 3) := by decide +kernel
theorem dX9_codeBehindEvents_69 : decode cX9_codeBehindEvents 69 = .ok (.istore_n 1, 1) := by decide +kernel
theorem dX9_codeBehindEvents_70 : decode cX9_codeBehindEvents 70 = .ok (.iinc 2 1, 3) := by decide +kernel
theorem dX9_codeBehindEvents_73 : decode cX9_codeBehindEvents 73 = .ok (.goto (-63), 3) := by decide +kernel
theorem dX9_codeBehindEvents_76 : decode cX9_codeBehindEvents 76 = .ok (.iload_n 1, 1) := by decide +kernel
theorem dX9_codeBehindEvents_77 : decode cX9_codeBehindEvents 77 = .ok (.ireturn, 1) := by decide +kernel
theorem dX9_codeBehind_0 : decode cX9_codeBehind 0 = .ok (.iload_n 2, 1) := by decide +kernel
theorem dX9_codeBehind_1 : decode cX9_codeBehind 1 = .ok (.tableswitch 51 0 2 #[27, 33, 39], 27) := by decide +kernel
theorem dX9_codeBehind_28 : decode cX9_codeBehind 28 = .ok (.iload_n 1, 1) := by decide +kernel
theorem dX9_codeBehind_29 : decode cX9_codeBehind 29 = .ok (.iload_n 3, 1) := by decide +kernel
theorem dX9_codeBehind_30 : decode cX9_codeBehind 30 = .ok (.invokestatic 91, 3) := by decide +kernel
theorem dX9_codeBehind_33 : decode cX9_codeBehind 33 = .ok (.ireturn, 1) := by decide +kernel
theorem dX9_codeBehind_34 : decode cX9_codeBehind 34 = .ok (.iload_n 1, 1) := by decide +kernel
theorem dX9_codeBehind_35 : decode cX9_codeBehind 35 = .ok (.iload_n 3, 1) := by decide +kernel
theorem dX9_codeBehind_36 : decode cX9_codeBehind 36 = .ok (.invokestatic 131, 3) := by decide +kernel
theorem dX9_codeBehind_39 : decode cX9_codeBehind 39 = .ok (.ireturn, 1) := by decide +kernel
theorem dX9_codeBehind_40 : decode cX9_codeBehind 40 = .ok (.aload_n 0, 1) := by decide +kernel
theorem dX9_codeBehind_41 : decode cX9_codeBehind 41 = .ok (.getfield 12, 3) := by decide +kernel
theorem dX9_codeBehind_44 : decode cX9_codeBehind 44 = .ok (.getfield 67, 3) := by decide +kernel
theorem dX9_codeBehind_47 : decode cX9_codeBehind 47 = .ok (.iload_n 1, 1) := by decide +kernel
theorem dX9_codeBehind_48 : decode cX9_codeBehind 48 = .ok (.invokestatic 112, 3) := by decide +kernel
theorem dX9_codeBehind_51 : decode cX9_codeBehind 51 = .ok (.ireturn, 1) := by decide +kernel
theorem dX9_codeBehind_52 : decode cX9_codeBehind 52 = .ok (.iload_n 1, 1) := by decide +kernel
theorem dX9_codeBehind_53 : decode cX9_codeBehind 53 = .ok (.iload_n 3, 1) := by decide +kernel
theorem dX9_codeBehind_54 : decode cX9_codeBehind 54 = .ok (.iload_n 3, 1) := by decide +kernel
theorem dX9_codeBehind_55 : decode cX9_codeBehind 55 = .ok (.iconst 1, 1) := by decide +kernel
theorem dX9_codeBehind_56 : decode cX9_codeBehind 56 = .ok (.iadd, 1) := by decide +kernel
theorem dX9_codeBehind_57 : decode cX9_codeBehind 57 = .ok (.invokestatic 134, 3) := by decide +kernel
theorem dX9_codeBehind_60 : decode cX9_codeBehind 60 = .ok (.ireturn, 1) := by decide +kernel
theorem dX9_book_0 : decode cX9_book 0 = .ok (.aload_n 0, 1) := by decide +kernel
theorem dX9_book_1 : decode cX9_book 1 = .ok (.aload_n 0, 1) := by decide +kernel
theorem dX9_book_2 : decode cX9_book 2 = .ok (.getfield 12, 3) := by decide +kernel
theorem dX9_book_5 : decode cX9_book 5 = .ok (.getfield 293, 3) := by decide +kernel
theorem dX9_book_8 : decode cX9_book 8 = .ok (.iload_n 1, 1) := by decide +kernel
theorem dX9_book_9 : decode cX9_book 9 = .ok (.iload_n 2, 1) := by decide +kernel
theorem dX9_book_10 : decode cX9_book 10 = .ok (.invokevirtual 247, 3) := by decide +kernel
theorem dX9_book_13 : decode cX9_book 13 = .ok (.ireturn, 1) := by decide +kernel
theorem dX9_looked_0 : decode cX9_looked 0 = .ok (.iconst 0, 1) := by decide +kernel
theorem dX9_looked_1 : decode cX9_looked 1 = .ok (.istore_n 1, 1) := by decide +kernel
theorem dX9_looked_2 : decode cX9_looked 2 = .ok (.iload_n 1, 1) := by decide +kernel
theorem dX9_looked_3 : decode cX9_looked 3 = .ok (.aload_n 0, 1) := by decide +kernel
theorem dX9_looked_4 : decode cX9_looked 4 = .ok (.getfield 12, 3) := by decide +kernel
theorem dX9_looked_7 : decode cX9_looked 7 = .ok (.getfield 293, 3) := by decide +kernel
theorem dX9_looked_10 : decode cX9_looked 10 = .ok (.getfield 262, 3) := by decide +kernel
theorem dX9_looked_13 : decode cX9_looked 13 = .ok (.if_icmp .ge 61, 3) := by decide +kernel
theorem dX9_looked_16 : decode cX9_looked 16 = .ok (.aload_n 0, 1) := by decide +kernel
theorem dX9_looked_17 : decode cX9_looked 17 = .ok (.getfield 12, 3) := by decide +kernel
theorem dX9_looked_20 : decode cX9_looked 20 = .ok (.getfield 293, 3) := by decide +kernel
theorem dX9_looked_23 : decode cX9_looked 23 = .ok (.getfield 265, 3) := by decide +kernel
theorem dX9_looked_26 : decode cX9_looked 26 = .ok (.iload_n 1, 1) := by decide +kernel
theorem dX9_looked_27 : decode cX9_looked 27 = .ok (.iaload, 1) := by decide +kernel
theorem dX9_looked_28 : decode cX9_looked 28 = .ok (.istore_n 2, 1) := by decide +kernel
theorem dX9_looked_29 : decode cX9_looked 29 = .ok (.aload_n 0, 1) := by decide +kernel
theorem dX9_looked_30 : decode cX9_looked 30 = .ok (.getfield 12, 3) := by decide +kernel
theorem dX9_looked_33 : decode cX9_looked 33 = .ok (.iload_n 2, 1) := by decide +kernel
theorem dX9_looked_34 : decode cX9_looked 34 = .ok (.invokevirtual 75, 3) := by decide +kernel
theorem dX9_looked_37 : decode cX9_looked 37 = .ok (.ifCond .eq 29, 3) := by decide +kernel
theorem dX9_looked_40 : decode cX9_looked 40 = .ok (.aload_n 0, 1) := by decide +kernel
theorem dX9_looked_41 : decode cX9_looked 41 = .ok (.getfield 12, 3) := by decide +kernel
theorem dX9_looked_44 : decode cX9_looked 44 = .ok (.getfield 82, 3) := by decide +kernel
theorem dX9_looked_47 : decode cX9_looked 47 = .ok (.iload_n 2, 1) := by decide +kernel
theorem dX9_looked_48 : decode cX9_looked 48 = .ok (.invokestatic 85, 3) := by decide +kernel
theorem dX9_looked_51 : decode cX9_looked 51 = .ok (.aload_n 0, 1) := by decide +kernel
theorem dX9_looked_52 : decode cX9_looked 52 = .ok (.getfield 12, 3) := by decide +kernel
theorem dX9_looked_55 : decode cX9_looked 55 = .ok (.getfield 293, 3) := by decide +kernel
theorem dX9_looked_58 : decode cX9_looked 58 = .ok (.getfield 266, 3) := by decide +kernel
theorem dX9_looked_61 : decode cX9_looked 61 = .ok (.iload_n 1, 1) := by decide +kernel
theorem dX9_looked_62 : decode cX9_looked 62 = .ok (.iaload, 1) := by decide +kernel
theorem dX9_looked_63 : decode cX9_looked 63 = .ok (.if_icmp .eq 5, 3) := by decide +kernel
theorem dX9_looked_66 : decode cX9_looked 66 = .ok (.iload_n 1, 1) := by decide +kernel
theorem dX9_looked_67 : decode cX9_looked 67 = .ok (.ireturn, 1) := by decide +kernel
theorem dX9_looked_68 : decode cX9_looked 68 = .ok (.iinc 1 1, 3) := by decide +kernel
theorem dX9_looked_71 : decode cX9_looked 71 = .ok (.goto (-69), 3) := by decide +kernel
theorem dX9_looked_74 : decode cX9_looked 74 = .ok (.bipush (-5), 2) := by decide +kernel
theorem dX9_looked_76 : decode cX9_looked 76 = .ok (.ireturn, 1) := by decide +kernel
theorem dX9_addSaying_0 : decode cX9_addSaying 0 = .ok (.iload_n 2, 1) := by decide +kernel
theorem dX9_addSaying_1 : decode cX9_addSaying 1 = .ok (.iconst (-1), 1) := by decide +kernel
theorem dX9_addSaying_2 : decode cX9_addSaying 2 = .ok (.if_icmp .ne 10, 3) := by decide +kernel
theorem dX9_addSaying_5 : decode cX9_addSaying 5 = .ok (.aload_n 1, 1) := by decide +kernel
theorem dX9_addSaying_6 : decode cX9_addSaying 6 = .ok (.iconst 0, 1) := by decide +kernel
theorem dX9_addSaying_7 : decode cX9_addSaying 7 = .ok (.putfield 262, 3) := by decide +kernel
theorem dX9_addSaying_10 : decode cX9_addSaying 10 = .ok (.iconst 0, 1) := by decide +kernel
theorem dX9_addSaying_11 : decode cX9_addSaying 11 = .ok (.ireturn, 1) := by decide +kernel
theorem dX9_addSaying_12 : decode cX9_addSaying 12 = .ok (.aload_n 0, 1) := by decide +kernel
theorem dX9_addSaying_13 : decode cX9_addSaying 13 = .ok (.getfield 12, 3) := by decide +kernel
theorem dX9_addSaying_16 : decode cX9_addSaying 16 = .ok (.iload_n 2, 1) := by decide +kernel
theorem dX9_addSaying_17 : decode cX9_addSaying 17 = .ok (.invokevirtual 75, 3) := by decide +kernel
theorem dX9_addSaying_20 : decode cX9_addSaying 20 = .ok (.ifCond .ne 5, 3) := by decide +kernel
theorem dX9_addSaying_23 : decode cX9_addSaying 23 = .ok (.iconst (-1), 1) := by decide +kernel
theorem dX9_addSaying_24 : decode cX9_addSaying 24 = .ok (.ireturn, 1) := by decide +kernel
theorem dX9_addSaying_25 : decode cX9_addSaying 25 = .ok (.iload_n 3, 1) := by decide +kernel
theorem dX9_addSaying_26 : decode cX9_addSaying 26 = .ok (.invokestatic 79, 3) := by decide +kernel
theorem dX9_addSaying_29 : decode cX9_addSaying 29 = .ok (.ifCond .ne 6, 3) := by decide +kernel
theorem dX9_addSaying_32 : decode cX9_addSaying 32 = .ok (.bipush (-2), 2) := by decide +kernel
theorem dX9_addSaying_34 : decode cX9_addSaying 34 = .ok (.ireturn, 1) := by decide +kernel
theorem dX9_addSaying_35 : decode cX9_addSaying 35 = .ok (.aload_n 1, 1) := by decide +kernel
theorem dX9_addSaying_36 : decode cX9_addSaying 36 = .ok (.iload_n 2, 1) := by decide +kernel
theorem dX9_addSaying_37 : decode cX9_addSaying 37 = .ok (.iload_n 3, 1) := by decide +kernel
theorem dX9_addSaying_38 : decode cX9_addSaying 38 = .ok (.invokevirtual 285, 3) := by decide +kernel
theorem dX9_addSaying_41 : decode cX9_addSaying 41 = .ok (.ifCond .eq 10, 3) := by decide +kernel
theorem dX9_addSaying_44 : decode cX9_addSaying 44 = .ok (.aload_n 1, 1) := by decide +kernel
theorem dX9_addSaying_45 : decode cX9_addSaying 45 = .ok (.getfield 262, 3) := by decide +kernel
theorem dX9_addSaying_48 : decode cX9_addSaying 48 = .ok (.goto 5, 3) := by decide +kernel
theorem dX9_addSaying_51 : decode cX9_addSaying 51 = .ok (.bipush (-4), 2) := by decide +kernel
theorem dX9_addSaying_53 : decode cX9_addSaying 53 = .ok (.ireturn, 1) := by decide +kernel
theorem dX9_judge_0 : decode cX9_judge 0 = .ok (.iload_n 1, 1) := by decide +kernel
theorem dX9_judge_1 : decode cX9_judge 1 = .ok (.invokestatic 296, 3) := by decide +kernel
theorem dX9_judge_4 : decode cX9_judge 4 = .ok (.ifCond .ne 5, 3) := by decide +kernel
theorem dX9_judge_7 : decode cX9_judge 7 = .ok (.iconst (-1), 1) := by decide +kernel
theorem dX9_judge_8 : decode cX9_judge 8 = .ok (.ireturn, 1) := by decide +kernel
theorem dX9_judge_9 : decode cX9_judge 9 = .ok (.aload_n 0, 1) := by decide +kernel
theorem dX9_judge_10 : decode cX9_judge 10 = .ok (.getfield 34, 3) := by decide +kernel
theorem dX9_judge_13 : decode cX9_judge 13 = .ok (.iload_n 1, 1) := by decide +kernel
theorem dX9_judge_14 : decode cX9_judge 14 = .ok (.aaload, 1) := by decide +kernel
theorem dX9_judge_15 : decode cX9_judge 15 = .ok (.astore_n 3, 1) := by decide +kernel
theorem dX9_judge_16 : decode cX9_judge 16 = .ok (.aload_n 3, 1) := by decide +kernel
theorem dX9_judge_17 : decode cX9_judge 17 = .ok (.invokevirtual 299, 3) := by decide +kernel
theorem dX9_judge_20 : decode cX9_judge 20 = .ok (.ifCond .eq 6, 3) := by decide +kernel
theorem dX9_judge_23 : decode cX9_judge 23 = .ok (.bipush 100, 2) := by decide +kernel
theorem dX9_judge_25 : decode cX9_judge 25 = .ok (.ireturn, 1) := by decide +kernel
theorem dX9_judge_26 : decode cX9_judge 26 = .ok (.aload_n 3, 1) := by decide +kernel
theorem dX9_judge_27 : decode cX9_judge 27 = .ok (.getfield 303, 3) := by decide +kernel
theorem dX9_judge_30 : decode cX9_judge 30 = .ok (.iconst 4, 1) := by decide +kernel
theorem dX9_judge_31 : decode cX9_judge 31 = .ok (.if_icmp .eq 6, 3) := by decide +kernel
theorem dX9_judge_34 : decode cX9_judge 34 = .ok (.bipush (-12), 2) := by decide +kernel
theorem dX9_judge_36 : decode cX9_judge 36 = .ok (.ireturn, 1) := by decide +kernel
theorem dX9_judge_37 : decode cX9_judge 37 = .ok (.iconst 0, 1) := by decide +kernel
theorem dX9_judge_38 : decode cX9_judge 38 = .ok (.istore 4, 2) := by decide +kernel
theorem dX9_judge_40 : decode cX9_judge 40 = .ok (.iload 4, 2) := by decide +kernel
theorem dX9_judge_42 : decode cX9_judge 42 = .ok (.aload_n 0, 1) := by decide +kernel
theorem dX9_judge_43 : decode cX9_judge 43 = .ok (.getfield 12, 3) := by decide +kernel
theorem dX9_judge_46 : decode cX9_judge 46 = .ok (.invokevirtual 237, 3) := by decide +kernel
theorem dX9_judge_49 : decode cX9_judge 49 = .ok (.if_icmp .ge 59, 3) := by decide +kernel
theorem dX9_judge_52 : decode cX9_judge 52 = .ok (.iload_n 2, 1) := by decide +kernel
theorem dX9_judge_53 : decode cX9_judge 53 = .ok (.ifCond .lt 14, 3) := by decide +kernel
theorem dX9_judge_56 : decode cX9_judge 56 = .ok (.iload_n 2, 1) := by decide +kernel
theorem dX9_judge_57 : decode cX9_judge 57 = .ok (.aload_n 3, 1) := by decide +kernel
theorem dX9_judge_58 : decode cX9_judge 58 = .ok (.getfield 306, 3) := by decide +kernel
theorem dX9_judge_61 : decode cX9_judge 61 = .ok (.iload 4, 2) := by decide +kernel
theorem dX9_judge_63 : decode cX9_judge 63 = .ok (.isub, 1) := by decide +kernel
theorem dX9_judge_64 : decode cX9_judge 64 = .ok (.if_icmp .lt 9, 3) := by decide +kernel
theorem dX9_judge_67 : decode cX9_judge 67 = .ok (.bipush 100, 2) := by decide +kernel
theorem dX9_judge_69 : decode cX9_judge 69 = .ok (.iload 4, 2) := by decide +kernel
theorem dX9_judge_71 : decode cX9_judge 71 = .ok (.iadd, 1) := by decide +kernel
theorem dX9_judge_72 : decode cX9_judge 72 = .ok (.ireturn, 1) := by decide +kernel
theorem dX9_judge_73 : decode cX9_judge 73 = .ok (.aload_n 3, 1) := by decide +kernel
theorem dX9_judge_74 : decode cX9_judge 74 = .ok (.getfield 307, 3) := by decide +kernel
theorem dX9_judge_77 : decode cX9_judge 77 = .ok (.iload_n 2, 1) := by decide +kernel
theorem dX9_judge_78 : decode cX9_judge 78 = .ok (.iload 4, 2) := by decide +kernel
theorem dX9_judge_80 : decode cX9_judge 80 = .ok (.iadd, 1) := by decide +kernel
theorem dX9_judge_81 : decode cX9_judge 81 = .ok (.laload, 1) := by decide +kernel
theorem dX9_judge_82 : decode cX9_judge 82 = .ok (.aload_n 0, 1) := by decide +kernel
theorem dX9_judge_83 : decode cX9_judge 83 = .ok (.getfield 12, 3) := by decide +kernel
theorem dX9_judge_86 : decode cX9_judge 86 = .ok (.getfield 82, 3) := by decide +kernel
theorem dX9_judge_89 : decode cX9_judge 89 = .ok (.iload 4, 2) := by decide +kernel
theorem dX9_judge_91 : decode cX9_judge 91 = .ok (.invokestatic 85, 3) := by decide +kernel
theorem dX9_judge_94 : decode cX9_judge 94 = .ok (.i2l, 1) := by decide +kernel
theorem dX9_judge_95 : decode cX9_judge 95 = .ok (.lcmp, 1) := by decide +kernel
theorem dX9_judge_96 : decode cX9_judge 96 = .ok (.ifCond .eq 6, 3) := by decide +kernel
theorem dX9_judge_99 : decode cX9_judge 99 = .ok (.iload 4, 2) := by decide +kernel
theorem dX9_judge_101 : decode cX9_judge 101 = .ok (.ireturn, 1) := by decide +kernel
theorem dX9_judge_102 : decode cX9_judge 102 = .ok (.iinc 4 1, 3) := by decide +kernel
theorem dX9_judge_105 : decode cX9_judge 105 = .ok (.goto (-65), 3) := by decide +kernel
theorem dX9_judge_108 : decode cX9_judge 108 = .ok (.bipush (-5), 2) := by decide +kernel
theorem dX9_judge_110 : decode cX9_judge 110 = .ok (.ireturn, 1) := by decide +kernel
theorem dX9_image_0 : decode cX9_image 0 = .ok (.aload_n 0, 1) := by decide +kernel
theorem dX9_image_1 : decode cX9_image 1 = .ok (.getfield 18, 3) := by decide +kernel
theorem dX9_image_4 : decode cX9_image 4 = .ok (.aload_n 0, 1) := by decide +kernel
theorem dX9_image_5 : decode cX9_image 5 = .ok (.getfield 12, 3) := by decide +kernel
theorem dX9_image_8 : decode cX9_image 8 = .ok (.invokevirtual 311, 3) := by decide +kernel
theorem dX9_image_11 : decode cX9_image 11 = .ok (.aload_n 0, 1) := by decide +kernel
theorem dX9_image_12 : decode cX9_image 12 = .ok (.iconst 1, 1) := by decide +kernel
theorem dX9_image_13 : decode cX9_image 13 = .ok (.putfield 21, 3) := by decide +kernel
theorem dX9_image_16 : decode cX9_image 16 = .ok (.aload_n 0, 1) := by decide +kernel
theorem dX9_image_17 : decode cX9_image 17 = .ok (.getfield 12, 3) := by decide +kernel
theorem dX9_image_20 : decode cX9_image 20 = .ok (.getfield 82, 3) := by decide +kernel
theorem dX9_image_23 : decode cX9_image 23 = .ok (.ireturn, 1) := by decide +kernel
theorem dX9_undo_0 : decode cX9_undo 0 = .ok (.aload_n 0, 1) := by decide +kernel
theorem dX9_undo_1 : decode cX9_undo 1 = .ok (.getfield 21, 3) := by decide +kernel
theorem dX9_undo_4 : decode cX9_undo 4 = .ok (.ifCond .ne 6, 3) := by decide +kernel
theorem dX9_undo_7 : decode cX9_undo 7 = .ok (.bipush (-3), 2) := by decide +kernel
theorem dX9_undo_9 : decode cX9_undo 9 = .ok (.ireturn, 1) := by decide +kernel
theorem dX9_undo_10 : decode cX9_undo 10 = .ok (.aload_n 0, 1) := by decide +kernel
theorem dX9_undo_11 : decode cX9_undo 11 = .ok (.getfield 12, 3) := by decide +kernel
theorem dX9_undo_14 : decode cX9_undo 14 = .ok (.aload_n 0, 1) := by decide +kernel
theorem dX9_undo_15 : decode cX9_undo 15 = .ok (.getfield 18, 3) := by decide +kernel
theorem dX9_undo_18 : decode cX9_undo 18 = .ok (.invokevirtual 311, 3) := by decide +kernel
theorem dX9_undo_21 : decode cX9_undo 21 = .ok (.aload_n 0, 1) := by decide +kernel
theorem dX9_undo_22 : decode cX9_undo 22 = .ok (.getfield 12, 3) := by decide +kernel
theorem dX9_undo_25 : decode cX9_undo 25 = .ok (.getfield 82, 3) := by decide +kernel
theorem dX9_undo_28 : decode cX9_undo 28 = .ok (.ireturn, 1) := by decide +kernel
theorem dX9_count_0 : decode cX9_count 0 = .ok (.iload_n 1, 1) := by decide +kernel
theorem dX9_count_1 : decode cX9_count 1 = .ok (.tableswitch 72 0 3 #[31, 42, 53, 64], 31) := by decide +kernel
theorem dX9_count_32 : decode cX9_count 32 = .ok (.aload_n 0, 1) := by decide +kernel
theorem dX9_count_33 : decode cX9_count 33 = .ok (.getfield 12, 3) := by decide +kernel
theorem dX9_count_36 : decode cX9_count 36 = .ok (.getfield 243, 3) := by decide +kernel
theorem dX9_count_39 : decode cX9_count 39 = .ok (.getfield 262, 3) := by decide +kernel
theorem dX9_count_42 : decode cX9_count 42 = .ok (.ireturn, 1) := by decide +kernel
theorem dX9_count_43 : decode cX9_count 43 = .ok (.aload_n 0, 1) := by decide +kernel
theorem dX9_count_44 : decode cX9_count 44 = .ok (.getfield 12, 3) := by decide +kernel
theorem dX9_count_47 : decode cX9_count 47 = .ok (.getfield 279, 3) := by decide +kernel
theorem dX9_count_50 : decode cX9_count 50 = .ok (.getfield 262, 3) := by decide +kernel
theorem dX9_count_53 : decode cX9_count 53 = .ok (.ireturn, 1) := by decide +kernel
theorem dX9_count_54 : decode cX9_count 54 = .ok (.aload_n 0, 1) := by decide +kernel
theorem dX9_count_55 : decode cX9_count 55 = .ok (.getfield 12, 3) := by decide +kernel
theorem dX9_count_58 : decode cX9_count 58 = .ok (.getfield 293, 3) := by decide +kernel
theorem dX9_count_61 : decode cX9_count 61 = .ok (.getfield 262, 3) := by decide +kernel
theorem dX9_count_64 : decode cX9_count 64 = .ok (.ireturn, 1) := by decide +kernel
theorem dX9_count_65 : decode cX9_count 65 = .ok (.aload_n 0, 1) := by decide +kernel
theorem dX9_count_66 : decode cX9_count 66 = .ok (.getfield 28, 3) := by decide +kernel
theorem dX9_count_69 : decode cX9_count 69 = .ok (.getfield 144, 3) := by decide +kernel
theorem dX9_count_72 : decode cX9_count 72 = .ok (.ireturn, 1) := by decide +kernel
theorem dX9_count_73 : decode cX9_count 73 = .ok (.bipush (-2), 2) := by decide +kernel
theorem dX9_count_75 : decode cX9_count 75 = .ok (.ireturn, 1) := by decide +kernel
theorem dX9_tape_0 : decode cX9_tape 0 = .ok (.iload_n 1, 1) := by decide +kernel
theorem dX9_tape_1 : decode cX9_tape 1 = .ok (.invokestatic 296, 3) := by decide +kernel
theorem dX9_tape_4 : decode cX9_tape 4 = .ok (.ifCond .ne 5, 3) := by decide +kernel
theorem dX9_tape_7 : decode cX9_tape 7 = .ok (.iconst (-1), 1) := by decide +kernel
theorem dX9_tape_8 : decode cX9_tape 8 = .ok (.ireturn, 1) := by decide +kernel
theorem dX9_tape_9 : decode cX9_tape 9 = .ok (.iload_n 2, 1) := by decide +kernel
theorem dX9_tape_10 : decode cX9_tape 10 = .ok (.iconst (-1), 1) := by decide +kernel
theorem dX9_tape_11 : decode cX9_tape 11 = .ok (.if_icmp .ne 16, 3) := by decide +kernel
theorem dX9_tape_14 : decode cX9_tape 14 = .ok (.aload_n 0, 1) := by decide +kernel
theorem dX9_tape_15 : decode cX9_tape 15 = .ok (.getfield 34, 3) := by decide +kernel
theorem dX9_tape_18 : decode cX9_tape 18 = .ok (.iload_n 1, 1) := by decide +kernel
theorem dX9_tape_19 : decode cX9_tape 19 = .ok (.aaload, 1) := by decide +kernel
theorem dX9_tape_20 : decode cX9_tape 20 = .ok (.iconst (-1), 1) := by decide +kernel
theorem dX9_tape_21 : decode cX9_tape 21 = .ok (.iconst 0, 1) := by decide +kernel
theorem dX9_tape_22 : decode cX9_tape 22 = .ok (.invokevirtual 315, 3) := by decide +kernel
theorem dX9_tape_25 : decode cX9_tape 25 = .ok (.iconst 1, 1) := by decide +kernel
theorem dX9_tape_26 : decode cX9_tape 26 = .ok (.ireturn, 1) := by decide +kernel
theorem dX9_tape_27 : decode cX9_tape 27 = .ok (.iload_n 2, 1) := by decide +kernel
theorem dX9_tape_28 : decode cX9_tape 28 = .ok (.ifCond .lt 14, 3) := by decide +kernel
theorem dX9_tape_31 : decode cX9_tape 31 = .ok (.iload_n 2, 1) := by decide +kernel
theorem dX9_tape_32 : decode cX9_tape 32 = .ok (.iconst 4, 1) := by decide +kernel
theorem dX9_tape_33 : decode cX9_tape 33 = .ok (.if_icmp .gt 9, 3) := by decide +kernel
theorem dX9_tape_36 : decode cX9_tape 36 = .ok (.iload_n 3, 1) := by decide +kernel
theorem dX9_tape_37 : decode cX9_tape 37 = .ok (.bipush 60, 2) := by decide +kernel
theorem dX9_tape_39 : decode cX9_tape 39 = .ok (.if_icmp .le 6, 3) := by decide +kernel
theorem dX9_tape_42 : decode cX9_tape 42 = .ok (.bipush (-2), 2) := by decide +kernel
theorem dX9_tape_44 : decode cX9_tape 44 = .ok (.ireturn, 1) := by decide +kernel
theorem dX9_tape_45 : decode cX9_tape 45 = .ok (.iload_n 3, 1) := by decide +kernel
theorem dX9_tape_46 : decode cX9_tape 46 = .ok (.ifCond .ge 6, 3) := by decide +kernel
theorem dX9_tape_49 : decode cX9_tape 49 = .ok (.bipush (-14), 2) := by decide +kernel
theorem dX9_tape_51 : decode cX9_tape 51 = .ok (.ireturn, 1) := by decide +kernel
theorem dX9_tape_52 : decode cX9_tape 52 = .ok (.aload_n 0, 1) := by decide +kernel
theorem dX9_tape_53 : decode cX9_tape 53 = .ok (.getfield 34, 3) := by decide +kernel
theorem dX9_tape_56 : decode cX9_tape 56 = .ok (.iload_n 1, 1) := by decide +kernel
theorem dX9_tape_57 : decode cX9_tape 57 = .ok (.aaload, 1) := by decide +kernel
theorem dX9_tape_58 : decode cX9_tape 58 = .ok (.iload_n 2, 1) := by decide +kernel
theorem dX9_tape_59 : decode cX9_tape 59 = .ok (.iload_n 3, 1) := by decide +kernel
theorem dX9_tape_60 : decode cX9_tape 60 = .ok (.invokevirtual 315, 3) := by decide +kernel
theorem dX9_tape_63 : decode cX9_tape 63 = .ok (.iconst 1, 1) := by decide +kernel
theorem dX9_tape_64 : decode cX9_tape 64 = .ok (.ireturn, 1) := by decide +kernel
theorem dX9_item_0 : decode cX9_item 0 = .ok (.iload_n 1, 1) := by decide +kernel
theorem dX9_item_1 : decode cX9_item 1 = .ok (.invokestatic 296, 3) := by decide +kernel
theorem dX9_item_4 : decode cX9_item 4 = .ok (.ifCond .ne 5, 3) := by decide +kernel
theorem dX9_item_7 : decode cX9_item 7 = .ok (.iconst (-1), 1) := by decide +kernel
theorem dX9_item_8 : decode cX9_item 8 = .ok (.ireturn, 1) := by decide +kernel
theorem dX9_item_9 : decode cX9_item 9 = .ok (.aload_n 0, 1) := by decide +kernel
theorem dX9_item_10 : decode cX9_item 10 = .ok (.getfield 34, 3) := by decide +kernel
theorem dX9_item_13 : decode cX9_item 13 = .ok (.iload_n 1, 1) := by decide +kernel
theorem dX9_item_14 : decode cX9_item 14 = .ok (.aaload, 1) := by decide +kernel
theorem dX9_item_15 : decode cX9_item 15 = .ok (.astore 5, 2) := by decide +kernel
theorem dX9_item_17 : decode cX9_item 17 = .ok (.aload 5, 2) := by decide +kernel
theorem dX9_item_19 : decode cX9_item 19 = .ok (.invokevirtual 299, 3) := by decide +kernel
theorem dX9_item_22 : decode cX9_item 22 = .ok (.ifCond .eq 6, 3) := by decide +kernel
theorem dX9_item_25 : decode cX9_item 25 = .ok (.bipush (-11), 2) := by decide +kernel
theorem dX9_item_27 : decode cX9_item 27 = .ok (.ireturn, 1) := by decide +kernel
theorem dX9_item_28 : decode cX9_item 28 = .ok (.aload 5, 2) := by decide +kernel
theorem dX9_item_30 : decode cX9_item 30 = .ok (.iload_n 2, 1) := by decide +kernel
theorem dX9_item_31 : decode cX9_item 31 = .ok (.invokevirtual 318, 3) := by decide +kernel
theorem dX9_item_34 : decode cX9_item 34 = .ok (.ifCond .ne 6, 3) := by decide +kernel
theorem dX9_item_37 : decode cX9_item 37 = .ok (.bipush (-13), 2) := by decide +kernel
theorem dX9_item_39 : decode cX9_item 39 = .ok (.ireturn, 1) := by decide +kernel
theorem dX9_item_40 : decode cX9_item 40 = .ok (.aload 5, 2) := by decide +kernel
theorem dX9_item_42 : decode cX9_item 42 = .ok (.getfield 307, 3) := by decide +kernel
theorem dX9_item_45 : decode cX9_item 45 = .ok (.iload_n 2, 1) := by decide +kernel
theorem dX9_item_46 : decode cX9_item 46 = .ok (.aload 5, 2) := by decide +kernel
theorem dX9_item_48 : decode cX9_item 48 = .ok (.lload_n 3, 1) := by decide +kernel
theorem dX9_item_49 : decode cX9_item 49 = .ok (.invokevirtual 321, 3) := by decide +kernel
theorem dX9_item_52 : decode cX9_item 52 = .ok (.lastore, 1) := by decide +kernel
theorem dX9_item_53 : decode cX9_item 53 = .ok (.iconst 1, 1) := by decide +kernel
theorem dX9_item_54 : decode cX9_item 54 = .ok (.ireturn, 1) := by decide +kernel
theorem dX9_peek_0 : decode cX9_peek 0 = .ok (.iload_n 1, 1) := by decide +kernel
theorem dX9_peek_1 : decode cX9_peek 1 = .ok (.invokestatic 296, 3) := by decide +kernel
theorem dX9_peek_4 : decode cX9_peek 4 = .ok (.ifCond .eq 16, 3) := by decide +kernel
theorem dX9_peek_7 : decode cX9_peek 7 = .ok (.aload_n 0, 1) := by decide +kernel
theorem dX9_peek_8 : decode cX9_peek 8 = .ok (.getfield 34, 3) := by decide +kernel
theorem dX9_peek_11 : decode cX9_peek 11 = .ok (.iload_n 1, 1) := by decide +kernel
theorem dX9_peek_12 : decode cX9_peek 12 = .ok (.aaload, 1) := by decide +kernel
theorem dX9_peek_13 : decode cX9_peek 13 = .ok (.iload_n 2, 1) := by decide +kernel
theorem dX9_peek_14 : decode cX9_peek 14 = .ok (.invokevirtual 318, 3) := by decide +kernel
theorem dX9_peek_17 : decode cX9_peek 17 = .ok (.ifCond .ne 7, 3) := by decide +kernel
theorem dX9_peek_20 : decode cX9_peek 20 = .ok (.ldc2_w 270, 3) := by decide +kernel
theorem dX9_peek_23 : decode cX9_peek 23 = .ok (.lreturn, 1) := by decide +kernel
theorem dX9_peek_24 : decode cX9_peek 24 = .ok (.aload_n 0, 1) := by decide +kernel
theorem dX9_peek_25 : decode cX9_peek 25 = .ok (.getfield 34, 3) := by decide +kernel
theorem dX9_peek_28 : decode cX9_peek 28 = .ok (.iload_n 1, 1) := by decide +kernel
theorem dX9_peek_29 : decode cX9_peek 29 = .ok (.aaload, 1) := by decide +kernel
theorem dX9_peek_30 : decode cX9_peek 30 = .ok (.getfield 307, 3) := by decide +kernel
theorem dX9_peek_33 : decode cX9_peek 33 = .ok (.iload_n 2, 1) := by decide +kernel
theorem dX9_peek_34 : decode cX9_peek 34 = .ok (.laload, 1) := by decide +kernel
theorem dX9_peek_35 : decode cX9_peek 35 = .ok (.lreturn, 1) := by decide +kernel
theorem dX9_shift_0 : decode cX9_shift 0 = .ok (.iload_n 1, 1) := by decide +kernel
theorem dX9_shift_1 : decode cX9_shift 1 = .ok (.invokestatic 296, 3) := by decide +kernel
theorem dX9_shift_4 : decode cX9_shift 4 = .ok (.ifCond .eq 10, 3) := by decide +kernel
theorem dX9_shift_7 : decode cX9_shift 7 = .ok (.iload_n 3, 1) := by decide +kernel
theorem dX9_shift_8 : decode cX9_shift 8 = .ok (.invokestatic 296, 3) := by decide +kernel
theorem dX9_shift_11 : decode cX9_shift 11 = .ok (.ifCond .ne 5, 3) := by decide +kernel
theorem dX9_shift_14 : decode cX9_shift 14 = .ok (.iconst (-1), 1) := by decide +kernel
theorem dX9_shift_15 : decode cX9_shift 15 = .ok (.ireturn, 1) := by decide +kernel
theorem dX9_shift_16 : decode cX9_shift 16 = .ok (.aload_n 0, 1) := by decide +kernel
theorem dX9_shift_17 : decode cX9_shift 17 = .ok (.getfield 34, 3) := by decide +kernel
theorem dX9_shift_20 : decode cX9_shift 20 = .ok (.iload_n 1, 1) := by decide +kernel
theorem dX9_shift_21 : decode cX9_shift 21 = .ok (.aaload, 1) := by decide +kernel
theorem dX9_shift_22 : decode cX9_shift 22 = .ok (.astore 6, 2) := by decide +kernel
theorem dX9_shift_24 : decode cX9_shift 24 = .ok (.aload_n 0, 1) := by decide +kernel
theorem dX9_shift_25 : decode cX9_shift 25 = .ok (.getfield 34, 3) := by decide +kernel
theorem dX9_shift_28 : decode cX9_shift 28 = .ok (.iload_n 3, 1) := by decide +kernel
theorem dX9_shift_29 : decode cX9_shift 29 = .ok (.aaload, 1) := by decide +kernel
theorem dX9_shift_30 : decode cX9_shift 30 = .ok (.astore 7, 2) := by decide +kernel
theorem dX9_shift_32 : decode cX9_shift 32 = .ok (.aload 6, 2) := by decide +kernel
theorem dX9_shift_34 : decode cX9_shift 34 = .ok (.invokevirtual 299, 3) := by decide +kernel
theorem dX9_shift_37 : decode cX9_shift 37 = .ok (.ifCond .ne 11, 3) := by decide +kernel
theorem dX9_shift_40 : decode cX9_shift 40 = .ok (.aload 7, 2) := by decide +kernel
theorem dX9_shift_42 : decode cX9_shift 42 = .ok (.invokevirtual 299, 3) := by decide +kernel
theorem dX9_shift_45 : decode cX9_shift 45 = .ok (.ifCond .eq 6, 3) := by decide +kernel
theorem dX9_shift_48 : decode cX9_shift 48 = .ok (.bipush (-11), 2) := by decide +kernel
theorem dX9_shift_50 : decode cX9_shift 50 = .ok (.ireturn, 1) := by decide +kernel
theorem dX9_shift_51 : decode cX9_shift 51 = .ok (.aload 6, 2) := by decide +kernel
theorem dX9_shift_53 : decode cX9_shift 53 = .ok (.getfield 303, 3) := by decide +kernel
theorem dX9_shift_56 : decode cX9_shift 56 = .ok (.aload 7, 2) := by decide +kernel
theorem dX9_shift_58 : decode cX9_shift 58 = .ok (.getfield 303, 3) := by decide +kernel
theorem dX9_shift_61 : decode cX9_shift 61 = .ok (.if_icmp .eq 6, 3) := by decide +kernel
theorem dX9_shift_64 : decode cX9_shift 64 = .ok (.bipush (-12), 2) := by decide +kernel
theorem dX9_shift_66 : decode cX9_shift 66 = .ok (.ireturn, 1) := by decide +kernel
theorem dX9_shift_67 : decode cX9_shift 67 = .ok (.aload 6, 2) := by decide +kernel
theorem dX9_shift_69 : decode cX9_shift 69 = .ok (.iload_n 2, 1) := by decide +kernel
theorem dX9_shift_70 : decode cX9_shift 70 = .ok (.iload 5, 2) := by decide +kernel
theorem dX9_shift_72 : decode cX9_shift 72 = .ok (.invokevirtual 325, 3) := by decide +kernel
theorem dX9_shift_75 : decode cX9_shift 75 = .ok (.ifCond .eq 15, 3) := by decide +kernel
theorem dX9_shift_78 : decode cX9_shift 78 = .ok (.aload 7, 2) := by decide +kernel
theorem dX9_shift_80 : decode cX9_shift 80 = .ok (.iload 4, 2) := by decide +kernel
theorem dX9_shift_82 : decode cX9_shift 82 = .ok (.iload 5, 2) := by decide +kernel
theorem dX9_shift_84 : decode cX9_shift 84 = .ok (.invokevirtual 325, 3) := by decide +kernel
theorem dX9_shift_87 : decode cX9_shift 87 = .ok (.ifCond .ne 6, 3) := by decide +kernel
theorem dX9_shift_90 : decode cX9_shift 90 = .ok (.bipush (-13), 2) := by decide +kernel
theorem dX9_shift_92 : decode cX9_shift 92 = .ok (.ireturn, 1) := by decide +kernel
theorem dX9_shift_93 : decode cX9_shift 93 = .ok (.aload 6, 2) := by decide +kernel
theorem dX9_shift_95 : decode cX9_shift 95 = .ok (.getfield 307, 3) := by decide +kernel
theorem dX9_shift_98 : decode cX9_shift 98 = .ok (.iload_n 2, 1) := by decide +kernel
theorem dX9_shift_99 : decode cX9_shift 99 = .ok (.aload 7, 2) := by decide +kernel
theorem dX9_shift_101 : decode cX9_shift 101 = .ok (.getfield 307, 3) := by decide +kernel
theorem dX9_shift_104 : decode cX9_shift 104 = .ok (.iload 4, 2) := by decide +kernel
theorem dX9_shift_106 : decode cX9_shift 106 = .ok (.iload 5, 2) := by decide +kernel
theorem dX9_shift_108 : decode cX9_shift 108 = .ok (.invokestatic 328, 3) := by decide +kernel
theorem dX9_shift_111 : decode cX9_shift 111 = .ok (.iload 5, 2) := by decide +kernel
theorem dX9_shift_113 : decode cX9_shift 113 = .ok (.ireturn, 1) := by decide +kernel
theorem dX9_isTape_0 : decode cX9_isTape 0 = .ok (.iload_n 0, 1) := by decide +kernel
theorem dX9_isTape_1 : decode cX9_isTape 1 = .ok (.ifCond .lt 13, 3) := by decide +kernel
theorem dX9_isTape_4 : decode cX9_isTape 4 = .ok (.iload_n 0, 1) := by decide +kernel
theorem dX9_isTape_5 : decode cX9_isTape 5 = .ok (.bipush 6, 2) := by decide +kernel
theorem dX9_isTape_7 : decode cX9_isTape 7 = .ok (.if_icmp .ge 7, 3) := by decide +kernel
theorem dX9_isTape_10 : decode cX9_isTape 10 = .ok (.iconst 1, 1) := by decide +kernel
theorem dX9_isTape_11 : decode cX9_isTape 11 = .ok (.goto 4, 3) := by decide +kernel
theorem dX9_isTape_14 : decode cX9_isTape 14 = .ok (.iconst 0, 1) := by decide +kernel
theorem dX9_isTape_15 : decode cX9_isTape 15 = .ok (.ireturn, 1) := by decide +kernel
theorem dX9_isYesOrNo_0 : decode cX9_isYesOrNo 0 = .ok (.iload_n 0, 1) := by decide +kernel
theorem dX9_isYesOrNo_1 : decode cX9_isYesOrNo 1 = .ok (.ifCond .eq 8, 3) := by decide +kernel
theorem dX9_isYesOrNo_4 : decode cX9_isYesOrNo 4 = .ok (.iload_n 0, 1) := by decide +kernel
theorem dX9_isYesOrNo_5 : decode cX9_isYesOrNo 5 = .ok (.iconst 1, 1) := by decide +kernel
theorem dX9_isYesOrNo_6 : decode cX9_isYesOrNo 6 = .ok (.if_icmp .ne 7, 3) := by decide +kernel
theorem dX9_isYesOrNo_9 : decode cX9_isYesOrNo 9 = .ok (.iconst 1, 1) := by decide +kernel
theorem dX9_isYesOrNo_10 : decode cX9_isYesOrNo 10 = .ok (.goto 4, 3) := by decide +kernel
theorem dX9_isYesOrNo_13 : decode cX9_isYesOrNo 13 = .ok (.iconst 0, 1) := by decide +kernel
theorem dX9_isYesOrNo_14 : decode cX9_isYesOrNo 14 = .ok (.ireturn, 1) := by decide +kernel
theorem dX9_oneIf_0 : decode cX9_oneIf 0 = .ok (.iload_n 0, 1) := by decide +kernel
theorem dX9_oneIf_1 : decode cX9_oneIf 1 = .ok (.ifCond .eq 7, 3) := by decide +kernel
theorem dX9_oneIf_4 : decode cX9_oneIf 4 = .ok (.iconst 1, 1) := by decide +kernel
theorem dX9_oneIf_5 : decode cX9_oneIf 5 = .ok (.goto 4, 3) := by decide +kernel
theorem dX9_oneIf_8 : decode cX9_oneIf 8 = .ok (.iconst 0, 1) := by decide +kernel
theorem dX9_oneIf_9 : decode cX9_oneIf 9 = .ok (.ireturn, 1) := by decide +kernel
end
section
theorem dX10_init_0 : decode cX10_init 0 = .ok (.aload_n 0, 1) := by decide +kernel
theorem dX10_init_1 : decode cX10_init 1 = .ok (.invokespecial 3, 3) := by decide +kernel
theorem dX10_init_4 : decode cX10_init 4 = .ok (.aload_n 0, 1) := by decide +kernel
theorem dX10_init_5 : decode cX10_init 5 = .ok (.bipush 55, 2) := by decide +kernel
theorem dX10_init_7 : decode cX10_init 7 = .ok (.newarray .int, 2) := by decide +kernel
theorem dX10_init_9 : decode cX10_init 9 = .ok (.putfield 11, 3) := by decide +kernel
theorem dX10_init_12 : decode cX10_init 12 = .ok (.aload_n 0, 1) := by decide +kernel
theorem dX10_init_13 : decode cX10_init 13 = .ok (.bipush 55, 2) := by decide +kernel
theorem dX10_init_15 : decode cX10_init 15 = .ok (.newarray .int, 2) := by decide +kernel
theorem dX10_init_17 : decode cX10_init 17 = .ok (.putfield 15, 3) := by decide +kernel
theorem dX10_init_20 : decode cX10_init 20 = .ok (.aload_n 0, 1) := by decide +kernel
theorem dX10_init_21 : decode cX10_init 21 = .ok (.iconst 4, 1) := by decide +kernel
theorem dX10_init_22 : decode cX10_init 22 = .ok (.newarray .int, 2) := by decide +kernel
theorem dX10_init_24 : decode cX10_init 24 = .ok (.putfield 18, 3) := by decide +kernel
theorem dX10_init_27 : decode cX10_init 27 = .ok (.aload_n 0, 1) := by decide +kernel
theorem dX10_init_28 : decode cX10_init 28 = .ok (.iconst 4, 1) := by decide +kernel
theorem dX10_init_29 : decode cX10_init 29 = .ok (.newarray .int, 2) := by decide +kernel
theorem dX10_init_31 : decode cX10_init 31 = .ok (.putfield 21, 3) := by decide +kernel
theorem dX10_init_34 : decode cX10_init 34 = .ok (.aload_n 0, 1) := by decide +kernel
theorem dX10_init_35 : decode cX10_init 35 = .ok (.ldc 24, 2) := by decide +kernel
theorem dX10_init_37 : decode cX10_init 37 = .ok (.newarray .int, 2) := by decide +kernel
theorem dX10_init_39 : decode cX10_init 39 = .ok (.putfield 25, 3) := by decide +kernel
theorem dX10_init_42 : decode cX10_init 42 = .ok (.aload_n 0, 1) := by decide +kernel
theorem dX10_init_43 : decode cX10_init 43 = .ok (.ldc 24, 2) := by decide +kernel
theorem dX10_init_45 : decode cX10_init 45 = .ok (.newarray .int, 2) := by decide +kernel
theorem dX10_init_47 : decode cX10_init 47 = .ok (.putfield 28, 3) := by decide +kernel
theorem dX10_init_50 : decode cX10_init 50 = .ok (.aload_n 0, 1) := by decide +kernel
theorem dX10_init_51 : decode cX10_init 51 = .ok (.bipush 100, 2) := by decide +kernel
theorem dX10_init_53 : decode cX10_init 53 = .ok (.newarray .int, 2) := by decide +kernel
theorem dX10_init_55 : decode cX10_init 55 = .ok (.putfield 31, 3) := by decide +kernel
theorem dX10_init_58 : decode cX10_init 58 = .ok (.aload_n 0, 1) := by decide +kernel
theorem dX10_init_59 : decode cX10_init 59 = .ok (.iconst 4, 1) := by decide +kernel
theorem dX10_init_60 : decode cX10_init 60 = .ok (.newarray .int, 2) := by decide +kernel
theorem dX10_init_62 : decode cX10_init 62 = .ok (.putfield 34, 3) := by decide +kernel
theorem dX10_init_65 : decode cX10_init 65 = .ok (.aload_n 0, 1) := by decide +kernel
theorem dX10_init_66 : decode cX10_init 66 = .ok (.bipush 6, 2) := by decide +kernel
theorem dX10_init_68 : decode cX10_init 68 = .ok (.newarray .int, 2) := by decide +kernel
theorem dX10_init_70 : decode cX10_init 70 = .ok (.dup, 1) := by decide +kernel
theorem dX10_init_71 : decode cX10_init 71 = .ok (.iconst 0, 1) := by decide +kernel
theorem dX10_init_72 : decode cX10_init 72 = .ok (.iconst (-1), 1) := by decide +kernel
theorem dX10_init_73 : decode cX10_init 73 = .ok (.iastore, 1) := by decide +kernel
theorem dX10_init_74 : decode cX10_init 74 = .ok (.dup, 1) := by decide +kernel
theorem dX10_init_75 : decode cX10_init 75 = .ok (.iconst 1, 1) := by decide +kernel
theorem dX10_init_76 : decode cX10_init 76 = .ok (.iconst (-1), 1) := by decide +kernel
theorem dX10_init_77 : decode cX10_init 77 = .ok (.iastore, 1) := by decide +kernel
theorem dX10_init_78 : decode cX10_init 78 = .ok (.dup, 1) := by decide +kernel
theorem dX10_init_79 : decode cX10_init 79 = .ok (.iconst 2, 1) := by decide +kernel
theorem dX10_init_80 : decode cX10_init 80 = .ok (.iconst (-1), 1) := by decide +kernel
theorem dX10_init_81 : decode cX10_init 81 = .ok (.iastore, 1) := by decide +kernel
theorem dX10_init_82 : decode cX10_init 82 = .ok (.dup, 1) := by decide +kernel
theorem dX10_init_83 : decode cX10_init 83 = .ok (.iconst 3, 1) := by decide +kernel
theorem dX10_init_84 : decode cX10_init 84 = .ok (.iconst (-1), 1) := by decide +kernel
theorem dX10_init_85 : decode cX10_init 85 = .ok (.iastore, 1) := by decide +kernel
theorem dX10_init_86 : decode cX10_init 86 = .ok (.dup, 1) := by decide +kernel
theorem dX10_init_87 : decode cX10_init 87 = .ok (.iconst 4, 1) := by decide +kernel
theorem dX10_init_88 : decode cX10_init 88 = .ok (.iconst (-1), 1) := by decide +kernel
theorem dX10_init_89 : decode cX10_init 89 = .ok (.iastore, 1) := by decide +kernel
theorem dX10_init_90 : decode cX10_init 90 = .ok (.dup, 1) := by decide +kernel
theorem dX10_init_91 : decode cX10_init 91 = .ok (.iconst 5, 1) := by decide +kernel
theorem dX10_init_92 : decode cX10_init 92 = .ok (.iconst (-1), 1) := by decide +kernel
theorem dX10_init_93 : decode cX10_init 93 = .ok (.iastore, 1) := by decide +kernel
theorem dX10_init_94 : decode cX10_init 94 = .ok (.putfield 37, 3) := by decide +kernel
theorem dX10_init_97 : decode cX10_init 97 = .ok (.aload_n 0, 1) := by decide +kernel
theorem dX10_init_98 : decode cX10_init 98 = .ok (.bipush 6, 2) := by decide +kernel
theorem dX10_init_100 : decode cX10_init 100 = .ok (.newarray .int, 2) := by decide +kernel
theorem dX10_init_102 : decode cX10_init 102 = .ok (.putfield 40, 3) := by decide +kernel
theorem dX10_init_105 : decode cX10_init 105 = .ok (.aload_n 0, 1) := by decide +kernel
theorem dX10_init_106 : decode cX10_init 106 = .ok (.bipush 6, 2) := by decide +kernel
theorem dX10_init_108 : decode cX10_init 108 = .ok (.bipush 60, 2) := by decide +kernel
theorem dX10_init_110 : decode cX10_init 110 = .ok (.multianewarray 43 2, 4) := by decide +kernel
theorem dX10_init_114 : decode cX10_init 114 = .ok (.putfield 45, 3) := by decide +kernel
theorem dX10_init_117 : decode cX10_init 117 = .ok (.aload_n 0, 1) := by decide +kernel
theorem dX10_init_118 : decode cX10_init 118 = .ok (.bipush 60, 2) := by decide +kernel
theorem dX10_init_120 : decode cX10_init 120 = .ok (.newarray .long, 2) := by decide +kernel
theorem dX10_init_122 : decode cX10_init 122 = .ok (.putfield 48, 3) := by decide +kernel
theorem dX10_init_125 : decode cX10_init 125 = .ok (.aload_n 0, 1) := by decide +kernel
theorem dX10_init_126 : decode cX10_init 126 = .ok (.iconst 3, 1) := by decide +kernel
theorem dX10_init_127 : decode cX10_init 127 = .ok (.invokevirtual 52, 3) := by decide +kernel
theorem dX10_init_130 : decode cX10_init 130 = .ok (.return_, 1) := by decide +kernel
theorem dX10_in_0 : decode cX10_in 0 = .ok (.lload_n 0, 1) := by decide +kernel
theorem dX10_in_1 : decode cX10_in 1 = .ok (.lload_n 2, 1) := by decide +kernel
theorem dX10_in_2 : decode cX10_in 2 = .ok (.lcmp, 1) := by decide +kernel
theorem dX10_in_3 : decode cX10_in 3 = .ok (.ifCond .lt 14, 3) := by decide +kernel
theorem dX10_in_6 : decode cX10_in 6 = .ok (.lload_n 0, 1) := by decide +kernel
theorem dX10_in_7 : decode cX10_in 7 = .ok (.lload 4, 2) := by decide +kernel
theorem dX10_in_9 : decode cX10_in 9 = .ok (.lcmp, 1) := by decide +kernel
theorem dX10_in_10 : decode cX10_in 10 = .ok (.ifCond .gt 7, 3) := by decide +kernel
theorem dX10_in_13 : decode cX10_in 13 = .ok (.iconst 1, 1) := by decide +kernel
theorem dX10_in_14 : decode cX10_in 14 = .ok (.goto 4, 3) := by decide +kernel
theorem dX10_in_17 : decode cX10_in 17 = .ok (.iconst 0, 1) := by decide +kernel
theorem dX10_in_18 : decode cX10_in 18 = .ok (.ireturn, 1) := by decide +kernel
theorem dX10_starts_0 : decode cX10_starts 0 = .ok (.aload_n 0, 1) := by decide +kernel
theorem dX10_starts_1 : decode cX10_starts 1 = .ok (.getfield 11, 3) := by decide +kernel
theorem dX10_starts_4 : decode cX10_starts 4 = .ok (.iconst 0, 1) := by decide +kernel
theorem dX10_starts_5 : decode cX10_starts 5 = .ok (.iload_n 1, 1) := by decide +kernel
theorem dX10_starts_6 : decode cX10_starts 6 = .ok (.iastore, 1) := by decide +kernel
theorem dX10_starts_7 : decode cX10_starts 7 = .ok (.aload_n 0, 1) := by decide +kernel
theorem dX10_starts_8 : decode cX10_starts 8 = .ok (.getfield 11, 3) := by decide +kernel
theorem dX10_starts_11 : decode cX10_starts 11 = .ok (.iconst 1, 1) := by decide +kernel
theorem dX10_starts_12 : decode cX10_starts 12 = .ok (.iconst 0, 1) := by decide +kernel
theorem dX10_starts_13 : decode cX10_starts 13 = .ok (.iastore, 1) := by decide +kernel
theorem dX10_starts_14 : decode cX10_starts 14 = .ok (.aload_n 0, 1) := by decide +kernel
theorem dX10_starts_15 : decode cX10_starts 15 = .ok (.getfield 11, 3) := by decide +kernel
theorem dX10_starts_18 : decode cX10_starts 18 = .ok (.iconst 2, 1) := by decide +kernel
theorem dX10_starts_19 : decode cX10_starts 19 = .ok (.iconst 0, 1) := by decide +kernel
theorem dX10_starts_20 : decode cX10_starts 20 = .ok (.iastore, 1) := by decide +kernel
theorem dX10_starts_21 : decode cX10_starts 21 = .ok (.aload_n 0, 1) := by decide +kernel
theorem dX10_starts_22 : decode cX10_starts 22 = .ok (.getfield 11, 3) := by decide +kernel
theorem dX10_starts_25 : decode cX10_starts 25 = .ok (.iconst 3, 1) := by decide +kernel
theorem dX10_starts_26 : decode cX10_starts 26 = .ok (.iconst 1, 1) := by decide +kernel
theorem dX10_starts_27 : decode cX10_starts 27 = .ok (.iastore, 1) := by decide +kernel
theorem dX10_starts_28 : decode cX10_starts 28 = .ok (.iconst 0, 1) := by decide +kernel
theorem dX10_starts_29 : decode cX10_starts 29 = .ok (.istore_n 2, 1) := by decide +kernel
theorem dX10_starts_30 : decode cX10_starts 30 = .ok (.iload_n 2, 1) := by decide +kernel
theorem dX10_starts_31 : decode cX10_starts 31 = .ok (.iconst 4, 1) := by decide +kernel
theorem dX10_starts_32 : decode cX10_starts 32 = .ok (.if_icmp .ge 18, 3) := by decide +kernel
theorem dX10_starts_35 : decode cX10_starts 35 = .ok (.aload_n 0, 1) := by decide +kernel
theorem dX10_starts_36 : decode cX10_starts 36 = .ok (.getfield 11, 3) := by decide +kernel
theorem dX10_starts_39 : decode cX10_starts 39 = .ok (.iconst 4, 1) := by decide +kernel
theorem dX10_starts_40 : decode cX10_starts 40 = .ok (.iload_n 2, 1) := by decide +kernel
theorem dX10_starts_41 : decode cX10_starts 41 = .ok (.iadd, 1) := by decide +kernel
theorem dX10_starts_42 : decode cX10_starts 42 = .ok (.iconst 0, 1) := by decide +kernel
theorem dX10_starts_43 : decode cX10_starts 43 = .ok (.iastore, 1) := by decide +kernel
theorem dX10_starts_44 : decode cX10_starts 44 = .ok (.iinc 2 1, 3) := by decide +kernel
theorem dX10_starts_47 : decode cX10_starts 47 = .ok (.goto (-17), 3) := by decide +kernel
theorem dX10_starts_50 : decode cX10_starts 50 = .ok (.return_, 1) := by decide +kernel
theorem dX10_lots_0 : decode cX10_lots 0 = .ok (.iconst 1, 1) := by decide +kernel
theorem dX10_lots_1 : decode cX10_lots 1 = .ok (.aload_n 0, 1) := by decide +kernel
theorem dX10_lots_2 : decode cX10_lots 2 = .ok (.getfield 11, 3) := by decide +kernel
theorem dX10_lots_5 : decode cX10_lots 5 = .ok (.iconst 0, 1) := by decide +kernel
theorem dX10_lots_6 : decode cX10_lots 6 = .ok (.iaload, 1) := by decide +kernel
theorem dX10_lots_7 : decode cX10_lots 7 = .ok (.ishl, 1) := by decide +kernel
theorem dX10_lots_8 : decode cX10_lots 8 = .ok (.ireturn, 1) := by decide +kernel
theorem dX10_most_0 : decode cX10_most 0 = .ok (.iconst 1, 1) := by decide +kernel
theorem dX10_most_1 : decode cX10_most 1 = .ok (.aload_n 0, 1) := by decide +kernel
theorem dX10_most_2 : decode cX10_most 2 = .ok (.invokevirtual 56, 3) := by decide +kernel
theorem dX10_most_5 : decode cX10_most 5 = .ok (.ishl, 1) := by decide +kernel
theorem dX10_most_6 : decode cX10_most 6 = .ok (.iconst 1, 1) := by decide +kernel
theorem dX10_most_7 : decode cX10_most 7 = .ok (.isub, 1) := by decide +kernel
theorem dX10_most_8 : decode cX10_most 8 = .ok (.ireturn, 1) := by decide +kernel
theorem dX10_isLot_0 : decode cX10_isLot 0 = .ok (.iload_n 1, 1) := by decide +kernel
theorem dX10_isLot_1 : decode cX10_isLot 1 = .ok (.i2l, 1) := by decide +kernel
theorem dX10_isLot_2 : decode cX10_isLot 2 = .ok (.lconst 0, 1) := by decide +kernel
theorem dX10_isLot_3 : decode cX10_isLot 3 = .ok (.aload_n 0, 1) := by decide +kernel
theorem dX10_isLot_4 : decode cX10_isLot 4 = .ok (.invokevirtual 56, 3) := by decide +kernel
theorem dX10_isLot_7 : decode cX10_isLot 7 = .ok (.iconst 1, 1) := by decide +kernel
theorem dX10_isLot_8 : decode cX10_isLot 8 = .ok (.isub, 1) := by decide +kernel
theorem dX10_isLot_9 : decode cX10_isLot 9 = .ok (.i2l, 1) := by decide +kernel
theorem dX10_isLot_10 : decode cX10_isLot 10 = .ok (.invokestatic 60, 3) := by decide +kernel
theorem dX10_isLot_13 : decode cX10_isLot 13 = .ok (.ireturn, 1) := by decide +kernel
theorem dX10_isVoter_0 : decode cX10_isVoter 0 = .ok (.iload_n 1, 1) := by decide +kernel
theorem dX10_isVoter_1 : decode cX10_isVoter 1 = .ok (.i2l, 1) := by decide +kernel
theorem dX10_isVoter_2 : decode cX10_isVoter 2 = .ok (.lconst 0, 1) := by decide +kernel
theorem dX10_isVoter_3 : decode cX10_isVoter 3 = .ok (.aload_n 0, 1) := by decide +kernel
theorem dX10_isVoter_4 : decode cX10_isVoter 4 = .ok (.getfield 11, 3) := by decide +kernel
theorem dX10_isVoter_7 : decode cX10_isVoter 7 = .ok (.iconst 0, 1) := by decide +kernel
theorem dX10_isVoter_8 : decode cX10_isVoter 8 = .ok (.iaload, 1) := by decide +kernel
theorem dX10_isVoter_9 : decode cX10_isVoter 9 = .ok (.iconst 1, 1) := by decide +kernel
theorem dX10_isVoter_10 : decode cX10_isVoter 10 = .ok (.isub, 1) := by decide +kernel
theorem dX10_isVoter_11 : decode cX10_isVoter 11 = .ok (.i2l, 1) := by decide +kernel
theorem dX10_isVoter_12 : decode cX10_isVoter 12 = .ok (.invokestatic 60, 3) := by decide +kernel
theorem dX10_isVoter_15 : decode cX10_isVoter 15 = .ok (.ireturn, 1) := by decide +kernel
theorem dX10_is_0 : decode cX10_is 0 = .ok (.iload_n 0, 1) := by decide +kernel
theorem dX10_is_1 : decode cX10_is 1 = .ok (.iload_n 1, 1) := by decide +kernel
theorem dX10_is_2 : decode cX10_is 2 = .ok (.ishr, 1) := by decide +kernel
theorem dX10_is_3 : decode cX10_is 3 = .ok (.iconst 1, 1) := by decide +kernel
theorem dX10_is_4 : decode cX10_is 4 = .ok (.iand, 1) := by decide +kernel
theorem dX10_is_5 : decode cX10_is 5 = .ok (.iconst 1, 1) := by decide +kernel
theorem dX10_is_6 : decode cX10_is 6 = .ok (.if_icmp .ne 7, 3) := by decide +kernel
theorem dX10_is_9 : decode cX10_is 9 = .ok (.iconst 1, 1) := by decide +kernel
theorem dX10_is_10 : decode cX10_is 10 = .ok (.goto 4, 3) := by decide +kernel
theorem dX10_is_13 : decode cX10_is 13 = .ok (.iconst 0, 1) := by decide +kernel
theorem dX10_is_14 : decode cX10_is 14 = .ok (.ireturn, 1) := by decide +kernel
theorem dX10_bit_0 : decode cX10_bit 0 = .ok (.iload_n 0, 1) := by decide +kernel
theorem dX10_bit_1 : decode cX10_bit 1 = .ok (.ifCond .eq 7, 3) := by decide +kernel
theorem dX10_bit_4 : decode cX10_bit 4 = .ok (.iconst 1, 1) := by decide +kernel
theorem dX10_bit_5 : decode cX10_bit 5 = .ok (.goto 4, 3) := by decide +kernel
theorem dX10_bit_8 : decode cX10_bit 8 = .ok (.iconst 0, 1) := by decide +kernel
theorem dX10_bit_9 : decode cX10_bit 9 = .ok (.ireturn, 1) := by decide +kernel
theorem dX10_voters_0 : decode cX10_voters 0 = .ok (.iload_n 1, 1) := by decide +kernel
theorem dX10_voters_1 : decode cX10_voters 1 = .ok (.i2l, 1) := by decide +kernel
theorem dX10_voters_2 : decode cX10_voters 2 = .ok (.ldc2_w 64, 3) := by decide +kernel
theorem dX10_voters_5 : decode cX10_voters 5 = .ok (.ldc2_w 66, 3) := by decide +kernel
theorem dX10_voters_8 : decode cX10_voters 8 = .ok (.invokestatic 60, 3) := by decide +kernel
theorem dX10_voters_11 : decode cX10_voters 11 = .ok (.ifCond .ne 6, 3) := by decide +kernel
theorem dX10_voters_14 : decode cX10_voters 14 = .ok (.bipush (-2), 2) := by decide +kernel
theorem dX10_voters_16 : decode cX10_voters 16 = .ok (.ireturn, 1) := by decide +kernel
theorem dX10_voters_17 : decode cX10_voters 17 = .ok (.aload_n 0, 1) := by decide +kernel
theorem dX10_voters_18 : decode cX10_voters 18 = .ok (.getfield 11, 3) := by decide +kernel
theorem dX10_voters_21 : decode cX10_voters 21 = .ok (.iconst 0, 1) := by decide +kernel
theorem dX10_voters_22 : decode cX10_voters 22 = .ok (.iaload, 1) := by decide +kernel
theorem dX10_voters_23 : decode cX10_voters 23 = .ok (.istore_n 2, 1) := by decide +kernel
theorem dX10_voters_24 : decode cX10_voters 24 = .ok (.aload_n 0, 1) := by decide +kernel
theorem dX10_voters_25 : decode cX10_voters 25 = .ok (.iload_n 1, 1) := by decide +kernel
theorem dX10_voters_26 : decode cX10_voters 26 = .ok (.invokevirtual 52, 3) := by decide +kernel
theorem dX10_voters_29 : decode cX10_voters 29 = .ok (.iload_n 2, 1) := by decide +kernel
theorem dX10_voters_30 : decode cX10_voters 30 = .ok (.ireturn, 1) := by decide +kernel
theorem dX10_say_0 : decode cX10_say 0 = .ok (.aload_n 0, 1) := by decide +kernel
theorem dX10_say_1 : decode cX10_say 1 = .ok (.iload_n 1, 1) := by decide +kernel
theorem dX10_say_2 : decode cX10_say 2 = .ok (.invokevirtual 68, 3) := by decide +kernel
theorem dX10_say_5 : decode cX10_say 5 = .ok (.ifCond .ne 5, 3) := by decide +kernel
theorem dX10_say_8 : decode cX10_say 8 = .ok (.iconst (-1), 1) := by decide +kernel
theorem dX10_say_9 : decode cX10_say 9 = .ok (.ireturn, 1) := by decide +kernel
theorem dX10_say_10 : decode cX10_say 10 = .ok (.iload_n 2, 1) := by decide +kernel
theorem dX10_say_11 : decode cX10_say 11 = .ok (.i2l, 1) := by decide +kernel
theorem dX10_say_12 : decode cX10_say 12 = .ok (.lconst 0, 1) := by decide +kernel
theorem dX10_say_13 : decode cX10_say 13 = .ok (.lconst 1, 1) := by decide +kernel
theorem dX10_say_14 : decode cX10_say 14 = .ok (.invokestatic 60, 3) := by decide +kernel
theorem dX10_say_17 : decode cX10_say 17 = .ok (.ifCond .ne 6, 3) := by decide +kernel
theorem dX10_say_20 : decode cX10_say 20 = .ok (.bipush (-2), 2) := by decide +kernel
theorem dX10_say_22 : decode cX10_say 22 = .ok (.ireturn, 1) := by decide +kernel
theorem dX10_say_23 : decode cX10_say 23 = .ok (.aload_n 0, 1) := by decide +kernel
theorem dX10_say_24 : decode cX10_say 24 = .ok (.getfield 11, 3) := by decide +kernel
theorem dX10_say_27 : decode cX10_say 27 = .ok (.iconst 1, 1) := by decide +kernel
theorem dX10_say_28 : decode cX10_say 28 = .ok (.iaload, 1) := by decide +kernel
theorem dX10_say_29 : decode cX10_say 29 = .ok (.iload_n 1, 1) := by decide +kernel
theorem dX10_say_30 : decode cX10_say 30 = .ok (.ishr, 1) := by decide +kernel
theorem dX10_say_31 : decode cX10_say 31 = .ok (.iconst 1, 1) := by decide +kernel
theorem dX10_say_32 : decode cX10_say 32 = .ok (.iand, 1) := by decide +kernel
theorem dX10_say_33 : decode cX10_say 33 = .ok (.istore_n 3, 1) := by decide +kernel
theorem dX10_say_34 : decode cX10_say 34 = .ok (.aload_n 0, 1) := by decide +kernel
theorem dX10_say_35 : decode cX10_say 35 = .ok (.getfield 11, 3) := by decide +kernel
theorem dX10_say_38 : decode cX10_say 38 = .ok (.iconst 1, 1) := by decide +kernel
theorem dX10_say_39 : decode cX10_say 39 = .ok (.aload_n 0, 1) := by decide +kernel
theorem dX10_say_40 : decode cX10_say 40 = .ok (.getfield 11, 3) := by decide +kernel
theorem dX10_say_43 : decode cX10_say 43 = .ok (.iconst 1, 1) := by decide +kernel
theorem dX10_say_44 : decode cX10_say 44 = .ok (.iaload, 1) := by decide +kernel
theorem dX10_say_45 : decode cX10_say 45 = .ok (.iconst 1, 1) := by decide +kernel
theorem dX10_say_46 : decode cX10_say 46 = .ok (.iload_n 1, 1) := by decide +kernel
theorem dX10_say_47 : decode cX10_say 47 = .ok (.ishl, 1) := by decide +kernel
theorem dX10_say_48 : decode cX10_say 48 = .ok (.iconst (-1), 1) := by decide +kernel
theorem dX10_say_49 : decode cX10_say 49 = .ok (.ixor, 1) := by decide +kernel
theorem dX10_say_50 : decode cX10_say 50 = .ok (.iand, 1) := by decide +kernel
theorem dX10_say_51 : decode cX10_say 51 = .ok (.iload_n 2, 1) := by decide +kernel
theorem dX10_say_52 : decode cX10_say 52 = .ok (.iload_n 1, 1) := by decide +kernel
theorem dX10_say_53 : decode cX10_say 53 = .ok (.ishl, 1) := by decide +kernel
theorem dX10_say_54 : decode cX10_say 54 = .ok (.ior, 1) := by decide +kernel
theorem dX10_say_55 : decode cX10_say 55 = .ok (.iastore, 1) := by decide +kernel
theorem dX10_say_56 : decode cX10_say 56 = .ok (.iload_n 3, 1) := by decide +kernel
theorem dX10_say_57 : decode cX10_say 57 = .ok (.ireturn, 1) := by decide +kernel
theorem dX10_code_0 : decode cX10_code 0 = .ok (.iload_n 1, 1) := by decide +kernel
theorem dX10_code_1 : decode cX10_code 1 = .ok (.i2l, 1) := by decide +kernel
theorem dX10_code_2 : decode cX10_code 2 = .ok (.lconst 0, 1) := by decide +kernel
theorem dX10_code_3 : decode cX10_code 3 = .ok (.aload_n 0, 1) := by decide +kernel
theorem dX10_code_4 : decode cX10_code 4 = .ok (.invokevirtual 72, 3) := by decide +kernel
theorem dX10_code_7 : decode cX10_code 7 = .ok (.i2l, 1) := by decide +kernel
theorem dX10_code_8 : decode cX10_code 8 = .ok (.invokestatic 60, 3) := by decide +kernel
theorem dX10_code_11 : decode cX10_code 11 = .ok (.ifCond .ne 6, 3) := by decide +kernel
theorem dX10_code_14 : decode cX10_code 14 = .ok (.bipush (-2), 2) := by decide +kernel
theorem dX10_code_16 : decode cX10_code 16 = .ok (.ireturn, 1) := by decide +kernel
theorem dX10_code_17 : decode cX10_code 17 = .ok (.aload_n 0, 1) := by decide +kernel
theorem dX10_code_18 : decode cX10_code 18 = .ok (.getfield 11, 3) := by decide +kernel
theorem dX10_code_21 : decode cX10_code 21 = .ok (.iconst 1, 1) := by decide +kernel
theorem dX10_code_22 : decode cX10_code 22 = .ok (.iaload, 1) := by decide +kernel
theorem dX10_code_23 : decode cX10_code 23 = .ok (.istore_n 2, 1) := by decide +kernel
theorem dX10_code_24 : decode cX10_code 24 = .ok (.aload_n 0, 1) := by decide +kernel
theorem dX10_code_25 : decode cX10_code 25 = .ok (.getfield 11, 3) := by decide +kernel
theorem dX10_code_28 : decode cX10_code 28 = .ok (.iconst 1, 1) := by decide +kernel
theorem dX10_code_29 : decode cX10_code 29 = .ok (.iload_n 1, 1) := by decide +kernel
theorem dX10_code_30 : decode cX10_code 30 = .ok (.iastore, 1) := by decide +kernel
theorem dX10_code_31 : decode cX10_code 31 = .ok (.iload_n 2, 1) := by decide +kernel
theorem dX10_code_32 : decode cX10_code 32 = .ok (.ireturn, 1) := by decide +kernel
theorem dX10_weight_0 : decode cX10_weight 0 = .ok (.aload_n 0, 1) := by decide +kernel
theorem dX10_weight_1 : decode cX10_weight 1 = .ok (.iload_n 1, 1) := by decide +kernel
theorem dX10_weight_2 : decode cX10_weight 2 = .ok (.invokevirtual 75, 3) := by decide +kernel
theorem dX10_weight_5 : decode cX10_weight 5 = .ok (.ifCond .ne 5, 3) := by decide +kernel
theorem dX10_weight_8 : decode cX10_weight 8 = .ok (.iconst (-1), 1) := by decide +kernel
theorem dX10_weight_9 : decode cX10_weight 9 = .ok (.ireturn, 1) := by decide +kernel
theorem dX10_weight_10 : decode cX10_weight 10 = .ok (.iload_n 2, 1) := by decide +kernel
theorem dX10_weight_11 : decode cX10_weight 11 = .ok (.i2l, 1) := by decide +kernel
theorem dX10_weight_12 : decode cX10_weight 12 = .ok (.ldc2_w 78, 3) := by decide +kernel
theorem dX10_weight_15 : decode cX10_weight 15 = .ok (.ldc2_w 80, 3) := by decide +kernel
theorem dX10_weight_18 : decode cX10_weight 18 = .ok (.invokestatic 60, 3) := by decide +kernel
theorem dX10_weight_21 : decode cX10_weight 21 = .ok (.ifCond .ne 6, 3) := by decide +kernel
theorem dX10_weight_24 : decode cX10_weight 24 = .ok (.bipush (-2), 2) := by decide +kernel
theorem dX10_weight_26 : decode cX10_weight 26 = .ok (.ireturn, 1) := by decide +kernel
theorem dX10_weight_27 : decode cX10_weight 27 = .ok (.aload_n 0, 1) := by decide +kernel
theorem dX10_weight_28 : decode cX10_weight 28 = .ok (.getfield 11, 3) := by decide +kernel
theorem dX10_weight_31 : decode cX10_weight 31 = .ok (.iconst 4, 1) := by decide +kernel
theorem dX10_weight_32 : decode cX10_weight 32 = .ok (.iload_n 1, 1) := by decide +kernel
theorem dX10_weight_33 : decode cX10_weight 33 = .ok (.iadd, 1) := by decide +kernel
theorem dX10_weight_34 : decode cX10_weight 34 = .ok (.iaload, 1) := by decide +kernel
theorem dX10_weight_35 : decode cX10_weight 35 = .ok (.istore_n 3, 1) := by decide +kernel
theorem dX10_weight_36 : decode cX10_weight 36 = .ok (.aload_n 0, 1) := by decide +kernel
theorem dX10_weight_37 : decode cX10_weight 37 = .ok (.getfield 11, 3) := by decide +kernel
theorem dX10_weight_40 : decode cX10_weight 40 = .ok (.iconst 4, 1) := by decide +kernel
theorem dX10_weight_41 : decode cX10_weight 41 = .ok (.iload_n 1, 1) := by decide +kernel
theorem dX10_weight_42 : decode cX10_weight 42 = .ok (.iadd, 1) := by decide +kernel
theorem dX10_weight_43 : decode cX10_weight 43 = .ok (.iload_n 2, 1) := by decide +kernel
theorem dX10_weight_44 : decode cX10_weight 44 = .ok (.iastore, 1) := by decide +kernel
theorem dX10_weight_45 : decode cX10_weight 45 = .ok (.iload_n 3, 1) := by decide +kernel
theorem dX10_weight_46 : decode cX10_weight 46 = .ok (.bipush 100, 2) := by decide +kernel
theorem dX10_weight_48 : decode cX10_weight 48 = .ok (.iadd, 1) := by decide +kernel
theorem dX10_weight_49 : decode cX10_weight 49 = .ok (.ireturn, 1) := by decide +kernel
theorem dX10_quota_0 : decode cX10_quota 0 = .ok (.iload_n 1, 1) := by decide +kernel
theorem dX10_quota_1 : decode cX10_quota 1 = .ok (.i2l, 1) := by decide +kernel
theorem dX10_quota_2 : decode cX10_quota 2 = .ok (.ldc2_w 82, 3) := by decide +kernel
theorem dX10_quota_5 : decode cX10_quota 5 = .ok (.ldc2_w 84, 3) := by decide +kernel
theorem dX10_quota_8 : decode cX10_quota 8 = .ok (.invokestatic 60, 3) := by decide +kernel
theorem dX10_quota_11 : decode cX10_quota 11 = .ok (.ifCond .ne 6, 3) := by decide +kernel
theorem dX10_quota_14 : decode cX10_quota 14 = .ok (.bipush (-2), 2) := by decide +kernel
theorem dX10_quota_16 : decode cX10_quota 16 = .ok (.ireturn, 1) := by decide +kernel
theorem dX10_quota_17 : decode cX10_quota 17 = .ok (.aload_n 0, 1) := by decide +kernel
theorem dX10_quota_18 : decode cX10_quota 18 = .ok (.getfield 11, 3) := by decide +kernel
theorem dX10_quota_21 : decode cX10_quota 21 = .ok (.iconst 3, 1) := by decide +kernel
theorem dX10_quota_22 : decode cX10_quota 22 = .ok (.iaload, 1) := by decide +kernel
theorem dX10_quota_23 : decode cX10_quota 23 = .ok (.istore_n 2, 1) := by decide +kernel
theorem dX10_quota_24 : decode cX10_quota 24 = .ok (.aload_n 0, 1) := by decide +kernel
theorem dX10_quota_25 : decode cX10_quota 25 = .ok (.getfield 11, 3) := by decide +kernel
theorem dX10_quota_28 : decode cX10_quota 28 = .ok (.iconst 3, 1) := by decide +kernel
theorem dX10_quota_29 : decode cX10_quota 29 = .ok (.iload_n 1, 1) := by decide +kernel
theorem dX10_quota_30 : decode cX10_quota 30 = .ok (.iastore, 1) := by decide +kernel
theorem dX10_quota_31 : decode cX10_quota 31 = .ok (.iload_n 2, 1) := by decide +kernel
theorem dX10_quota_32 : decode cX10_quota 32 = .ok (.bipush 100, 2) := by decide +kernel
theorem dX10_quota_34 : decode cX10_quota 34 = .ok (.iadd, 1) := by decide +kernel
theorem dX10_quota_35 : decode cX10_quota 35 = .ok (.ireturn, 1) := by decide +kernel
theorem dX10_worth_0 : decode cX10_worth 0 = .ok (.iconst 0, 1) := by decide +kernel
theorem dX10_worth_1 : decode cX10_worth 1 = .ok (.istore_n 2, 1) := by decide +kernel
theorem dX10_worth_2 : decode cX10_worth 2 = .ok (.iconst 0, 1) := by decide +kernel
theorem dX10_worth_3 : decode cX10_worth 3 = .ok (.istore_n 3, 1) := by decide +kernel
theorem dX10_worth_4 : decode cX10_worth 4 = .ok (.iload_n 3, 1) := by decide +kernel
theorem dX10_worth_5 : decode cX10_worth 5 = .ok (.aload_n 0, 1) := by decide +kernel
theorem dX10_worth_6 : decode cX10_worth 6 = .ok (.getfield 11, 3) := by decide +kernel
theorem dX10_worth_9 : decode cX10_worth 9 = .ok (.iconst 0, 1) := by decide +kernel
theorem dX10_worth_10 : decode cX10_worth 10 = .ok (.iaload, 1) := by decide +kernel
theorem dX10_worth_11 : decode cX10_worth 11 = .ok (.if_icmp .ge 26, 3) := by decide +kernel
theorem dX10_worth_14 : decode cX10_worth 14 = .ok (.iload_n 2, 1) := by decide +kernel
theorem dX10_worth_15 : decode cX10_worth 15 = .ok (.iload_n 1, 1) := by decide +kernel
theorem dX10_worth_16 : decode cX10_worth 16 = .ok (.iload_n 3, 1) := by decide +kernel
theorem dX10_worth_17 : decode cX10_worth 17 = .ok (.ishr, 1) := by decide +kernel
theorem dX10_worth_18 : decode cX10_worth 18 = .ok (.iconst 1, 1) := by decide +kernel
theorem dX10_worth_19 : decode cX10_worth 19 = .ok (.iand, 1) := by decide +kernel
theorem dX10_worth_20 : decode cX10_worth 20 = .ok (.aload_n 0, 1) := by decide +kernel
theorem dX10_worth_21 : decode cX10_worth 21 = .ok (.getfield 11, 3) := by decide +kernel
theorem dX10_worth_24 : decode cX10_worth 24 = .ok (.iconst 4, 1) := by decide +kernel
theorem dX10_worth_25 : decode cX10_worth 25 = .ok (.iload_n 3, 1) := by decide +kernel
theorem dX10_worth_26 : decode cX10_worth 26 = .ok (.iadd, 1) := by decide +kernel
theorem dX10_worth_27 : decode cX10_worth 27 = .ok (.iaload, 1) := by decide +kernel
theorem dX10_worth_28 : decode cX10_worth 28 = .ok (.imul, 1) := by decide +kernel
theorem dX10_worth_29 : decode cX10_worth 29 = .ok (.iadd, 1) := by decide +kernel
theorem dX10_worth_30 : decode cX10_worth 30 = .ok (.istore_n 2, 1) := by decide +kernel
theorem dX10_worth_31 : decode cX10_worth 31 = .ok (.iinc 3 1, 3) := by decide +kernel
theorem dX10_worth_34 : decode cX10_worth 34 = .ok (.goto (-30), 3) := by decide +kernel
theorem dX10_worth_37 : decode cX10_worth 37 = .ok (.iload_n 2, 1) := by decide +kernel
theorem dX10_worth_38 : decode cX10_worth 38 = .ok (.ireturn, 1) := by decide +kernel
theorem dX10_weighed_0 : decode cX10_weighed 0 = .ok (.iconst 0, 1) := by decide +kernel
theorem dX10_weighed_1 : decode cX10_weighed 1 = .ok (.istore_n 1, 1) := by decide +kernel
theorem dX10_weighed_2 : decode cX10_weighed 2 = .ok (.iconst 0, 1) := by decide +kernel
theorem dX10_weighed_3 : decode cX10_weighed 3 = .ok (.istore_n 2, 1) := by decide +kernel
theorem dX10_weighed_4 : decode cX10_weighed 4 = .ok (.iload_n 2, 1) := by decide +kernel
theorem dX10_weighed_5 : decode cX10_weighed 5 = .ok (.aload_n 0, 1) := by decide +kernel
theorem dX10_weighed_6 : decode cX10_weighed 6 = .ok (.invokevirtual 56, 3) := by decide +kernel
theorem dX10_weighed_9 : decode cX10_weighed 9 = .ok (.if_icmp .ge 36, 3) := by decide +kernel
theorem dX10_weighed_12 : decode cX10_weighed 12 = .ok (.iload_n 1, 1) := by decide +kernel
theorem dX10_weighed_13 : decode cX10_weighed 13 = .ok (.aload_n 0, 1) := by decide +kernel
theorem dX10_weighed_14 : decode cX10_weighed 14 = .ok (.iload_n 2, 1) := by decide +kernel
theorem dX10_weighed_15 : decode cX10_weighed 15 = .ok (.invokevirtual 86, 3) := by decide +kernel
theorem dX10_weighed_18 : decode cX10_weighed 18 = .ok (.aload_n 0, 1) := by decide +kernel
theorem dX10_weighed_19 : decode cX10_weighed 19 = .ok (.getfield 11, 3) := by decide +kernel
theorem dX10_weighed_22 : decode cX10_weighed 22 = .ok (.iconst 3, 1) := by decide +kernel
theorem dX10_weighed_23 : decode cX10_weighed 23 = .ok (.iaload, 1) := by decide +kernel
theorem dX10_weighed_24 : decode cX10_weighed 24 = .ok (.if_icmp .lt 7, 3) := by decide +kernel
theorem dX10_weighed_27 : decode cX10_weighed 27 = .ok (.iconst 1, 1) := by decide +kernel
theorem dX10_weighed_28 : decode cX10_weighed 28 = .ok (.goto 4, 3) := by decide +kernel
theorem dX10_weighed_31 : decode cX10_weighed 31 = .ok (.iconst 0, 1) := by decide +kernel
theorem dX10_weighed_32 : decode cX10_weighed 32 = .ok (.invokestatic 90, 3) := by decide +kernel
theorem dX10_weighed_35 : decode cX10_weighed 35 = .ok (.iload_n 2, 1) := by decide +kernel
theorem dX10_weighed_36 : decode cX10_weighed 36 = .ok (.ishl, 1) := by decide +kernel
theorem dX10_weighed_37 : decode cX10_weighed 37 = .ok (.ior, 1) := by decide +kernel
theorem dX10_weighed_38 : decode cX10_weighed 38 = .ok (.istore_n 1, 1) := by decide +kernel
theorem dX10_weighed_39 : decode cX10_weighed 39 = .ok (.iinc 2 1, 3) := by decide +kernel
theorem dX10_weighed_42 : decode cX10_weighed 42 = .ok (.goto (-38), 3) := by decide +kernel
theorem dX10_weighed_45 : decode cX10_weighed 45 = .ok (.iload_n 1, 1) := by decide +kernel
theorem dX10_weighed_46 : decode cX10_weighed 46 = .ok (.ireturn, 1) := by decide +kernel
theorem dX10_weigh_0 : decode cX10_weigh 0 = .ok (.aload_n 0, 1) := by decide +kernel
theorem dX10_weigh_1 : decode cX10_weigh 1 = .ok (.getfield 11, 3) := by decide +kernel
theorem dX10_weigh_4 : decode cX10_weigh 4 = .ok (.iconst 1, 1) := by decide +kernel
theorem dX10_weigh_5 : decode cX10_weigh 5 = .ok (.aload_n 0, 1) := by decide +kernel
theorem dX10_weigh_6 : decode cX10_weigh 6 = .ok (.invokevirtual 94, 3) := by decide +kernel
theorem dX10_weigh_9 : decode cX10_weigh 9 = .ok (.iastore, 1) := by decide +kernel
theorem dX10_weigh_10 : decode cX10_weigh 10 = .ok (.aload_n 0, 1) := by decide +kernel
theorem dX10_weigh_11 : decode cX10_weigh 11 = .ok (.getfield 11, 3) := by decide +kernel
theorem dX10_weigh_14 : decode cX10_weigh 14 = .ok (.iconst 1, 1) := by decide +kernel
theorem dX10_weigh_15 : decode cX10_weigh 15 = .ok (.iaload, 1) := by decide +kernel
theorem dX10_weigh_16 : decode cX10_weigh 16 = .ok (.ireturn, 1) := by decide +kernel
theorem dX10_dual_0 : decode cX10_dual 0 = .ok (.iconst 0, 1) := by decide +kernel
theorem dX10_dual_1 : decode cX10_dual 1 = .ok (.istore_n 2, 1) := by decide +kernel
theorem dX10_dual_2 : decode cX10_dual 2 = .ok (.iconst 0, 1) := by decide +kernel
theorem dX10_dual_3 : decode cX10_dual 3 = .ok (.istore_n 3, 1) := by decide +kernel
theorem dX10_dual_4 : decode cX10_dual 4 = .ok (.iload_n 3, 1) := by decide +kernel
theorem dX10_dual_5 : decode cX10_dual 5 = .ok (.aload_n 0, 1) := by decide +kernel
theorem dX10_dual_6 : decode cX10_dual 6 = .ok (.invokevirtual 56, 3) := by decide +kernel
theorem dX10_dual_9 : decode cX10_dual 9 = .ok (.if_icmp .ge 37, 3) := by decide +kernel
theorem dX10_dual_12 : decode cX10_dual 12 = .ok (.iload_n 2, 1) := by decide +kernel
theorem dX10_dual_13 : decode cX10_dual 13 = .ok (.iload_n 1, 1) := by decide +kernel
theorem dX10_dual_14 : decode cX10_dual 14 = .ok (.aload_n 0, 1) := by decide +kernel
theorem dX10_dual_15 : decode cX10_dual 15 = .ok (.invokevirtual 56, 3) := by decide +kernel
theorem dX10_dual_18 : decode cX10_dual 18 = .ok (.iconst 1, 1) := by decide +kernel
theorem dX10_dual_19 : decode cX10_dual 19 = .ok (.isub, 1) := by decide +kernel
theorem dX10_dual_20 : decode cX10_dual 20 = .ok (.iload_n 3, 1) := by decide +kernel
theorem dX10_dual_21 : decode cX10_dual 21 = .ok (.isub, 1) := by decide +kernel
theorem dX10_dual_22 : decode cX10_dual 22 = .ok (.invokestatic 97, 3) := by decide +kernel
theorem dX10_dual_25 : decode cX10_dual 25 = .ok (.ifCond .ne 7, 3) := by decide +kernel
theorem dX10_dual_28 : decode cX10_dual 28 = .ok (.iconst 1, 1) := by decide +kernel
theorem dX10_dual_29 : decode cX10_dual 29 = .ok (.goto 4, 3) := by decide +kernel
theorem dX10_dual_32 : decode cX10_dual 32 = .ok (.iconst 0, 1) := by decide +kernel
theorem dX10_dual_33 : decode cX10_dual 33 = .ok (.invokestatic 90, 3) := by decide +kernel
theorem dX10_dual_36 : decode cX10_dual 36 = .ok (.iload_n 3, 1) := by decide +kernel
theorem dX10_dual_37 : decode cX10_dual 37 = .ok (.ishl, 1) := by decide +kernel
theorem dX10_dual_38 : decode cX10_dual 38 = .ok (.ior, 1) := by decide +kernel
theorem dX10_dual_39 : decode cX10_dual 39 = .ok (.istore_n 2, 1) := by decide +kernel
theorem dX10_dual_40 : decode cX10_dual 40 = .ok (.iinc 3 1, 3) := by decide +kernel
theorem dX10_dual_43 : decode cX10_dual 43 = .ok (.goto (-39), 3) := by decide +kernel
theorem dX10_dual_46 : decode cX10_dual 46 = .ok (.iload_n 2, 1) := by decide +kernel
theorem dX10_dual_47 : decode cX10_dual 47 = .ok (.ireturn, 1) := by decide +kernel
theorem dX10_turned_0 : decode cX10_turned 0 = .ok (.iconst 0, 1) := by decide +kernel
theorem dX10_turned_1 : decode cX10_turned 1 = .ok (.istore_n 3, 1) := by decide +kernel
theorem dX10_turned_2 : decode cX10_turned 2 = .ok (.iconst 0, 1) := by decide +kernel
theorem dX10_turned_3 : decode cX10_turned 3 = .ok (.istore 4, 2) := by decide +kernel
theorem dX10_turned_5 : decode cX10_turned 5 = .ok (.iload 4, 2) := by decide +kernel
theorem dX10_turned_7 : decode cX10_turned 7 = .ok (.aload_n 0, 1) := by decide +kernel
theorem dX10_turned_8 : decode cX10_turned 8 = .ok (.invokevirtual 56, 3) := by decide +kernel
theorem dX10_turned_11 : decode cX10_turned 11 = .ok (.if_icmp .ge 28, 3) := by decide +kernel
theorem dX10_turned_14 : decode cX10_turned 14 = .ok (.iload_n 3, 1) := by decide +kernel
theorem dX10_turned_15 : decode cX10_turned 15 = .ok (.iload_n 1, 1) := by decide +kernel
theorem dX10_turned_16 : decode cX10_turned 16 = .ok (.iload 4, 2) := by decide +kernel
theorem dX10_turned_18 : decode cX10_turned 18 = .ok (.iconst 1, 1) := by decide +kernel
theorem dX10_turned_19 : decode cX10_turned 19 = .ok (.iload_n 2, 1) := by decide +kernel
theorem dX10_turned_20 : decode cX10_turned 20 = .ok (.ishl, 1) := by decide +kernel
theorem dX10_turned_21 : decode cX10_turned 21 = .ok (.ixor, 1) := by decide +kernel
theorem dX10_turned_22 : decode cX10_turned 22 = .ok (.invokestatic 97, 3) := by decide +kernel
theorem dX10_turned_25 : decode cX10_turned 25 = .ok (.invokestatic 90, 3) := by decide +kernel
theorem dX10_turned_28 : decode cX10_turned 28 = .ok (.iload 4, 2) := by decide +kernel
theorem dX10_turned_30 : decode cX10_turned 30 = .ok (.ishl, 1) := by decide +kernel
theorem dX10_turned_31 : decode cX10_turned 31 = .ok (.ior, 1) := by decide +kernel
theorem dX10_turned_32 : decode cX10_turned 32 = .ok (.istore_n 3, 1) := by decide +kernel
theorem dX10_turned_33 : decode cX10_turned 33 = .ok (.iinc 4 1, 3) := by decide +kernel
theorem dX10_turned_36 : decode cX10_turned 36 = .ok (.goto (-31), 3) := by decide +kernel
theorem dX10_turned_39 : decode cX10_turned 39 = .ok (.iload_n 3, 1) := by decide +kernel
theorem dX10_turned_40 : decode cX10_turned 40 = .ok (.ireturn, 1) := by decide +kernel
theorem dX10_changed_0 : decode cX10_changed 0 = .ok (.iconst 0, 1) := by decide +kernel
theorem dX10_changed_1 : decode cX10_changed 1 = .ok (.istore 4, 2) := by decide +kernel
theorem dX10_changed_3 : decode cX10_changed 3 = .ok (.iconst 0, 1) := by decide +kernel
theorem dX10_changed_4 : decode cX10_changed 4 = .ok (.istore 5, 2) := by decide +kernel
theorem dX10_changed_6 : decode cX10_changed 6 = .ok (.iload 5, 2) := by decide +kernel
theorem dX10_changed_8 : decode cX10_changed 8 = .ok (.aload_n 0, 1) := by decide +kernel
theorem dX10_changed_9 : decode cX10_changed 9 = .ok (.invokevirtual 56, 3) := by decide +kernel
theorem dX10_changed_12 : decode cX10_changed 12 = .ok (.if_icmp .ge 49, 3) := by decide +kernel
theorem dX10_changed_15 : decode cX10_changed 15 = .ok (.iload 5, 2) := by decide +kernel
theorem dX10_changed_17 : decode cX10_changed 17 = .ok (.iload_n 2, 1) := by decide +kernel
theorem dX10_changed_18 : decode cX10_changed 18 = .ok (.ishr, 1) := by decide +kernel
theorem dX10_changed_19 : decode cX10_changed 19 = .ok (.iload 5, 2) := by decide +kernel
theorem dX10_changed_21 : decode cX10_changed 21 = .ok (.iload_n 3, 1) := by decide +kernel
theorem dX10_changed_22 : decode cX10_changed 22 = .ok (.ishr, 1) := by decide +kernel
theorem dX10_changed_23 : decode cX10_changed 23 = .ok (.ixor, 1) := by decide +kernel
theorem dX10_changed_24 : decode cX10_changed 24 = .ok (.iconst 1, 1) := by decide +kernel
theorem dX10_changed_25 : decode cX10_changed 25 = .ok (.iand, 1) := by decide +kernel
theorem dX10_changed_26 : decode cX10_changed 26 = .ok (.istore 6, 2) := by decide +kernel
theorem dX10_changed_28 : decode cX10_changed 28 = .ok (.iload 4, 2) := by decide +kernel
theorem dX10_changed_30 : decode cX10_changed 30 = .ok (.iload_n 1, 1) := by decide +kernel
theorem dX10_changed_31 : decode cX10_changed 31 = .ok (.iload 5, 2) := by decide +kernel
theorem dX10_changed_33 : decode cX10_changed 33 = .ok (.iload 6, 2) := by decide +kernel
theorem dX10_changed_35 : decode cX10_changed 35 = .ok (.iload_n 2, 1) := by decide +kernel
theorem dX10_changed_36 : decode cX10_changed 36 = .ok (.ishl, 1) := by decide +kernel
theorem dX10_changed_37 : decode cX10_changed 37 = .ok (.iload 6, 2) := by decide +kernel
theorem dX10_changed_39 : decode cX10_changed 39 = .ok (.iload_n 3, 1) := by decide +kernel
theorem dX10_changed_40 : decode cX10_changed 40 = .ok (.ishl, 1) := by decide +kernel
theorem dX10_changed_41 : decode cX10_changed 41 = .ok (.ior, 1) := by decide +kernel
theorem dX10_changed_42 : decode cX10_changed 42 = .ok (.ixor, 1) := by decide +kernel
theorem dX10_changed_43 : decode cX10_changed 43 = .ok (.invokestatic 97, 3) := by decide +kernel
theorem dX10_changed_46 : decode cX10_changed 46 = .ok (.invokestatic 90, 3) := by decide +kernel
theorem dX10_changed_49 : decode cX10_changed 49 = .ok (.iload 5, 2) := by decide +kernel
theorem dX10_changed_51 : decode cX10_changed 51 = .ok (.ishl, 1) := by decide +kernel
theorem dX10_changed_52 : decode cX10_changed 52 = .ok (.ior, 1) := by decide +kernel
theorem dX10_changed_53 : decode cX10_changed 53 = .ok (.istore 4, 2) := by decide +kernel
theorem dX10_changed_55 : decode cX10_changed 55 = .ok (.iinc 5 1, 3) := by decide +kernel
theorem dX10_changed_58 : decode cX10_changed 58 = .ok (.goto (-52), 3) := by decide +kernel
theorem dX10_changed_61 : decode cX10_changed 61 = .ok (.iload 4, 2) := by decide +kernel
theorem dX10_changed_63 : decode cX10_changed 63 = .ok (.ireturn, 1) := by decide +kernel
theorem dX10_becomes_0 : decode cX10_becomes 0 = .ok (.iload_n 1, 1) := by decide +kernel
theorem dX10_becomes_1 : decode cX10_becomes 1 = .ok (.i2l, 1) := by decide +kernel
theorem dX10_becomes_2 : decode cX10_becomes 2 = .ok (.lconst 0, 1) := by decide +kernel
theorem dX10_becomes_3 : decode cX10_becomes 3 = .ok (.ldc2_w 64, 3) := by decide +kernel
theorem dX10_becomes_6 : decode cX10_becomes 6 = .ok (.invokestatic 60, 3) := by decide +kernel
theorem dX10_becomes_9 : decode cX10_becomes 9 = .ok (.ifCond .ne 5, 3) := by decide +kernel
theorem dX10_becomes_12 : decode cX10_becomes 12 = .ok (.iconst (-1), 1) := by decide +kernel
theorem dX10_becomes_13 : decode cX10_becomes 13 = .ok (.ireturn, 1) := by decide +kernel
theorem dX10_becomes_14 : decode cX10_becomes 14 = .ok (.iload_n 1, 1) := by decide +kernel
theorem dX10_becomes_15 : decode cX10_becomes 15 = .ok (.iconst 2, 1) := by decide +kernel
theorem dX10_becomes_16 : decode cX10_becomes 16 = .ok (.if_icmp .ne 77, 3) := by decide +kernel
theorem dX10_becomes_19 : decode cX10_becomes 19 = .ok (.aload_n 0, 1) := by decide +kernel
theorem dX10_becomes_20 : decode cX10_becomes 20 = .ok (.aload_n 0, 1) := by decide +kernel
theorem dX10_becomes_21 : decode cX10_becomes 21 = .ok (.getfield 11, 3) := by decide +kernel
theorem dX10_becomes_24 : decode cX10_becomes 24 = .ok (.iconst 1, 1) := by decide +kernel
theorem dX10_becomes_25 : decode cX10_becomes 25 = .ok (.iaload, 1) := by decide +kernel
theorem dX10_becomes_26 : decode cX10_becomes 26 = .ok (.invokevirtual 101, 3) := by decide +kernel
theorem dX10_becomes_29 : decode cX10_becomes 29 = .ok (.ifCond .ne 6, 3) := by decide +kernel
theorem dX10_becomes_32 : decode cX10_becomes 32 = .ok (.bipush (-3), 2) := by decide +kernel
theorem dX10_becomes_34 : decode cX10_becomes 34 = .ok (.ireturn, 1) := by decide +kernel
theorem dX10_becomes_35 : decode cX10_becomes 35 = .ok (.iconst 0, 1) := by decide +kernel
theorem dX10_becomes_36 : decode cX10_becomes 36 = .ok (.istore_n 2, 1) := by decide +kernel
theorem dX10_becomes_37 : decode cX10_becomes 37 = .ok (.iload_n 2, 1) := by decide +kernel
theorem dX10_becomes_38 : decode cX10_becomes 38 = .ok (.aload_n 0, 1) := by decide +kernel
theorem dX10_becomes_39 : decode cX10_becomes 39 = .ok (.getfield 11, 3) := by decide +kernel
theorem dX10_becomes_42 : decode cX10_becomes 42 = .ok (.iconst 0, 1) := by decide +kernel
theorem dX10_becomes_43 : decode cX10_becomes 43 = .ok (.iaload, 1) := by decide +kernel
theorem dX10_becomes_44 : decode cX10_becomes 44 = .ok (.if_icmp .ge 23, 3) := by decide +kernel
theorem dX10_becomes_47 : decode cX10_becomes 47 = .ok (.aload_n 0, 1) := by decide +kernel
theorem dX10_becomes_48 : decode cX10_becomes 48 = .ok (.getfield 11, 3) := by decide +kernel
theorem dX10_becomes_51 : decode cX10_becomes 51 = .ok (.iconst 4, 1) := by decide +kernel
theorem dX10_becomes_52 : decode cX10_becomes 52 = .ok (.iload_n 2, 1) := by decide +kernel
theorem dX10_becomes_53 : decode cX10_becomes 53 = .ok (.iadd, 1) := by decide +kernel
theorem dX10_becomes_54 : decode cX10_becomes 54 = .ok (.aload_n 0, 1) := by decide +kernel
theorem dX10_becomes_55 : decode cX10_becomes 55 = .ok (.getfield 21, 3) := by decide +kernel
theorem dX10_becomes_58 : decode cX10_becomes 58 = .ok (.iload_n 2, 1) := by decide +kernel
theorem dX10_becomes_59 : decode cX10_becomes 59 = .ok (.iaload, 1) := by decide +kernel
theorem dX10_becomes_60 : decode cX10_becomes 60 = .ok (.iastore, 1) := by decide +kernel
theorem dX10_becomes_61 : decode cX10_becomes 61 = .ok (.iinc 2 1, 3) := by decide +kernel
theorem dX10_becomes_64 : decode cX10_becomes 64 = .ok (.goto (-27), 3) := by decide +kernel
theorem dX10_becomes_67 : decode cX10_becomes 67 = .ok (.aload_n 0, 1) := by decide +kernel
theorem dX10_becomes_68 : decode cX10_becomes 68 = .ok (.getfield 11, 3) := by decide +kernel
theorem dX10_becomes_71 : decode cX10_becomes 71 = .ok (.iconst 3, 1) := by decide +kernel
theorem dX10_becomes_72 : decode cX10_becomes 72 = .ok (.aload_n 0, 1) := by decide +kernel
theorem dX10_becomes_73 : decode cX10_becomes 73 = .ok (.aload_n 0, 1) := by decide +kernel
theorem dX10_becomes_74 : decode cX10_becomes 74 = .ok (.getfield 11, 3) := by decide +kernel
theorem dX10_becomes_77 : decode cX10_becomes 77 = .ok (.iconst 1, 1) := by decide +kernel
theorem dX10_becomes_78 : decode cX10_becomes 78 = .ok (.iaload, 1) := by decide +kernel
theorem dX10_becomes_79 : decode cX10_becomes 79 = .ok (.invokevirtual 104, 3) := by decide +kernel
theorem dX10_becomes_82 : decode cX10_becomes 82 = .ok (.iastore, 1) := by decide +kernel
theorem dX10_becomes_83 : decode cX10_becomes 83 = .ok (.aload_n 0, 1) := by decide +kernel
theorem dX10_becomes_84 : decode cX10_becomes 84 = .ok (.getfield 11, 3) := by decide +kernel
theorem dX10_becomes_87 : decode cX10_becomes 87 = .ok (.iconst 3, 1) := by decide +kernel
theorem dX10_becomes_88 : decode cX10_becomes 88 = .ok (.iaload, 1) := by decide +kernel
theorem dX10_becomes_89 : decode cX10_becomes 89 = .ok (.bipush 100, 2) := by decide +kernel
theorem dX10_becomes_91 : decode cX10_becomes 91 = .ok (.iadd, 1) := by decide +kernel
theorem dX10_becomes_92 : decode cX10_becomes 92 = .ok (.ireturn, 1) := by decide +kernel
theorem dX10_becomes_93 : decode cX10_becomes 93 = .ok (.aload_n 0, 1) := by decide +kernel
theorem dX10_becomes_94 : decode cX10_becomes 94 = .ok (.getfield 11, 3) := by decide +kernel
theorem dX10_becomes_97 : decode cX10_becomes 97 = .ok (.iconst 1, 1) := by decide +kernel
theorem dX10_becomes_98 : decode cX10_becomes 98 = .ok (.iload_n 1, 1) := by decide +kernel
theorem dX10_becomes_99 : decode cX10_becomes 99 = .ok (.ifCond .ne 16, 3) := by decide +kernel
theorem dX10_becomes_102 : decode cX10_becomes 102 = .ok (.aload_n 0, 1) := by decide +kernel
theorem dX10_becomes_103 : decode cX10_becomes 103 = .ok (.aload_n 0, 1) := by decide +kernel
theorem dX10_becomes_104 : decode cX10_becomes 104 = .ok (.getfield 11, 3) := by decide +kernel
theorem dX10_becomes_107 : decode cX10_becomes 107 = .ok (.iconst 1, 1) := by decide +kernel
theorem dX10_becomes_108 : decode cX10_becomes 108 = .ok (.iaload, 1) := by decide +kernel
theorem dX10_becomes_109 : decode cX10_becomes 109 = .ok (.invokevirtual 107, 3) := by decide +kernel
theorem dX10_becomes_112 : decode cX10_becomes 112 = .ok (.goto 16, 3) := by decide +kernel
theorem dX10_becomes_115 : decode cX10_becomes 115 = .ok (.aload_n 0, 1) := by decide +kernel
theorem dX10_becomes_116 : decode cX10_becomes 116 = .ok (.invokevirtual 72, 3) := by decide +kernel
theorem dX10_becomes_119 : decode cX10_becomes 119 = .ok (.aload_n 0, 1) := by decide +kernel
theorem dX10_becomes_120 : decode cX10_becomes 120 = .ok (.getfield 11, 3) := by decide +kernel
theorem dX10_becomes_123 : decode cX10_becomes 123 = .ok (.iconst 1, 1) := by decide +kernel
theorem dX10_becomes_124 : decode cX10_becomes 124 = .ok (.iaload, 1) := by decide +kernel
theorem dX10_becomes_125 : decode cX10_becomes 125 = .ok (.iconst (-1), 1) := by decide +kernel
theorem dX10_becomes_126 : decode cX10_becomes 126 = .ok (.ixor, 1) := by decide +kernel
theorem dX10_becomes_127 : decode cX10_becomes 127 = .ok (.iand, 1) := by decide +kernel
theorem dX10_becomes_128 : decode cX10_becomes 128 = .ok (.iastore, 1) := by decide +kernel
theorem dX10_becomes_129 : decode cX10_becomes 129 = .ok (.aload_n 0, 1) := by decide +kernel
theorem dX10_becomes_130 : decode cX10_becomes 130 = .ok (.getfield 11, 3) := by decide +kernel
theorem dX10_becomes_133 : decode cX10_becomes 133 = .ok (.iconst 1, 1) := by decide +kernel
theorem dX10_becomes_134 : decode cX10_becomes 134 = .ok (.iaload, 1) := by decide +kernel
theorem dX10_becomes_135 : decode cX10_becomes 135 = .ok (.ireturn, 1) := by decide +kernel
theorem dX10_turn_0 : decode cX10_turn 0 = .ok (.aload_n 0, 1) := by decide +kernel
theorem dX10_turn_1 : decode cX10_turn 1 = .ok (.iload_n 1, 1) := by decide +kernel
theorem dX10_turn_2 : decode cX10_turn 2 = .ok (.invokevirtual 75, 3) := by decide +kernel
theorem dX10_turn_5 : decode cX10_turn 5 = .ok (.ifCond .ne 5, 3) := by decide +kernel
theorem dX10_turn_8 : decode cX10_turn 8 = .ok (.iconst (-1), 1) := by decide +kernel
theorem dX10_turn_9 : decode cX10_turn 9 = .ok (.ireturn, 1) := by decide +kernel
theorem dX10_turn_10 : decode cX10_turn 10 = .ok (.aload_n 0, 1) := by decide +kernel
theorem dX10_turn_11 : decode cX10_turn 11 = .ok (.getfield 11, 3) := by decide +kernel
theorem dX10_turn_14 : decode cX10_turn 14 = .ok (.iconst 1, 1) := by decide +kernel
theorem dX10_turn_15 : decode cX10_turn 15 = .ok (.aload_n 0, 1) := by decide +kernel
theorem dX10_turn_16 : decode cX10_turn 16 = .ok (.aload_n 0, 1) := by decide +kernel
theorem dX10_turn_17 : decode cX10_turn 17 = .ok (.getfield 11, 3) := by decide +kernel
theorem dX10_turn_20 : decode cX10_turn 20 = .ok (.iconst 1, 1) := by decide +kernel
theorem dX10_turn_21 : decode cX10_turn 21 = .ok (.iaload, 1) := by decide +kernel
theorem dX10_turn_22 : decode cX10_turn 22 = .ok (.iload_n 1, 1) := by decide +kernel
theorem dX10_turn_23 : decode cX10_turn 23 = .ok (.invokevirtual 110, 3) := by decide +kernel
theorem dX10_turn_26 : decode cX10_turn 26 = .ok (.iastore, 1) := by decide +kernel
theorem dX10_turn_27 : decode cX10_turn 27 = .ok (.aload_n 0, 1) := by decide +kernel
theorem dX10_turn_28 : decode cX10_turn 28 = .ok (.getfield 11, 3) := by decide +kernel
theorem dX10_turn_31 : decode cX10_turn 31 = .ok (.iconst 1, 1) := by decide +kernel
theorem dX10_turn_32 : decode cX10_turn 32 = .ok (.iaload, 1) := by decide +kernel
theorem dX10_turn_33 : decode cX10_turn 33 = .ok (.ireturn, 1) := by decide +kernel
theorem dX10_exchange_0 : decode cX10_exchange 0 = .ok (.aload_n 0, 1) := by decide +kernel
theorem dX10_exchange_1 : decode cX10_exchange 1 = .ok (.iload_n 1, 1) := by decide +kernel
theorem dX10_exchange_2 : decode cX10_exchange 2 = .ok (.invokevirtual 75, 3) := by decide +kernel
theorem dX10_exchange_5 : decode cX10_exchange 5 = .ok (.ifCond .eq 16, 3) := by decide +kernel
theorem dX10_exchange_8 : decode cX10_exchange 8 = .ok (.aload_n 0, 1) := by decide +kernel
theorem dX10_exchange_9 : decode cX10_exchange 9 = .ok (.iload_n 2, 1) := by decide +kernel
theorem dX10_exchange_10 : decode cX10_exchange 10 = .ok (.invokevirtual 75, 3) := by decide +kernel
theorem dX10_exchange_13 : decode cX10_exchange 13 = .ok (.ifCond .eq 8, 3) := by decide +kernel
theorem dX10_exchange_16 : decode cX10_exchange 16 = .ok (.iload_n 1, 1) := by decide +kernel
theorem dX10_exchange_17 : decode cX10_exchange 17 = .ok (.iload_n 2, 1) := by decide +kernel
theorem dX10_exchange_18 : decode cX10_exchange 18 = .ok (.if_icmp .ne 5, 3) := by decide +kernel
theorem dX10_exchange_21 : decode cX10_exchange 21 = .ok (.iconst (-1), 1) := by decide +kernel
theorem dX10_exchange_22 : decode cX10_exchange 22 = .ok (.ireturn, 1) := by decide +kernel
theorem dX10_exchange_23 : decode cX10_exchange 23 = .ok (.aload_n 0, 1) := by decide +kernel
theorem dX10_exchange_24 : decode cX10_exchange 24 = .ok (.getfield 11, 3) := by decide +kernel
theorem dX10_exchange_27 : decode cX10_exchange 27 = .ok (.iconst 1, 1) := by decide +kernel
theorem dX10_exchange_28 : decode cX10_exchange 28 = .ok (.aload_n 0, 1) := by decide +kernel
theorem dX10_exchange_29 : decode cX10_exchange 29 = .ok (.aload_n 0, 1) := by decide +kernel
theorem dX10_exchange_30 : decode cX10_exchange 30 = .ok (.getfield 11, 3) := by decide +kernel
theorem dX10_exchange_33 : decode cX10_exchange 33 = .ok (.iconst 1, 1) := by decide +kernel
theorem dX10_exchange_34 : decode cX10_exchange 34 = .ok (.iaload, 1) := by decide +kernel
theorem dX10_exchange_35 : decode cX10_exchange 35 = .ok (.iload_n 1, 1) := by decide +kernel
theorem dX10_exchange_36 : decode cX10_exchange 36 = .ok (.iload_n 2, 1) := by decide +kernel
theorem dX10_exchange_37 : decode cX10_exchange 37 = .ok (.invokevirtual 114, 3) := by decide +kernel
theorem dX10_exchange_40 : decode cX10_exchange 40 = .ok (.iastore, 1) := by decide +kernel
theorem dX10_exchange_41 : decode cX10_exchange 41 = .ok (.aload_n 0, 1) := by decide +kernel
theorem dX10_exchange_42 : decode cX10_exchange 42 = .ok (.getfield 11, 3) := by decide +kernel
theorem dX10_exchange_45 : decode cX10_exchange 45 = .ok (.iconst 1, 1) := by decide +kernel
theorem dX10_exchange_46 : decode cX10_exchange 46 = .ok (.iaload, 1) := by decide +kernel
theorem dX10_exchange_47 : decode cX10_exchange 47 = .ok (.ireturn, 1) := by decide +kernel
theorem dX10_keep_0 : decode cX10_keep 0 = .ok (.aload_n 0, 1) := by decide +kernel
theorem dX10_keep_1 : decode cX10_keep 1 = .ok (.getfield 11, 3) := by decide +kernel
theorem dX10_keep_4 : decode cX10_keep 4 = .ok (.iconst 2, 1) := by decide +kernel
theorem dX10_keep_5 : decode cX10_keep 5 = .ok (.aload_n 0, 1) := by decide +kernel
theorem dX10_keep_6 : decode cX10_keep 6 = .ok (.getfield 11, 3) := by decide +kernel
theorem dX10_keep_9 : decode cX10_keep 9 = .ok (.iconst 1, 1) := by decide +kernel
theorem dX10_keep_10 : decode cX10_keep 10 = .ok (.iaload, 1) := by decide +kernel
theorem dX10_keep_11 : decode cX10_keep 11 = .ok (.iastore, 1) := by decide +kernel
theorem dX10_keep_12 : decode cX10_keep 12 = .ok (.aload_n 0, 1) := by decide +kernel
theorem dX10_keep_13 : decode cX10_keep 13 = .ok (.getfield 11, 3) := by decide +kernel
theorem dX10_keep_16 : decode cX10_keep 16 = .ok (.iconst 1, 1) := by decide +kernel
theorem dX10_keep_17 : decode cX10_keep 17 = .ok (.iaload, 1) := by decide +kernel
theorem dX10_keep_18 : decode cX10_keep 18 = .ok (.ireturn, 1) := by decide +kernel
theorem dX10_worthBy_0 : decode cX10_worthBy 0 = .ok (.iconst 0, 1) := by decide +kernel
theorem dX10_worthBy_1 : decode cX10_worthBy 1 = .ok (.istore_n 3, 1) := by decide +kernel
theorem dX10_worthBy_2 : decode cX10_worthBy 2 = .ok (.iconst 0, 1) := by decide +kernel
theorem dX10_worthBy_3 : decode cX10_worthBy 3 = .ok (.istore 4, 2) := by decide +kernel
theorem dX10_worthBy_5 : decode cX10_worthBy 5 = .ok (.iload 4, 2) := by decide +kernel
theorem dX10_worthBy_7 : decode cX10_worthBy 7 = .ok (.aload_n 0, 1) := by decide +kernel
theorem dX10_worthBy_8 : decode cX10_worthBy 8 = .ok (.getfield 11, 3) := by decide +kernel
theorem dX10_worthBy_11 : decode cX10_worthBy 11 = .ok (.iconst 0, 1) := by decide +kernel
theorem dX10_worthBy_12 : decode cX10_worthBy 12 = .ok (.iaload, 1) := by decide +kernel
theorem dX10_worthBy_13 : decode cX10_worthBy 13 = .ok (.if_icmp .ge 23, 3) := by decide +kernel
theorem dX10_worthBy_16 : decode cX10_worthBy 16 = .ok (.iload_n 3, 1) := by decide +kernel
theorem dX10_worthBy_17 : decode cX10_worthBy 17 = .ok (.iload_n 2, 1) := by decide +kernel
theorem dX10_worthBy_18 : decode cX10_worthBy 18 = .ok (.iload 4, 2) := by decide +kernel
theorem dX10_worthBy_20 : decode cX10_worthBy 20 = .ok (.ishr, 1) := by decide +kernel
theorem dX10_worthBy_21 : decode cX10_worthBy 21 = .ok (.iconst 1, 1) := by decide +kernel
theorem dX10_worthBy_22 : decode cX10_worthBy 22 = .ok (.iand, 1) := by decide +kernel
theorem dX10_worthBy_23 : decode cX10_worthBy 23 = .ok (.aload_n 1, 1) := by decide +kernel
theorem dX10_worthBy_24 : decode cX10_worthBy 24 = .ok (.iload 4, 2) := by decide +kernel
theorem dX10_worthBy_26 : decode cX10_worthBy 26 = .ok (.iaload, 1) := by decide +kernel
theorem dX10_worthBy_27 : decode cX10_worthBy 27 = .ok (.imul, 1) := by decide +kernel
theorem dX10_worthBy_28 : decode cX10_worthBy 28 = .ok (.iadd, 1) := by decide +kernel
theorem dX10_worthBy_29 : decode cX10_worthBy 29 = .ok (.istore_n 3, 1) := by decide +kernel
theorem dX10_worthBy_30 : decode cX10_worthBy 30 = .ok (.iinc 4 1, 3) := by decide +kernel
theorem dX10_worthBy_33 : decode cX10_worthBy 33 = .ok (.goto (-28), 3) := by decide +kernel
theorem dX10_worthBy_36 : decode cX10_worthBy 36 = .ok (.iload_n 3, 1) := by decide +kernel
theorem dX10_worthBy_37 : decode cX10_worthBy 37 = .ok (.ireturn, 1) := by decide +kernel
theorem dX10_tells_0 : decode cX10_tells 0 = .ok (.bipush 99, 2) := by decide +kernel
theorem dX10_tells_2 : decode cX10_tells 2 = .ok (.istore_n 2, 1) := by decide +kernel
theorem dX10_tells_3 : decode cX10_tells 3 = .ok (.bipush (-99), 2) := by decide +kernel
theorem dX10_tells_5 : decode cX10_tells 5 = .ok (.istore_n 3, 1) := by decide +kernel
theorem dX10_tells_6 : decode cX10_tells 6 = .ok (.iconst 0, 1) := by decide +kernel
theorem dX10_tells_7 : decode cX10_tells 7 = .ok (.istore 4, 2) := by decide +kernel
theorem dX10_tells_9 : decode cX10_tells 9 = .ok (.iload 4, 2) := by decide +kernel
theorem dX10_tells_11 : decode cX10_tells 11 = .ok (.aload_n 0, 1) := by decide +kernel
theorem dX10_tells_12 : decode cX10_tells 12 = .ok (.invokevirtual 56, 3) := by decide +kernel
theorem dX10_tells_15 : decode cX10_tells 15 = .ok (.if_icmp .ge 65, 3) := by decide +kernel
theorem dX10_tells_18 : decode cX10_tells 18 = .ok (.aload_n 0, 1) := by decide +kernel
theorem dX10_tells_19 : decode cX10_tells 19 = .ok (.aload_n 0, 1) := by decide +kernel
theorem dX10_tells_20 : decode cX10_tells 20 = .ok (.getfield 18, 3) := by decide +kernel
theorem dX10_tells_23 : decode cX10_tells 23 = .ok (.iload 4, 2) := by decide +kernel
theorem dX10_tells_25 : decode cX10_tells 25 = .ok (.invokevirtual 118, 3) := by decide +kernel
theorem dX10_tells_28 : decode cX10_tells 28 = .ok (.istore 5, 2) := by decide +kernel
theorem dX10_tells_30 : decode cX10_tells 30 = .ok (.iload_n 1, 1) := by decide +kernel
theorem dX10_tells_31 : decode cX10_tells 31 = .ok (.iload 4, 2) := by decide +kernel
theorem dX10_tells_33 : decode cX10_tells 33 = .ok (.invokestatic 97, 3) := by decide +kernel
theorem dX10_tells_36 : decode cX10_tells 36 = .ok (.ifCond .eq 14, 3) := by decide +kernel
theorem dX10_tells_39 : decode cX10_tells 39 = .ok (.iload 5, 2) := by decide +kernel
theorem dX10_tells_41 : decode cX10_tells 41 = .ok (.iload_n 2, 1) := by decide +kernel
theorem dX10_tells_42 : decode cX10_tells 42 = .ok (.if_icmp .ge 8, 3) := by decide +kernel
theorem dX10_tells_45 : decode cX10_tells 45 = .ok (.iload 5, 2) := by decide +kernel
theorem dX10_tells_47 : decode cX10_tells 47 = .ok (.goto 4, 3) := by decide +kernel
theorem dX10_tells_50 : decode cX10_tells 50 = .ok (.iload_n 2, 1) := by decide +kernel
theorem dX10_tells_51 : decode cX10_tells 51 = .ok (.istore_n 2, 1) := by decide +kernel
theorem dX10_tells_52 : decode cX10_tells 52 = .ok (.iload_n 1, 1) := by decide +kernel
theorem dX10_tells_53 : decode cX10_tells 53 = .ok (.iload 4, 2) := by decide +kernel
theorem dX10_tells_55 : decode cX10_tells 55 = .ok (.invokestatic 97, 3) := by decide +kernel
theorem dX10_tells_58 : decode cX10_tells 58 = .ok (.ifCond .ne 14, 3) := by decide +kernel
theorem dX10_tells_61 : decode cX10_tells 61 = .ok (.iload 5, 2) := by decide +kernel
theorem dX10_tells_63 : decode cX10_tells 63 = .ok (.iload_n 3, 1) := by decide +kernel
theorem dX10_tells_64 : decode cX10_tells 64 = .ok (.if_icmp .le 8, 3) := by decide +kernel
theorem dX10_tells_67 : decode cX10_tells 67 = .ok (.iload 5, 2) := by decide +kernel
theorem dX10_tells_69 : decode cX10_tells 69 = .ok (.goto 4, 3) := by decide +kernel
theorem dX10_tells_72 : decode cX10_tells 72 = .ok (.iload_n 3, 1) := by decide +kernel
theorem dX10_tells_73 : decode cX10_tells 73 = .ok (.istore_n 3, 1) := by decide +kernel
theorem dX10_tells_74 : decode cX10_tells 74 = .ok (.iinc 4 1, 3) := by decide +kernel
theorem dX10_tells_77 : decode cX10_tells 77 = .ok (.goto (-68), 3) := by decide +kernel
theorem dX10_tells_80 : decode cX10_tells 80 = .ok (.iload_n 2, 1) := by decide +kernel
theorem dX10_tells_81 : decode cX10_tells 81 = .ok (.iload_n 3, 1) := by decide +kernel
theorem dX10_tells_82 : decode cX10_tells 82 = .ok (.if_icmp .le 7, 3) := by decide +kernel
theorem dX10_tells_85 : decode cX10_tells 85 = .ok (.iconst 1, 1) := by decide +kernel
theorem dX10_tells_86 : decode cX10_tells 86 = .ok (.goto 4, 3) := by decide +kernel
theorem dX10_tells_89 : decode cX10_tells 89 = .ok (.iconst 0, 1) := by decide +kernel
theorem dX10_tells_90 : decode cX10_tells 90 = .ok (.ireturn, 1) := by decide +kernel
theorem dX10_tries_0 : decode cX10_tries 0 = .ok (.iload_n 2, 1) := by decide +kernel
theorem dX10_tries_1 : decode cX10_tries 1 = .ok (.aload_n 0, 1) := by decide +kernel
theorem dX10_tries_2 : decode cX10_tries 2 = .ok (.getfield 11, 3) := by decide +kernel
theorem dX10_tries_5 : decode cX10_tries 5 = .ok (.iconst 0, 1) := by decide +kernel
theorem dX10_tries_6 : decode cX10_tries 6 = .ok (.iaload, 1) := by decide +kernel
theorem dX10_tries_7 : decode cX10_tries 7 = .ok (.if_icmp .ne 66, 3) := by decide +kernel
theorem dX10_tries_10 : decode cX10_tries 10 = .ok (.aload_n 0, 1) := by decide +kernel
theorem dX10_tries_11 : decode cX10_tries 11 = .ok (.getfield 122, 3) := by decide +kernel
theorem dX10_tries_14 : decode cX10_tries 14 = .ok (.ifCond .lt 11, 3) := by decide +kernel
theorem dX10_tries_17 : decode cX10_tries 17 = .ok (.iload_n 3, 1) := by decide +kernel
theorem dX10_tries_18 : decode cX10_tries 18 = .ok (.aload_n 0, 1) := by decide +kernel
theorem dX10_tries_19 : decode cX10_tries 19 = .ok (.getfield 122, 3) := by decide +kernel
theorem dX10_tries_22 : decode cX10_tries 22 = .ok (.if_icmp .ge 50, 3) := by decide +kernel
theorem dX10_tries_25 : decode cX10_tries 25 = .ok (.aload_n 0, 1) := by decide +kernel
theorem dX10_tries_26 : decode cX10_tries 26 = .ok (.iload_n 1, 1) := by decide +kernel
theorem dX10_tries_27 : decode cX10_tries 27 = .ok (.invokevirtual 126, 3) := by decide +kernel
theorem dX10_tries_30 : decode cX10_tries 30 = .ok (.ifCond .eq 42, 3) := by decide +kernel
theorem dX10_tries_33 : decode cX10_tries 33 = .ok (.aload_n 0, 1) := by decide +kernel
theorem dX10_tries_34 : decode cX10_tries 34 = .ok (.iload_n 3, 1) := by decide +kernel
theorem dX10_tries_35 : decode cX10_tries 35 = .ok (.putfield 122, 3) := by decide +kernel
theorem dX10_tries_38 : decode cX10_tries 38 = .ok (.iconst 0, 1) := by decide +kernel
theorem dX10_tries_39 : decode cX10_tries 39 = .ok (.istore 4, 2) := by decide +kernel
theorem dX10_tries_41 : decode cX10_tries 41 = .ok (.iload 4, 2) := by decide +kernel
theorem dX10_tries_43 : decode cX10_tries 43 = .ok (.aload_n 0, 1) := by decide +kernel
theorem dX10_tries_44 : decode cX10_tries 44 = .ok (.getfield 11, 3) := by decide +kernel
theorem dX10_tries_47 : decode cX10_tries 47 = .ok (.iconst 0, 1) := by decide +kernel
theorem dX10_tries_48 : decode cX10_tries 48 = .ok (.iaload, 1) := by decide +kernel
theorem dX10_tries_49 : decode cX10_tries 49 = .ok (.if_icmp .ge 23, 3) := by decide +kernel
theorem dX10_tries_52 : decode cX10_tries 52 = .ok (.aload_n 0, 1) := by decide +kernel
theorem dX10_tries_53 : decode cX10_tries 53 = .ok (.getfield 21, 3) := by decide +kernel
theorem dX10_tries_56 : decode cX10_tries 56 = .ok (.iload 4, 2) := by decide +kernel
theorem dX10_tries_58 : decode cX10_tries 58 = .ok (.aload_n 0, 1) := by decide +kernel
theorem dX10_tries_59 : decode cX10_tries 59 = .ok (.getfield 18, 3) := by decide +kernel
theorem dX10_tries_62 : decode cX10_tries 62 = .ok (.iload 4, 2) := by decide +kernel
theorem dX10_tries_64 : decode cX10_tries 64 = .ok (.iaload, 1) := by decide +kernel
theorem dX10_tries_65 : decode cX10_tries 65 = .ok (.iastore, 1) := by decide +kernel
theorem dX10_tries_66 : decode cX10_tries 66 = .ok (.iinc 4 1, 3) := by decide +kernel
theorem dX10_tries_69 : decode cX10_tries 69 = .ok (.goto (-28), 3) := by decide +kernel
theorem dX10_tries_72 : decode cX10_tries 72 = .ok (.return_, 1) := by decide +kernel
theorem dX10_tries_73 : decode cX10_tries 73 = .ok (.bipush (-4), 2) := by decide +kernel
theorem dX10_tries_75 : decode cX10_tries 75 = .ok (.istore 4, 2) := by decide +kernel
theorem dX10_tries_77 : decode cX10_tries 77 = .ok (.iload 4, 2) := by decide +kernel
theorem dX10_tries_79 : decode cX10_tries 79 = .ok (.iconst 4, 1) := by decide +kernel
theorem dX10_tries_80 : decode cX10_tries 80 = .ok (.if_icmp .gt 40, 3) := by decide +kernel
theorem dX10_tries_83 : decode cX10_tries 83 = .ok (.aload_n 0, 1) := by decide +kernel
theorem dX10_tries_84 : decode cX10_tries 84 = .ok (.getfield 18, 3) := by decide +kernel
theorem dX10_tries_87 : decode cX10_tries 87 = .ok (.iload_n 2, 1) := by decide +kernel
theorem dX10_tries_88 : decode cX10_tries 88 = .ok (.iload 4, 2) := by decide +kernel
theorem dX10_tries_90 : decode cX10_tries 90 = .ok (.iastore, 1) := by decide +kernel
theorem dX10_tries_91 : decode cX10_tries 91 = .ok (.aload_n 0, 1) := by decide +kernel
theorem dX10_tries_92 : decode cX10_tries 92 = .ok (.iload_n 1, 1) := by decide +kernel
theorem dX10_tries_93 : decode cX10_tries 93 = .ok (.iload_n 2, 1) := by decide +kernel
theorem dX10_tries_94 : decode cX10_tries 94 = .ok (.iconst 1, 1) := by decide +kernel
theorem dX10_tries_95 : decode cX10_tries 95 = .ok (.iadd, 1) := by decide +kernel
theorem dX10_tries_96 : decode cX10_tries 96 = .ok (.iload_n 3, 1) := by decide +kernel
theorem dX10_tries_97 : decode cX10_tries 97 = .ok (.iload 4, 2) := by decide +kernel
theorem dX10_tries_99 : decode cX10_tries 99 = .ok (.ifCond .ge 9, 3) := by decide +kernel
theorem dX10_tries_102 : decode cX10_tries 102 = .ok (.iload 4, 2) := by decide +kernel
theorem dX10_tries_104 : decode cX10_tries 104 = .ok (.ineg, 1) := by decide +kernel
theorem dX10_tries_105 : decode cX10_tries 105 = .ok (.goto 5, 3) := by decide +kernel
theorem dX10_tries_108 : decode cX10_tries 108 = .ok (.iload 4, 2) := by decide +kernel
theorem dX10_tries_110 : decode cX10_tries 110 = .ok (.iadd, 1) := by decide +kernel
theorem dX10_tries_111 : decode cX10_tries 111 = .ok (.invokevirtual 129, 3) := by decide +kernel
theorem dX10_tries_114 : decode cX10_tries 114 = .ok (.iinc 4 1, 3) := by decide +kernel
theorem dX10_tries_117 : decode cX10_tries 117 = .ok (.goto (-40), 3) := by decide +kernel
theorem dX10_tries_120 : decode cX10_tries 120 = .ok (.return_, 1) := by decide +kernel
theorem dX10_isLinear_0 : decode cX10_isLinear 0 = .ok (.aload_n 0, 1) := by decide +kernel
theorem dX10_isLinear_1 : decode cX10_isLinear 1 = .ok (.iconst (-1), 1) := by decide +kernel
theorem dX10_isLinear_2 : decode cX10_isLinear 2 = .ok (.putfield 122, 3) := by decide +kernel
theorem dX10_isLinear_5 : decode cX10_isLinear 5 = .ok (.aload_n 0, 1) := by decide +kernel
theorem dX10_isLinear_6 : decode cX10_isLinear 6 = .ok (.iload_n 1, 1) := by decide +kernel
theorem dX10_isLinear_7 : decode cX10_isLinear 7 = .ok (.iconst 0, 1) := by decide +kernel
theorem dX10_isLinear_8 : decode cX10_isLinear 8 = .ok (.iconst 0, 1) := by decide +kernel
theorem dX10_isLinear_9 : decode cX10_isLinear 9 = .ok (.invokevirtual 129, 3) := by decide +kernel
theorem dX10_isLinear_12 : decode cX10_isLinear 12 = .ok (.aload_n 0, 1) := by decide +kernel
theorem dX10_isLinear_13 : decode cX10_isLinear 13 = .ok (.getfield 122, 3) := by decide +kernel
theorem dX10_isLinear_16 : decode cX10_isLinear 16 = .ok (.ifCond .lt 7, 3) := by decide +kernel
theorem dX10_isLinear_19 : decode cX10_isLinear 19 = .ok (.iconst 1, 1) := by decide +kernel
theorem dX10_isLinear_20 : decode cX10_isLinear 20 = .ok (.goto 4, 3) := by decide +kernel
theorem dX10_isLinear_23 : decode cX10_isLinear 23 = .ok (.iconst 0, 1) := by decide +kernel
theorem dX10_isLinear_24 : decode cX10_isLinear 24 = .ok (.ireturn, 1) := by decide +kernel
theorem dX10_leastQuota_0 : decode cX10_leastQuota 0 = .ok (.bipush 99, 2) := by decide +kernel
theorem dX10_leastQuota_2 : decode cX10_leastQuota 2 = .ok (.istore_n 2, 1) := by decide +kernel
theorem dX10_leastQuota_3 : decode cX10_leastQuota 3 = .ok (.bipush (-99), 2) := by decide +kernel
theorem dX10_leastQuota_5 : decode cX10_leastQuota 5 = .ok (.istore_n 3, 1) := by decide +kernel
theorem dX10_leastQuota_6 : decode cX10_leastQuota 6 = .ok (.iconst 0, 1) := by decide +kernel
theorem dX10_leastQuota_7 : decode cX10_leastQuota 7 = .ok (.istore 4, 2) := by decide +kernel
theorem dX10_leastQuota_9 : decode cX10_leastQuota 9 = .ok (.iload 4, 2) := by decide +kernel
theorem dX10_leastQuota_11 : decode cX10_leastQuota 11 = .ok (.aload_n 0, 1) := by decide +kernel
theorem dX10_leastQuota_12 : decode cX10_leastQuota 12 = .ok (.invokevirtual 56, 3) := by decide +kernel
theorem dX10_leastQuota_15 : decode cX10_leastQuota 15 = .ok (.if_icmp .ge 56, 3) := by decide +kernel
theorem dX10_leastQuota_18 : decode cX10_leastQuota 18 = .ok (.aload_n 0, 1) := by decide +kernel
theorem dX10_leastQuota_19 : decode cX10_leastQuota 19 = .ok (.aload_n 0, 1) := by decide +kernel
theorem dX10_leastQuota_20 : decode cX10_leastQuota 20 = .ok (.getfield 21, 3) := by decide +kernel
theorem dX10_leastQuota_23 : decode cX10_leastQuota 23 = .ok (.iload 4, 2) := by decide +kernel
theorem dX10_leastQuota_25 : decode cX10_leastQuota 25 = .ok (.invokevirtual 118, 3) := by decide +kernel
theorem dX10_leastQuota_28 : decode cX10_leastQuota 28 = .ok (.istore 5, 2) := by decide +kernel
theorem dX10_leastQuota_30 : decode cX10_leastQuota 30 = .ok (.iload_n 1, 1) := by decide +kernel
theorem dX10_leastQuota_31 : decode cX10_leastQuota 31 = .ok (.iload 4, 2) := by decide +kernel
theorem dX10_leastQuota_33 : decode cX10_leastQuota 33 = .ok (.invokestatic 97, 3) := by decide +kernel
theorem dX10_leastQuota_36 : decode cX10_leastQuota 36 = .ok (.ifCond .eq 14, 3) := by decide +kernel
theorem dX10_leastQuota_39 : decode cX10_leastQuota 39 = .ok (.iload 5, 2) := by decide +kernel
theorem dX10_leastQuota_41 : decode cX10_leastQuota 41 = .ok (.iload_n 2, 1) := by decide +kernel
theorem dX10_leastQuota_42 : decode cX10_leastQuota 42 = .ok (.if_icmp .ge 8, 3) := by decide +kernel
theorem dX10_leastQuota_45 : decode cX10_leastQuota 45 = .ok (.iload 5, 2) := by decide +kernel
theorem dX10_leastQuota_47 : decode cX10_leastQuota 47 = .ok (.goto 4, 3) := by decide +kernel
theorem dX10_leastQuota_50 : decode cX10_leastQuota 50 = .ok (.iload_n 2, 1) := by decide +kernel
theorem dX10_leastQuota_51 : decode cX10_leastQuota 51 = .ok (.istore_n 2, 1) := by decide +kernel
theorem dX10_leastQuota_52 : decode cX10_leastQuota 52 = .ok (.iload 5, 2) := by decide +kernel
theorem dX10_leastQuota_54 : decode cX10_leastQuota 54 = .ok (.iload_n 3, 1) := by decide +kernel
theorem dX10_leastQuota_55 : decode cX10_leastQuota 55 = .ok (.if_icmp .le 8, 3) := by decide +kernel
theorem dX10_leastQuota_58 : decode cX10_leastQuota 58 = .ok (.iload 5, 2) := by decide +kernel
theorem dX10_leastQuota_60 : decode cX10_leastQuota 60 = .ok (.goto 4, 3) := by decide +kernel
theorem dX10_leastQuota_63 : decode cX10_leastQuota 63 = .ok (.iload_n 3, 1) := by decide +kernel
theorem dX10_leastQuota_64 : decode cX10_leastQuota 64 = .ok (.istore_n 3, 1) := by decide +kernel
theorem dX10_leastQuota_65 : decode cX10_leastQuota 65 = .ok (.iinc 4 1, 3) := by decide +kernel
theorem dX10_leastQuota_68 : decode cX10_leastQuota 68 = .ok (.goto (-59), 3) := by decide +kernel
theorem dX10_leastQuota_71 : decode cX10_leastQuota 71 = .ok (.iload_n 1, 1) := by decide +kernel
theorem dX10_leastQuota_72 : decode cX10_leastQuota 72 = .ok (.ifCond .ne 9, 3) := by decide +kernel
theorem dX10_leastQuota_75 : decode cX10_leastQuota 75 = .ok (.iload_n 3, 1) := by decide +kernel
theorem dX10_leastQuota_76 : decode cX10_leastQuota 76 = .ok (.iconst 1, 1) := by decide +kernel
theorem dX10_leastQuota_77 : decode cX10_leastQuota 77 = .ok (.iadd, 1) := by decide +kernel
theorem dX10_leastQuota_78 : decode cX10_leastQuota 78 = .ok (.goto 4, 3) := by decide +kernel
theorem dX10_leastQuota_81 : decode cX10_leastQuota 81 = .ok (.iload_n 2, 1) := by decide +kernel
theorem dX10_leastQuota_82 : decode cX10_leastQuota 82 = .ok (.ireturn, 1) := by decide +kernel
theorem dX10_weightOf_0 : decode cX10_weightOf 0 = .ok (.aload_n 0, 1) := by decide +kernel
theorem dX10_weightOf_1 : decode cX10_weightOf 1 = .ok (.iload_n 1, 1) := by decide +kernel
theorem dX10_weightOf_2 : decode cX10_weightOf 2 = .ok (.invokevirtual 75, 3) := by decide +kernel
theorem dX10_weightOf_5 : decode cX10_weightOf 5 = .ok (.ifCond .eq 13, 3) := by decide +kernel
theorem dX10_weightOf_8 : decode cX10_weightOf 8 = .ok (.iload_n 2, 1) := by decide +kernel
theorem dX10_weightOf_9 : decode cX10_weightOf 9 = .ok (.i2l, 1) := by decide +kernel
theorem dX10_weightOf_10 : decode cX10_weightOf 10 = .ok (.lconst 0, 1) := by decide +kernel
theorem dX10_weightOf_11 : decode cX10_weightOf 11 = .ok (.lconst 1, 1) := by decide +kernel
theorem dX10_weightOf_12 : decode cX10_weightOf 12 = .ok (.invokestatic 60, 3) := by decide +kernel
theorem dX10_weightOf_15 : decode cX10_weightOf 15 = .ok (.ifCond .ne 5, 3) := by decide +kernel
theorem dX10_weightOf_18 : decode cX10_weightOf 18 = .ok (.iconst (-1), 1) := by decide +kernel
theorem dX10_weightOf_19 : decode cX10_weightOf 19 = .ok (.ireturn, 1) := by decide +kernel
theorem dX10_weightOf_20 : decode cX10_weightOf 20 = .ok (.iload_n 2, 1) := by decide +kernel
theorem dX10_weightOf_21 : decode cX10_weightOf 21 = .ok (.ifCond .ne 15, 3) := by decide +kernel
theorem dX10_weightOf_24 : decode cX10_weightOf 24 = .ok (.aload_n 0, 1) := by decide +kernel
theorem dX10_weightOf_25 : decode cX10_weightOf 25 = .ok (.getfield 11, 3) := by decide +kernel
theorem dX10_weightOf_28 : decode cX10_weightOf 28 = .ok (.iconst 4, 1) := by decide +kernel
theorem dX10_weightOf_29 : decode cX10_weightOf 29 = .ok (.iload_n 1, 1) := by decide +kernel
theorem dX10_weightOf_30 : decode cX10_weightOf 30 = .ok (.iadd, 1) := by decide +kernel
theorem dX10_weightOf_31 : decode cX10_weightOf 31 = .ok (.iaload, 1) := by decide +kernel
theorem dX10_weightOf_32 : decode cX10_weightOf 32 = .ok (.bipush 100, 2) := by decide +kernel
theorem dX10_weightOf_34 : decode cX10_weightOf 34 = .ok (.iadd, 1) := by decide +kernel
theorem dX10_weightOf_35 : decode cX10_weightOf 35 = .ok (.ireturn, 1) := by decide +kernel
theorem dX10_weightOf_36 : decode cX10_weightOf 36 = .ok (.aload_n 0, 1) := by decide +kernel
theorem dX10_weightOf_37 : decode cX10_weightOf 37 = .ok (.aload_n 0, 1) := by decide +kernel
theorem dX10_weightOf_38 : decode cX10_weightOf 38 = .ok (.getfield 11, 3) := by decide +kernel
theorem dX10_weightOf_41 : decode cX10_weightOf 41 = .ok (.iconst 1, 1) := by decide +kernel
theorem dX10_weightOf_42 : decode cX10_weightOf 42 = .ok (.iaload, 1) := by decide +kernel
theorem dX10_weightOf_43 : decode cX10_weightOf 43 = .ok (.invokevirtual 101, 3) := by decide +kernel
theorem dX10_weightOf_46 : decode cX10_weightOf 46 = .ok (.ifCond .eq 15, 3) := by decide +kernel
theorem dX10_weightOf_49 : decode cX10_weightOf 49 = .ok (.aload_n 0, 1) := by decide +kernel
theorem dX10_weightOf_50 : decode cX10_weightOf 50 = .ok (.getfield 21, 3) := by decide +kernel
theorem dX10_weightOf_53 : decode cX10_weightOf 53 = .ok (.iload_n 1, 1) := by decide +kernel
theorem dX10_weightOf_54 : decode cX10_weightOf 54 = .ok (.iaload, 1) := by decide +kernel
theorem dX10_weightOf_55 : decode cX10_weightOf 55 = .ok (.bipush 100, 2) := by decide +kernel
theorem dX10_weightOf_57 : decode cX10_weightOf 57 = .ok (.iadd, 1) := by decide +kernel
theorem dX10_weightOf_58 : decode cX10_weightOf 58 = .ok (.goto 5, 3) := by decide +kernel
theorem dX10_weightOf_61 : decode cX10_weightOf 61 = .ok (.bipush (-3), 2) := by decide +kernel
theorem dX10_weightOf_63 : decode cX10_weightOf 63 = .ok (.ireturn, 1) := by decide +kernel
theorem dX10_least_0 : decode cX10_least 0 = .ok (.aload_n 0, 1) := by decide +kernel
theorem dX10_least_1 : decode cX10_least 1 = .ok (.aload_n 0, 1) := by decide +kernel
theorem dX10_least_2 : decode cX10_least 2 = .ok (.getfield 11, 3) := by decide +kernel
theorem dX10_least_5 : decode cX10_least 5 = .ok (.iconst 1, 1) := by decide +kernel
theorem dX10_least_6 : decode cX10_least 6 = .ok (.iaload, 1) := by decide +kernel
theorem dX10_least_7 : decode cX10_least 7 = .ok (.invokevirtual 101, 3) := by decide +kernel
theorem dX10_least_10 : decode cX10_least 10 = .ok (.ifCond .eq 19, 3) := by decide +kernel
theorem dX10_least_13 : decode cX10_least 13 = .ok (.aload_n 0, 1) := by decide +kernel
theorem dX10_least_14 : decode cX10_least 14 = .ok (.aload_n 0, 1) := by decide +kernel
theorem dX10_least_15 : decode cX10_least 15 = .ok (.getfield 11, 3) := by decide +kernel
theorem dX10_least_18 : decode cX10_least 18 = .ok (.iconst 1, 1) := by decide +kernel
theorem dX10_least_19 : decode cX10_least 19 = .ok (.iaload, 1) := by decide +kernel
theorem dX10_least_20 : decode cX10_least 20 = .ok (.invokevirtual 104, 3) := by decide +kernel
theorem dX10_least_23 : decode cX10_least 23 = .ok (.bipush 100, 2) := by decide +kernel
theorem dX10_least_25 : decode cX10_least 25 = .ok (.iadd, 1) := by decide +kernel
theorem dX10_least_26 : decode cX10_least 26 = .ok (.goto 5, 3) := by decide +kernel
theorem dX10_least_29 : decode cX10_least 29 = .ok (.bipush (-3), 2) := by decide +kernel
theorem dX10_least_31 : decode cX10_least 31 = .ok (.ireturn, 1) := by decide +kernel
theorem dX10_of_0 : decode cX10_of 0 = .ok (.aload_n 0, 1) := by decide +kernel
theorem dX10_of_1 : decode cX10_of 1 = .ok (.iload_n 1, 1) := by decide +kernel
theorem dX10_of_2 : decode cX10_of 2 = .ok (.invokevirtual 68, 3) := by decide +kernel
theorem dX10_of_5 : decode cX10_of 5 = .ok (.ifCond .ne 5, 3) := by decide +kernel
theorem dX10_of_8 : decode cX10_of 8 = .ok (.iconst (-1), 1) := by decide +kernel
theorem dX10_of_9 : decode cX10_of 9 = .ok (.ireturn, 1) := by decide +kernel
theorem dX10_of_10 : decode cX10_of 10 = .ok (.iload_n 2, 1) := by decide +kernel
theorem dX10_of_11 : decode cX10_of 11 = .ok (.tableswitch 89 0 3 #[29, 43, 57, 80], 29) := by decide +kernel
theorem dX10_of_40 : decode cX10_of 40 = .ok (.aload_n 0, 1) := by decide +kernel
theorem dX10_of_41 : decode cX10_of 41 = .ok (.getfield 11, 3) := by decide +kernel
theorem dX10_of_44 : decode cX10_of 44 = .ok (.iconst 1, 1) := by decide +kernel
theorem dX10_of_45 : decode cX10_of 45 = .ok (.iaload, 1) := by decide +kernel
theorem dX10_of_46 : decode cX10_of 46 = .ok (.iload_n 1, 1) := by decide +kernel
theorem dX10_of_47 : decode cX10_of 47 = .ok (.invokestatic 97, 3) := by decide +kernel
theorem dX10_of_50 : decode cX10_of 50 = .ok (.invokestatic 90, 3) := by decide +kernel
theorem dX10_of_53 : decode cX10_of 53 = .ok (.ireturn, 1) := by decide +kernel
theorem dX10_of_54 : decode cX10_of 54 = .ok (.aload_n 0, 1) := by decide +kernel
theorem dX10_of_55 : decode cX10_of 55 = .ok (.getfield 11, 3) := by decide +kernel
theorem dX10_of_58 : decode cX10_of 58 = .ok (.iconst 2, 1) := by decide +kernel
theorem dX10_of_59 : decode cX10_of 59 = .ok (.iaload, 1) := by decide +kernel
theorem dX10_of_60 : decode cX10_of 60 = .ok (.iload_n 1, 1) := by decide +kernel
theorem dX10_of_61 : decode cX10_of 61 = .ok (.invokestatic 97, 3) := by decide +kernel
theorem dX10_of_64 : decode cX10_of 64 = .ok (.invokestatic 90, 3) := by decide +kernel
theorem dX10_of_67 : decode cX10_of 67 = .ok (.ireturn, 1) := by decide +kernel
theorem dX10_of_68 : decode cX10_of 68 = .ok (.aload_n 0, 1) := by decide +kernel
theorem dX10_of_69 : decode cX10_of 69 = .ok (.iload_n 1, 1) := by decide +kernel
theorem dX10_of_70 : decode cX10_of 70 = .ok (.invokevirtual 86, 3) := by decide +kernel
theorem dX10_of_73 : decode cX10_of 73 = .ok (.aload_n 0, 1) := by decide +kernel
theorem dX10_of_74 : decode cX10_of 74 = .ok (.getfield 11, 3) := by decide +kernel
theorem dX10_of_77 : decode cX10_of 77 = .ok (.iconst 3, 1) := by decide +kernel
theorem dX10_of_78 : decode cX10_of 78 = .ok (.iaload, 1) := by decide +kernel
theorem dX10_of_79 : decode cX10_of 79 = .ok (.if_icmp .lt 7, 3) := by decide +kernel
theorem dX10_of_82 : decode cX10_of 82 = .ok (.iconst 1, 1) := by decide +kernel
theorem dX10_of_83 : decode cX10_of 83 = .ok (.goto 4, 3) := by decide +kernel
theorem dX10_of_86 : decode cX10_of 86 = .ok (.iconst 0, 1) := by decide +kernel
theorem dX10_of_87 : decode cX10_of 87 = .ok (.invokestatic 90, 3) := by decide +kernel
theorem dX10_of_90 : decode cX10_of 90 = .ok (.ireturn, 1) := by decide +kernel
theorem dX10_of_91 : decode cX10_of 91 = .ok (.aload_n 0, 1) := by decide +kernel
theorem dX10_of_92 : decode cX10_of 92 = .ok (.iload_n 1, 1) := by decide +kernel
theorem dX10_of_93 : decode cX10_of 93 = .ok (.invokevirtual 86, 3) := by decide +kernel
theorem dX10_of_96 : decode cX10_of 96 = .ok (.bipush 100, 2) := by decide +kernel
theorem dX10_of_98 : decode cX10_of 98 = .ok (.iadd, 1) := by decide +kernel
theorem dX10_of_99 : decode cX10_of 99 = .ok (.ireturn, 1) := by decide +kernel
theorem dX10_of_100 : decode cX10_of 100 = .ok (.iconst (-1), 1) := by decide +kernel
theorem dX10_of_101 : decode cX10_of 101 = .ok (.ireturn, 1) := by decide +kernel
theorem dX10_isRising_0 : decode cX10_isRising 0 = .ok (.iconst 0, 1) := by decide +kernel
theorem dX10_isRising_1 : decode cX10_isRising 1 = .ok (.istore_n 1, 1) := by decide +kernel
theorem dX10_isRising_2 : decode cX10_isRising 2 = .ok (.iload_n 1, 1) := by decide +kernel
theorem dX10_isRising_3 : decode cX10_isRising 3 = .ok (.aload_n 0, 1) := by decide +kernel
theorem dX10_isRising_4 : decode cX10_isRising 4 = .ok (.invokevirtual 56, 3) := by decide +kernel
theorem dX10_isRising_7 : decode cX10_isRising 7 = .ok (.if_icmp .ge 59, 3) := by decide +kernel
theorem dX10_isRising_10 : decode cX10_isRising 10 = .ok (.iconst 0, 1) := by decide +kernel
theorem dX10_isRising_11 : decode cX10_isRising 11 = .ok (.istore_n 2, 1) := by decide +kernel
theorem dX10_isRising_12 : decode cX10_isRising 12 = .ok (.iload_n 2, 1) := by decide +kernel
theorem dX10_isRising_13 : decode cX10_isRising 13 = .ok (.aload_n 0, 1) := by decide +kernel
theorem dX10_isRising_14 : decode cX10_isRising 14 = .ok (.getfield 11, 3) := by decide +kernel
theorem dX10_isRising_17 : decode cX10_isRising 17 = .ok (.iconst 0, 1) := by decide +kernel
theorem dX10_isRising_18 : decode cX10_isRising 18 = .ok (.iaload, 1) := by decide +kernel
theorem dX10_isRising_19 : decode cX10_isRising 19 = .ok (.if_icmp .ge 41, 3) := by decide +kernel
theorem dX10_isRising_22 : decode cX10_isRising 22 = .ok (.aload_n 0, 1) := by decide +kernel
theorem dX10_isRising_23 : decode cX10_isRising 23 = .ok (.getfield 11, 3) := by decide +kernel
theorem dX10_isRising_26 : decode cX10_isRising 26 = .ok (.iconst 1, 1) := by decide +kernel
theorem dX10_isRising_27 : decode cX10_isRising 27 = .ok (.iaload, 1) := by decide +kernel
theorem dX10_isRising_28 : decode cX10_isRising 28 = .ok (.iload_n 1, 1) := by decide +kernel
theorem dX10_isRising_29 : decode cX10_isRising 29 = .ok (.invokestatic 97, 3) := by decide +kernel
theorem dX10_isRising_32 : decode cX10_isRising 32 = .ok (.ifCond .eq 22, 3) := by decide +kernel
theorem dX10_isRising_35 : decode cX10_isRising 35 = .ok (.aload_n 0, 1) := by decide +kernel
theorem dX10_isRising_36 : decode cX10_isRising 36 = .ok (.getfield 11, 3) := by decide +kernel
theorem dX10_isRising_39 : decode cX10_isRising 39 = .ok (.iconst 1, 1) := by decide +kernel
theorem dX10_isRising_40 : decode cX10_isRising 40 = .ok (.iaload, 1) := by decide +kernel
theorem dX10_isRising_41 : decode cX10_isRising 41 = .ok (.iload_n 1, 1) := by decide +kernel
theorem dX10_isRising_42 : decode cX10_isRising 42 = .ok (.iconst 1, 1) := by decide +kernel
theorem dX10_isRising_43 : decode cX10_isRising 43 = .ok (.iload_n 2, 1) := by decide +kernel
theorem dX10_isRising_44 : decode cX10_isRising 44 = .ok (.ishl, 1) := by decide +kernel
theorem dX10_isRising_45 : decode cX10_isRising 45 = .ok (.ior, 1) := by decide +kernel
theorem dX10_isRising_46 : decode cX10_isRising 46 = .ok (.invokestatic 97, 3) := by decide +kernel
theorem dX10_isRising_49 : decode cX10_isRising 49 = .ok (.ifCond .ne 5, 3) := by decide +kernel
theorem dX10_isRising_52 : decode cX10_isRising 52 = .ok (.iconst 0, 1) := by decide +kernel
theorem dX10_isRising_53 : decode cX10_isRising 53 = .ok (.ireturn, 1) := by decide +kernel
theorem dX10_isRising_54 : decode cX10_isRising 54 = .ok (.iinc 2 1, 3) := by decide +kernel
theorem dX10_isRising_57 : decode cX10_isRising 57 = .ok (.goto (-45), 3) := by decide +kernel
theorem dX10_isRising_60 : decode cX10_isRising 60 = .ok (.iinc 1 1, 3) := by decide +kernel
theorem dX10_isRising_63 : decode cX10_isRising 63 = .ok (.goto (-61), 3) := by decide +kernel
theorem dX10_isRising_66 : decode cX10_isRising 66 = .ok (.iconst 1, 1) := by decide +kernel
theorem dX10_isRising_67 : decode cX10_isRising 67 = .ok (.ireturn, 1) := by decide +kernel
theorem dX10_chowOf_0 : decode cX10_chowOf 0 = .ok (.iconst 0, 1) := by decide +kernel
theorem dX10_chowOf_1 : decode cX10_chowOf 1 = .ok (.istore_n 3, 1) := by decide +kernel
theorem dX10_chowOf_2 : decode cX10_chowOf 2 = .ok (.iconst 0, 1) := by decide +kernel
theorem dX10_chowOf_3 : decode cX10_chowOf 3 = .ok (.istore 4, 2) := by decide +kernel
theorem dX10_chowOf_5 : decode cX10_chowOf 5 = .ok (.iload 4, 2) := by decide +kernel
theorem dX10_chowOf_7 : decode cX10_chowOf 7 = .ok (.aload_n 0, 1) := by decide +kernel
theorem dX10_chowOf_8 : decode cX10_chowOf 8 = .ok (.invokevirtual 56, 3) := by decide +kernel
theorem dX10_chowOf_11 : decode cX10_chowOf 11 = .ok (.if_icmp .ge 40, 3) := by decide +kernel
theorem dX10_chowOf_14 : decode cX10_chowOf 14 = .ok (.iload_n 3, 1) := by decide +kernel
theorem dX10_chowOf_15 : decode cX10_chowOf 15 = .ok (.iload_n 1, 1) := by decide +kernel
theorem dX10_chowOf_16 : decode cX10_chowOf 16 = .ok (.iload 4, 2) := by decide +kernel
theorem dX10_chowOf_18 : decode cX10_chowOf 18 = .ok (.invokestatic 97, 3) := by decide +kernel
theorem dX10_chowOf_21 : decode cX10_chowOf 21 = .ok (.ifCond .eq 21, 3) := by decide +kernel
theorem dX10_chowOf_24 : decode cX10_chowOf 24 = .ok (.iload_n 2, 1) := by decide +kernel
theorem dX10_chowOf_25 : decode cX10_chowOf 25 = .ok (.ifCond .lt 13, 3) := by decide +kernel
theorem dX10_chowOf_28 : decode cX10_chowOf 28 = .ok (.iload 4, 2) := by decide +kernel
theorem dX10_chowOf_30 : decode cX10_chowOf 30 = .ok (.iload_n 2, 1) := by decide +kernel
theorem dX10_chowOf_31 : decode cX10_chowOf 31 = .ok (.ishr, 1) := by decide +kernel
theorem dX10_chowOf_32 : decode cX10_chowOf 32 = .ok (.iconst 1, 1) := by decide +kernel
theorem dX10_chowOf_33 : decode cX10_chowOf 33 = .ok (.iand, 1) := by decide +kernel
theorem dX10_chowOf_34 : decode cX10_chowOf 34 = .ok (.iconst 1, 1) := by decide +kernel
theorem dX10_chowOf_35 : decode cX10_chowOf 35 = .ok (.if_icmp .ne 7, 3) := by decide +kernel
theorem dX10_chowOf_38 : decode cX10_chowOf 38 = .ok (.iconst 1, 1) := by decide +kernel
theorem dX10_chowOf_39 : decode cX10_chowOf 39 = .ok (.goto 4, 3) := by decide +kernel
theorem dX10_chowOf_42 : decode cX10_chowOf 42 = .ok (.iconst 0, 1) := by decide +kernel
theorem dX10_chowOf_43 : decode cX10_chowOf 43 = .ok (.iadd, 1) := by decide +kernel
theorem dX10_chowOf_44 : decode cX10_chowOf 44 = .ok (.istore_n 3, 1) := by decide +kernel
theorem dX10_chowOf_45 : decode cX10_chowOf 45 = .ok (.iinc 4 1, 3) := by decide +kernel
theorem dX10_chowOf_48 : decode cX10_chowOf 48 = .ok (.goto (-43), 3) := by decide +kernel
theorem dX10_chowOf_51 : decode cX10_chowOf 51 = .ok (.iload_n 3, 1) := by decide +kernel
theorem dX10_chowOf_52 : decode cX10_chowOf 52 = .ok (.ireturn, 1) := by decide +kernel
theorem dX10_chow_0 : decode cX10_chow 0 = .ok (.iload_n 1, 1) := by decide +kernel
theorem dX10_chow_1 : decode cX10_chow 1 = .ok (.iconst (-1), 1) := by decide +kernel
theorem dX10_chow_2 : decode cX10_chow 2 = .ok (.if_icmp .eq 11, 3) := by decide +kernel
theorem dX10_chow_5 : decode cX10_chow 5 = .ok (.aload_n 0, 1) := by decide +kernel
theorem dX10_chow_6 : decode cX10_chow 6 = .ok (.iload_n 1, 1) := by decide +kernel
theorem dX10_chow_7 : decode cX10_chow 7 = .ok (.invokevirtual 75, 3) := by decide +kernel
theorem dX10_chow_10 : decode cX10_chow 10 = .ok (.ifCond .eq 17, 3) := by decide +kernel
theorem dX10_chow_13 : decode cX10_chow 13 = .ok (.aload_n 0, 1) := by decide +kernel
theorem dX10_chow_14 : decode cX10_chow 14 = .ok (.aload_n 0, 1) := by decide +kernel
theorem dX10_chow_15 : decode cX10_chow 15 = .ok (.getfield 11, 3) := by decide +kernel
theorem dX10_chow_18 : decode cX10_chow 18 = .ok (.iconst 1, 1) := by decide +kernel
theorem dX10_chow_19 : decode cX10_chow 19 = .ok (.iaload, 1) := by decide +kernel
theorem dX10_chow_20 : decode cX10_chow 20 = .ok (.iload_n 1, 1) := by decide +kernel
theorem dX10_chow_21 : decode cX10_chow 21 = .ok (.invokevirtual 133, 3) := by decide +kernel
theorem dX10_chow_24 : decode cX10_chow 24 = .ok (.goto 4, 3) := by decide +kernel
theorem dX10_chow_27 : decode cX10_chow 27 = .ok (.iconst (-1), 1) := by decide +kernel
theorem dX10_chow_28 : decode cX10_chow 28 = .ok (.ireturn, 1) := by decide +kernel
theorem dX10_twins_0 : decode cX10_twins 0 = .ok (.iconst 0, 1) := by decide +kernel
theorem dX10_twins_1 : decode cX10_twins 1 = .ok (.istore_n 1, 1) := by decide +kernel
theorem dX10_twins_2 : decode cX10_twins 2 = .ok (.iconst 0, 1) := by decide +kernel
theorem dX10_twins_3 : decode cX10_twins 3 = .ok (.istore_n 2, 1) := by decide +kernel
theorem dX10_twins_4 : decode cX10_twins 4 = .ok (.iload_n 2, 1) := by decide +kernel
theorem dX10_twins_5 : decode cX10_twins 5 = .ok (.aload_n 0, 1) := by decide +kernel
theorem dX10_twins_6 : decode cX10_twins 6 = .ok (.invokevirtual 72, 3) := by decide +kernel
theorem dX10_twins_9 : decode cX10_twins 9 = .ok (.if_icmp .gt 70, 3) := by decide +kernel
theorem dX10_twins_12 : decode cX10_twins 12 = .ok (.iconst 1, 1) := by decide +kernel
theorem dX10_twins_13 : decode cX10_twins 13 = .ok (.istore_n 3, 1) := by decide +kernel
theorem dX10_twins_14 : decode cX10_twins 14 = .ok (.iconst (-1), 1) := by decide +kernel
theorem dX10_twins_15 : decode cX10_twins 15 = .ok (.istore 4, 2) := by decide +kernel
theorem dX10_twins_17 : decode cX10_twins 17 = .ok (.iload 4, 2) := by decide +kernel
theorem dX10_twins_19 : decode cX10_twins 19 = .ok (.aload_n 0, 1) := by decide +kernel
theorem dX10_twins_20 : decode cX10_twins 20 = .ok (.getfield 11, 3) := by decide +kernel
theorem dX10_twins_23 : decode cX10_twins 23 = .ok (.iconst 0, 1) := by decide +kernel
theorem dX10_twins_24 : decode cX10_twins 24 = .ok (.iaload, 1) := by decide +kernel
theorem dX10_twins_25 : decode cX10_twins 25 = .ok (.if_icmp .ge 41, 3) := by decide +kernel
theorem dX10_twins_28 : decode cX10_twins 28 = .ok (.iload_n 3, 1) := by decide +kernel
theorem dX10_twins_29 : decode cX10_twins 29 = .ok (.ifCond .eq 37, 3) := by decide +kernel
theorem dX10_twins_32 : decode cX10_twins 32 = .ok (.aload_n 0, 1) := by decide +kernel
theorem dX10_twins_33 : decode cX10_twins 33 = .ok (.iload_n 2, 1) := by decide +kernel
theorem dX10_twins_34 : decode cX10_twins 34 = .ok (.iload 4, 2) := by decide +kernel
theorem dX10_twins_36 : decode cX10_twins 36 = .ok (.invokevirtual 133, 3) := by decide +kernel
theorem dX10_twins_39 : decode cX10_twins 39 = .ok (.aload_n 0, 1) := by decide +kernel
theorem dX10_twins_40 : decode cX10_twins 40 = .ok (.aload_n 0, 1) := by decide +kernel
theorem dX10_twins_41 : decode cX10_twins 41 = .ok (.getfield 11, 3) := by decide +kernel
theorem dX10_twins_44 : decode cX10_twins 44 = .ok (.iconst 1, 1) := by decide +kernel
theorem dX10_twins_45 : decode cX10_twins 45 = .ok (.iaload, 1) := by decide +kernel
theorem dX10_twins_46 : decode cX10_twins 46 = .ok (.iload 4, 2) := by decide +kernel
theorem dX10_twins_48 : decode cX10_twins 48 = .ok (.invokevirtual 133, 3) := by decide +kernel
theorem dX10_twins_51 : decode cX10_twins 51 = .ok (.if_icmp .ne 7, 3) := by decide +kernel
theorem dX10_twins_54 : decode cX10_twins 54 = .ok (.iconst 1, 1) := by decide +kernel
theorem dX10_twins_55 : decode cX10_twins 55 = .ok (.goto 4, 3) := by decide +kernel
theorem dX10_twins_58 : decode cX10_twins 58 = .ok (.iconst 0, 1) := by decide +kernel
theorem dX10_twins_59 : decode cX10_twins 59 = .ok (.istore_n 3, 1) := by decide +kernel
theorem dX10_twins_60 : decode cX10_twins 60 = .ok (.iinc 4 1, 3) := by decide +kernel
theorem dX10_twins_63 : decode cX10_twins 63 = .ok (.goto (-46), 3) := by decide +kernel
theorem dX10_twins_66 : decode cX10_twins 66 = .ok (.iload_n 1, 1) := by decide +kernel
theorem dX10_twins_67 : decode cX10_twins 67 = .ok (.iload_n 3, 1) := by decide +kernel
theorem dX10_twins_68 : decode cX10_twins 68 = .ok (.invokestatic 90, 3) := by decide +kernel
theorem dX10_twins_71 : decode cX10_twins 71 = .ok (.iadd, 1) := by decide +kernel
theorem dX10_twins_72 : decode cX10_twins 72 = .ok (.istore_n 1, 1) := by decide +kernel
theorem dX10_twins_73 : decode cX10_twins 73 = .ok (.iinc 2 1, 3) := by decide +kernel
theorem dX10_twins_76 : decode cX10_twins 76 = .ok (.goto (-72), 3) := by decide +kernel
theorem dX10_twins_79 : decode cX10_twins 79 = .ok (.iload_n 1, 1) := by decide +kernel
theorem dX10_twins_80 : decode cX10_twins 80 = .ok (.ireturn, 1) := by decide +kernel
theorem dX10_isLeastLot_0 : decode cX10_isLeastLot 0 = .ok (.aload_n 0, 1) := by decide +kernel
theorem dX10_isLeastLot_1 : decode cX10_isLeastLot 1 = .ok (.getfield 11, 3) := by decide +kernel
theorem dX10_isLeastLot_4 : decode cX10_isLeastLot 4 = .ok (.iconst 1, 1) := by decide +kernel
theorem dX10_isLeastLot_5 : decode cX10_isLeastLot 5 = .ok (.iaload, 1) := by decide +kernel
theorem dX10_isLeastLot_6 : decode cX10_isLeastLot 6 = .ok (.iload_n 1, 1) := by decide +kernel
theorem dX10_isLeastLot_7 : decode cX10_isLeastLot 7 = .ok (.invokestatic 97, 3) := by decide +kernel
theorem dX10_isLeastLot_10 : decode cX10_isLeastLot 10 = .ok (.ifCond .ne 5, 3) := by decide +kernel
theorem dX10_isLeastLot_13 : decode cX10_isLeastLot 13 = .ok (.iconst 0, 1) := by decide +kernel
theorem dX10_isLeastLot_14 : decode cX10_isLeastLot 14 = .ok (.ireturn, 1) := by decide +kernel
theorem dX10_isLeastLot_15 : decode cX10_isLeastLot 15 = .ok (.iconst 0, 1) := by decide +kernel
theorem dX10_isLeastLot_16 : decode cX10_isLeastLot 16 = .ok (.istore_n 2, 1) := by decide +kernel
theorem dX10_isLeastLot_17 : decode cX10_isLeastLot 17 = .ok (.iload_n 2, 1) := by decide +kernel
theorem dX10_isLeastLot_18 : decode cX10_isLeastLot 18 = .ok (.iload_n 1, 1) := by decide +kernel
theorem dX10_isLeastLot_19 : decode cX10_isLeastLot 19 = .ok (.if_icmp .ge 32, 3) := by decide +kernel
theorem dX10_isLeastLot_22 : decode cX10_isLeastLot 22 = .ok (.iload_n 2, 1) := by decide +kernel
theorem dX10_isLeastLot_23 : decode cX10_isLeastLot 23 = .ok (.iload_n 1, 1) := by decide +kernel
theorem dX10_isLeastLot_24 : decode cX10_isLeastLot 24 = .ok (.iconst (-1), 1) := by decide +kernel
theorem dX10_isLeastLot_25 : decode cX10_isLeastLot 25 = .ok (.ixor, 1) := by decide +kernel
theorem dX10_isLeastLot_26 : decode cX10_isLeastLot 26 = .ok (.iand, 1) := by decide +kernel
theorem dX10_isLeastLot_27 : decode cX10_isLeastLot 27 = .ok (.ifCond .ne 18, 3) := by decide +kernel
theorem dX10_isLeastLot_30 : decode cX10_isLeastLot 30 = .ok (.aload_n 0, 1) := by decide +kernel
theorem dX10_isLeastLot_31 : decode cX10_isLeastLot 31 = .ok (.getfield 11, 3) := by decide +kernel
theorem dX10_isLeastLot_34 : decode cX10_isLeastLot 34 = .ok (.iconst 1, 1) := by decide +kernel
theorem dX10_isLeastLot_35 : decode cX10_isLeastLot 35 = .ok (.iaload, 1) := by decide +kernel
theorem dX10_isLeastLot_36 : decode cX10_isLeastLot 36 = .ok (.iload_n 2, 1) := by decide +kernel
theorem dX10_isLeastLot_37 : decode cX10_isLeastLot 37 = .ok (.invokestatic 97, 3) := by decide +kernel
theorem dX10_isLeastLot_40 : decode cX10_isLeastLot 40 = .ok (.ifCond .eq 5, 3) := by decide +kernel
theorem dX10_isLeastLot_43 : decode cX10_isLeastLot 43 = .ok (.iconst 0, 1) := by decide +kernel
theorem dX10_isLeastLot_44 : decode cX10_isLeastLot 44 = .ok (.ireturn, 1) := by decide +kernel
theorem dX10_isLeastLot_45 : decode cX10_isLeastLot 45 = .ok (.iinc 2 1, 3) := by decide +kernel
theorem dX10_isLeastLot_48 : decode cX10_isLeastLot 48 = .ok (.goto (-31), 3) := by decide +kernel
theorem dX10_isLeastLot_51 : decode cX10_isLeastLot 51 = .ok (.iconst 1, 1) := by decide +kernel
theorem dX10_isLeastLot_52 : decode cX10_isLeastLot 52 = .ok (.ireturn, 1) := by decide +kernel
end
section
theorem dX10_nthLeast_0 : decode cX10_nthLeast 0 = .ok (.iconst 0, 1) := by decide +kernel
theorem dX10_nthLeast_1 : decode cX10_nthLeast 1 = .ok (.istore_n 2, 1) := by decide +kernel
theorem dX10_nthLeast_2 : decode cX10_nthLeast 2 = .ok (.iconst 0, 1) := by decide +kernel
theorem dX10_nthLeast_3 : decode cX10_nthLeast 3 = .ok (.istore_n 3, 1) := by decide +kernel
theorem dX10_nthLeast_4 : decode cX10_nthLeast 4 = .ok (.iload_n 3, 1) := by decide +kernel
theorem dX10_nthLeast_5 : decode cX10_nthLeast 5 = .ok (.aload_n 0, 1) := by decide +kernel
theorem dX10_nthLeast_6 : decode cX10_nthLeast 6 = .ok (.invokevirtual 56, 3) := by decide +kernel
theorem dX10_nthLeast_9 : decode cX10_nthLeast 9 = .ok (.if_icmp .ge 27, 3) := by decide +kernel
theorem dX10_nthLeast_12 : decode cX10_nthLeast 12 = .ok (.aload_n 0, 1) := by decide +kernel
theorem dX10_nthLeast_13 : decode cX10_nthLeast 13 = .ok (.iload_n 3, 1) := by decide +kernel
theorem dX10_nthLeast_14 : decode cX10_nthLeast 14 = .ok (.invokevirtual 136, 3) := by decide +kernel
theorem dX10_nthLeast_17 : decode cX10_nthLeast 17 = .ok (.ifCond .eq 13, 3) := by decide +kernel
theorem dX10_nthLeast_20 : decode cX10_nthLeast 20 = .ok (.iload_n 2, 1) := by decide +kernel
theorem dX10_nthLeast_21 : decode cX10_nthLeast 21 = .ok (.iload_n 1, 1) := by decide +kernel
theorem dX10_nthLeast_22 : decode cX10_nthLeast 22 = .ok (.if_icmp .ne 5, 3) := by decide +kernel
theorem dX10_nthLeast_25 : decode cX10_nthLeast 25 = .ok (.iload_n 3, 1) := by decide +kernel
theorem dX10_nthLeast_26 : decode cX10_nthLeast 26 = .ok (.ireturn, 1) := by decide +kernel
theorem dX10_nthLeast_27 : decode cX10_nthLeast 27 = .ok (.iinc 2 1, 3) := by decide +kernel
theorem dX10_nthLeast_30 : decode cX10_nthLeast 30 = .ok (.iinc 3 1, 3) := by decide +kernel
theorem dX10_nthLeast_33 : decode cX10_nthLeast 33 = .ok (.goto (-29), 3) := by decide +kernel
theorem dX10_nthLeast_36 : decode cX10_nthLeast 36 = .ok (.iload_n 1, 1) := by decide +kernel
theorem dX10_nthLeast_37 : decode cX10_nthLeast 37 = .ok (.ifCond .ge 7, 3) := by decide +kernel
theorem dX10_nthLeast_40 : decode cX10_nthLeast 40 = .ok (.iload_n 2, 1) := by decide +kernel
theorem dX10_nthLeast_41 : decode cX10_nthLeast 41 = .ok (.goto 5, 3) := by decide +kernel
theorem dX10_nthLeast_44 : decode cX10_nthLeast 44 = .ok (.bipush (-5), 2) := by decide +kernel
theorem dX10_nthLeast_46 : decode cX10_nthLeast 46 = .ok (.ireturn, 1) := by decide +kernel
theorem dX10_leastLot_0 : decode cX10_leastLot 0 = .ok (.iload_n 1, 1) := by decide +kernel
theorem dX10_leastLot_1 : decode cX10_leastLot 1 = .ok (.ifCond .ge 7, 3) := by decide +kernel
theorem dX10_leastLot_4 : decode cX10_leastLot 4 = .ok (.iconst (-1), 1) := by decide +kernel
theorem dX10_leastLot_5 : decode cX10_leastLot 5 = .ok (.goto 8, 3) := by decide +kernel
theorem dX10_leastLot_8 : decode cX10_leastLot 8 = .ok (.aload_n 0, 1) := by decide +kernel
theorem dX10_leastLot_9 : decode cX10_leastLot 9 = .ok (.iload_n 1, 1) := by decide +kernel
theorem dX10_leastLot_10 : decode cX10_leastLot 10 = .ok (.invokevirtual 139, 3) := by decide +kernel
theorem dX10_leastLot_13 : decode cX10_leastLot 13 = .ok (.ireturn, 1) := by decide +kernel
theorem dX10_swings_0 : decode cX10_swings 0 = .ok (.aload_n 0, 1) := by decide +kernel
theorem dX10_swings_1 : decode cX10_swings 1 = .ok (.iload_n 1, 1) := by decide +kernel
theorem dX10_swings_2 : decode cX10_swings 2 = .ok (.invokevirtual 75, 3) := by decide +kernel
theorem dX10_swings_5 : decode cX10_swings 5 = .ok (.ifCond .ne 5, 3) := by decide +kernel
theorem dX10_swings_8 : decode cX10_swings 8 = .ok (.iconst (-1), 1) := by decide +kernel
theorem dX10_swings_9 : decode cX10_swings 9 = .ok (.ireturn, 1) := by decide +kernel
theorem dX10_swings_10 : decode cX10_swings 10 = .ok (.iconst 0, 1) := by decide +kernel
theorem dX10_swings_11 : decode cX10_swings 11 = .ok (.istore_n 2, 1) := by decide +kernel
theorem dX10_swings_12 : decode cX10_swings 12 = .ok (.iconst 0, 1) := by decide +kernel
theorem dX10_swings_13 : decode cX10_swings 13 = .ok (.istore_n 3, 1) := by decide +kernel
theorem dX10_swings_14 : decode cX10_swings 14 = .ok (.iload_n 3, 1) := by decide +kernel
theorem dX10_swings_15 : decode cX10_swings 15 = .ok (.aload_n 0, 1) := by decide +kernel
theorem dX10_swings_16 : decode cX10_swings 16 = .ok (.invokevirtual 56, 3) := by decide +kernel
theorem dX10_swings_19 : decode cX10_swings 19 = .ok (.if_icmp .ge 52, 3) := by decide +kernel
theorem dX10_swings_22 : decode cX10_swings 22 = .ok (.iload_n 2, 1) := by decide +kernel
theorem dX10_swings_23 : decode cX10_swings 23 = .ok (.iload_n 3, 1) := by decide +kernel
theorem dX10_swings_24 : decode cX10_swings 24 = .ok (.iload_n 1, 1) := by decide +kernel
theorem dX10_swings_25 : decode cX10_swings 25 = .ok (.ishr, 1) := by decide +kernel
theorem dX10_swings_26 : decode cX10_swings 26 = .ok (.iconst 1, 1) := by decide +kernel
theorem dX10_swings_27 : decode cX10_swings 27 = .ok (.iand, 1) := by decide +kernel
theorem dX10_swings_28 : decode cX10_swings 28 = .ok (.ifCond .ne 34, 3) := by decide +kernel
theorem dX10_swings_31 : decode cX10_swings 31 = .ok (.aload_n 0, 1) := by decide +kernel
theorem dX10_swings_32 : decode cX10_swings 32 = .ok (.getfield 11, 3) := by decide +kernel
theorem dX10_swings_35 : decode cX10_swings 35 = .ok (.iconst 1, 1) := by decide +kernel
theorem dX10_swings_36 : decode cX10_swings 36 = .ok (.iaload, 1) := by decide +kernel
theorem dX10_swings_37 : decode cX10_swings 37 = .ok (.iload_n 3, 1) := by decide +kernel
theorem dX10_swings_38 : decode cX10_swings 38 = .ok (.invokestatic 97, 3) := by decide +kernel
theorem dX10_swings_41 : decode cX10_swings 41 = .ok (.aload_n 0, 1) := by decide +kernel
theorem dX10_swings_42 : decode cX10_swings 42 = .ok (.getfield 11, 3) := by decide +kernel
theorem dX10_swings_45 : decode cX10_swings 45 = .ok (.iconst 1, 1) := by decide +kernel
theorem dX10_swings_46 : decode cX10_swings 46 = .ok (.iaload, 1) := by decide +kernel
theorem dX10_swings_47 : decode cX10_swings 47 = .ok (.iload_n 3, 1) := by decide +kernel
theorem dX10_swings_48 : decode cX10_swings 48 = .ok (.iconst 1, 1) := by decide +kernel
theorem dX10_swings_49 : decode cX10_swings 49 = .ok (.iload_n 1, 1) := by decide +kernel
theorem dX10_swings_50 : decode cX10_swings 50 = .ok (.ishl, 1) := by decide +kernel
theorem dX10_swings_51 : decode cX10_swings 51 = .ok (.ior, 1) := by decide +kernel
theorem dX10_swings_52 : decode cX10_swings 52 = .ok (.invokestatic 97, 3) := by decide +kernel
theorem dX10_swings_55 : decode cX10_swings 55 = .ok (.if_icmp .eq 7, 3) := by decide +kernel
theorem dX10_swings_58 : decode cX10_swings 58 = .ok (.iconst 1, 1) := by decide +kernel
theorem dX10_swings_59 : decode cX10_swings 59 = .ok (.goto 4, 3) := by decide +kernel
theorem dX10_swings_62 : decode cX10_swings 62 = .ok (.iconst 0, 1) := by decide +kernel
theorem dX10_swings_63 : decode cX10_swings 63 = .ok (.iadd, 1) := by decide +kernel
theorem dX10_swings_64 : decode cX10_swings 64 = .ok (.istore_n 2, 1) := by decide +kernel
theorem dX10_swings_65 : decode cX10_swings 65 = .ok (.iinc 3 1, 3) := by decide +kernel
theorem dX10_swings_68 : decode cX10_swings 68 = .ok (.goto (-54), 3) := by decide +kernel
theorem dX10_swings_71 : decode cX10_swings 71 = .ok (.iload_n 2, 1) := by decide +kernel
theorem dX10_swings_72 : decode cX10_swings 72 = .ok (.ireturn, 1) := by decide +kernel
theorem dX10_moved_0 : decode cX10_moved 0 = .ok (.aload_n 0, 1) := by decide +kernel
theorem dX10_moved_1 : decode cX10_moved 1 = .ok (.getfield 11, 3) := by decide +kernel
theorem dX10_moved_4 : decode cX10_moved 4 = .ok (.iconst 0, 1) := by decide +kernel
theorem dX10_moved_5 : decode cX10_moved 5 = .ok (.iaload, 1) := by decide +kernel
theorem dX10_moved_6 : decode cX10_moved 6 = .ok (.istore_n 3, 1) := by decide +kernel
theorem dX10_moved_7 : decode cX10_moved 7 = .ok (.iload_n 2, 1) := by decide +kernel
theorem dX10_moved_8 : decode cX10_moved 8 = .ok (.iload_n 3, 1) := by decide +kernel
theorem dX10_moved_9 : decode cX10_moved 9 = .ok (.if_icmp .ge 12, 3) := by decide +kernel
theorem dX10_moved_12 : decode cX10_moved 12 = .ok (.aload_n 0, 1) := by decide +kernel
theorem dX10_moved_13 : decode cX10_moved 13 = .ok (.iload_n 1, 1) := by decide +kernel
theorem dX10_moved_14 : decode cX10_moved 14 = .ok (.iload_n 2, 1) := by decide +kernel
theorem dX10_moved_15 : decode cX10_moved 15 = .ok (.invokevirtual 110, 3) := by decide +kernel
theorem dX10_moved_18 : decode cX10_moved 18 = .ok (.goto 53, 3) := by decide +kernel
theorem dX10_moved_21 : decode cX10_moved 21 = .ok (.iload_n 2, 1) := by decide +kernel
theorem dX10_moved_22 : decode cX10_moved 22 = .ok (.iconst 2, 1) := by decide +kernel
theorem dX10_moved_23 : decode cX10_moved 23 = .ok (.iload_n 3, 1) := by decide +kernel
theorem dX10_moved_24 : decode cX10_moved 24 = .ok (.imul, 1) := by decide +kernel
theorem dX10_moved_25 : decode cX10_moved 25 = .ok (.iconst 1, 1) := by decide +kernel
theorem dX10_moved_26 : decode cX10_moved 26 = .ok (.isub, 1) := by decide +kernel
theorem dX10_moved_27 : decode cX10_moved 27 = .ok (.if_icmp .ge 19, 3) := by decide +kernel
theorem dX10_moved_30 : decode cX10_moved 30 = .ok (.aload_n 0, 1) := by decide +kernel
theorem dX10_moved_31 : decode cX10_moved 31 = .ok (.iload_n 1, 1) := by decide +kernel
theorem dX10_moved_32 : decode cX10_moved 32 = .ok (.iload_n 2, 1) := by decide +kernel
theorem dX10_moved_33 : decode cX10_moved 33 = .ok (.iload_n 3, 1) := by decide +kernel
theorem dX10_moved_34 : decode cX10_moved 34 = .ok (.isub, 1) := by decide +kernel
theorem dX10_moved_35 : decode cX10_moved 35 = .ok (.iload_n 2, 1) := by decide +kernel
theorem dX10_moved_36 : decode cX10_moved 36 = .ok (.iload_n 3, 1) := by decide +kernel
theorem dX10_moved_37 : decode cX10_moved 37 = .ok (.isub, 1) := by decide +kernel
theorem dX10_moved_38 : decode cX10_moved 38 = .ok (.iconst 1, 1) := by decide +kernel
theorem dX10_moved_39 : decode cX10_moved 39 = .ok (.iadd, 1) := by decide +kernel
theorem dX10_moved_40 : decode cX10_moved 40 = .ok (.invokevirtual 114, 3) := by decide +kernel
theorem dX10_moved_43 : decode cX10_moved 43 = .ok (.goto 28, 3) := by decide +kernel
theorem dX10_moved_46 : decode cX10_moved 46 = .ok (.iload_n 2, 1) := by decide +kernel
theorem dX10_moved_47 : decode cX10_moved 47 = .ok (.iconst 2, 1) := by decide +kernel
theorem dX10_moved_48 : decode cX10_moved 48 = .ok (.iload_n 3, 1) := by decide +kernel
theorem dX10_moved_49 : decode cX10_moved 49 = .ok (.imul, 1) := by decide +kernel
theorem dX10_moved_50 : decode cX10_moved 50 = .ok (.iconst 1, 1) := by decide +kernel
theorem dX10_moved_51 : decode cX10_moved 51 = .ok (.isub, 1) := by decide +kernel
theorem dX10_moved_52 : decode cX10_moved 52 = .ok (.if_icmp .ne 11, 3) := by decide +kernel
theorem dX10_moved_55 : decode cX10_moved 55 = .ok (.aload_n 0, 1) := by decide +kernel
theorem dX10_moved_56 : decode cX10_moved 56 = .ok (.iload_n 1, 1) := by decide +kernel
theorem dX10_moved_57 : decode cX10_moved 57 = .ok (.invokevirtual 107, 3) := by decide +kernel
theorem dX10_moved_60 : decode cX10_moved 60 = .ok (.goto 11, 3) := by decide +kernel
theorem dX10_moved_63 : decode cX10_moved 63 = .ok (.aload_n 0, 1) := by decide +kernel
theorem dX10_moved_64 : decode cX10_moved 64 = .ok (.invokevirtual 72, 3) := by decide +kernel
theorem dX10_moved_67 : decode cX10_moved 67 = .ok (.iload_n 1, 1) := by decide +kernel
theorem dX10_moved_68 : decode cX10_moved 68 = .ok (.iconst (-1), 1) := by decide +kernel
theorem dX10_moved_69 : decode cX10_moved 69 = .ok (.ixor, 1) := by decide +kernel
theorem dX10_moved_70 : decode cX10_moved 70 = .ok (.iand, 1) := by decide +kernel
theorem dX10_moved_71 : decode cX10_moved 71 = .ok (.ireturn, 1) := by decide +kernel
theorem dX10_reached_0 : decode cX10_reached 0 = .ok (.iconst 0, 1) := by decide +kernel
theorem dX10_reached_1 : decode cX10_reached 1 = .ok (.istore_n 1, 1) := by decide +kernel
theorem dX10_reached_2 : decode cX10_reached 2 = .ok (.iload_n 1, 1) := by decide +kernel
theorem dX10_reached_3 : decode cX10_reached 3 = .ok (.aload_n 0, 1) := by decide +kernel
theorem dX10_reached_4 : decode cX10_reached 4 = .ok (.invokevirtual 72, 3) := by decide +kernel
theorem dX10_reached_7 : decode cX10_reached 7 = .ok (.if_icmp .gt 17, 3) := by decide +kernel
theorem dX10_reached_10 : decode cX10_reached 10 = .ok (.aload_n 0, 1) := by decide +kernel
theorem dX10_reached_11 : decode cX10_reached 11 = .ok (.getfield 25, 3) := by decide +kernel
theorem dX10_reached_14 : decode cX10_reached 14 = .ok (.iload_n 1, 1) := by decide +kernel
theorem dX10_reached_15 : decode cX10_reached 15 = .ok (.bipush (-5), 2) := by decide +kernel
theorem dX10_reached_17 : decode cX10_reached 17 = .ok (.iastore, 1) := by decide +kernel
theorem dX10_reached_18 : decode cX10_reached 18 = .ok (.iinc 1 1, 3) := by decide +kernel
theorem dX10_reached_21 : decode cX10_reached 21 = .ok (.goto (-19), 3) := by decide +kernel
theorem dX10_reached_24 : decode cX10_reached 24 = .ok (.aload_n 0, 1) := by decide +kernel
theorem dX10_reached_25 : decode cX10_reached 25 = .ok (.getfield 25, 3) := by decide +kernel
theorem dX10_reached_28 : decode cX10_reached 28 = .ok (.aload_n 0, 1) := by decide +kernel
theorem dX10_reached_29 : decode cX10_reached 29 = .ok (.getfield 11, 3) := by decide +kernel
theorem dX10_reached_32 : decode cX10_reached 32 = .ok (.iconst 1, 1) := by decide +kernel
theorem dX10_reached_33 : decode cX10_reached 33 = .ok (.iaload, 1) := by decide +kernel
theorem dX10_reached_34 : decode cX10_reached 34 = .ok (.iconst 0, 1) := by decide +kernel
theorem dX10_reached_35 : decode cX10_reached 35 = .ok (.iastore, 1) := by decide +kernel
theorem dX10_reached_36 : decode cX10_reached 36 = .ok (.aload_n 0, 1) := by decide +kernel
theorem dX10_reached_37 : decode cX10_reached 37 = .ok (.getfield 28, 3) := by decide +kernel
theorem dX10_reached_40 : decode cX10_reached 40 = .ok (.iconst 0, 1) := by decide +kernel
theorem dX10_reached_41 : decode cX10_reached 41 = .ok (.aload_n 0, 1) := by decide +kernel
theorem dX10_reached_42 : decode cX10_reached 42 = .ok (.getfield 11, 3) := by decide +kernel
theorem dX10_reached_45 : decode cX10_reached 45 = .ok (.iconst 1, 1) := by decide +kernel
theorem dX10_reached_46 : decode cX10_reached 46 = .ok (.iaload, 1) := by decide +kernel
theorem dX10_reached_47 : decode cX10_reached 47 = .ok (.iastore, 1) := by decide +kernel
theorem dX10_reached_48 : decode cX10_reached 48 = .ok (.iconst 1, 1) := by decide +kernel
theorem dX10_reached_49 : decode cX10_reached 49 = .ok (.istore_n 1, 1) := by decide +kernel
theorem dX10_reached_50 : decode cX10_reached 50 = .ok (.iconst 0, 1) := by decide +kernel
theorem dX10_reached_51 : decode cX10_reached 51 = .ok (.istore_n 2, 1) := by decide +kernel
theorem dX10_reached_52 : decode cX10_reached 52 = .ok (.iload_n 2, 1) := by decide +kernel
theorem dX10_reached_53 : decode cX10_reached 53 = .ok (.iload_n 1, 1) := by decide +kernel
theorem dX10_reached_54 : decode cX10_reached 54 = .ok (.if_icmp .ge 85, 3) := by decide +kernel
theorem dX10_reached_57 : decode cX10_reached 57 = .ok (.iconst 0, 1) := by decide +kernel
theorem dX10_reached_58 : decode cX10_reached 58 = .ok (.istore_n 3, 1) := by decide +kernel
theorem dX10_reached_59 : decode cX10_reached 59 = .ok (.iload_n 3, 1) := by decide +kernel
theorem dX10_reached_60 : decode cX10_reached 60 = .ok (.iconst 2, 1) := by decide +kernel
theorem dX10_reached_61 : decode cX10_reached 61 = .ok (.aload_n 0, 1) := by decide +kernel
theorem dX10_reached_62 : decode cX10_reached 62 = .ok (.getfield 11, 3) := by decide +kernel
theorem dX10_reached_65 : decode cX10_reached 65 = .ok (.iconst 0, 1) := by decide +kernel
theorem dX10_reached_66 : decode cX10_reached 66 = .ok (.iaload, 1) := by decide +kernel
theorem dX10_reached_67 : decode cX10_reached 67 = .ok (.imul, 1) := by decide +kernel
theorem dX10_reached_68 : decode cX10_reached 68 = .ok (.if_icmp .gt 65, 3) := by decide +kernel
theorem dX10_reached_71 : decode cX10_reached 71 = .ok (.aload_n 0, 1) := by decide +kernel
theorem dX10_reached_72 : decode cX10_reached 72 = .ok (.aload_n 0, 1) := by decide +kernel
theorem dX10_reached_73 : decode cX10_reached 73 = .ok (.getfield 28, 3) := by decide +kernel
theorem dX10_reached_76 : decode cX10_reached 76 = .ok (.iload_n 2, 1) := by decide +kernel
theorem dX10_reached_77 : decode cX10_reached 77 = .ok (.iaload, 1) := by decide +kernel
theorem dX10_reached_78 : decode cX10_reached 78 = .ok (.iload_n 3, 1) := by decide +kernel
theorem dX10_reached_79 : decode cX10_reached 79 = .ok (.invokevirtual 142, 3) := by decide +kernel
theorem dX10_reached_82 : decode cX10_reached 82 = .ok (.istore 4, 2) := by decide +kernel
theorem dX10_reached_84 : decode cX10_reached 84 = .ok (.aload_n 0, 1) := by decide +kernel
theorem dX10_reached_85 : decode cX10_reached 85 = .ok (.getfield 25, 3) := by decide +kernel
theorem dX10_reached_88 : decode cX10_reached 88 = .ok (.iload 4, 2) := by decide +kernel
theorem dX10_reached_90 : decode cX10_reached 90 = .ok (.iaload, 1) := by decide +kernel
theorem dX10_reached_91 : decode cX10_reached 91 = .ok (.bipush (-5), 2) := by decide +kernel
theorem dX10_reached_93 : decode cX10_reached 93 = .ok (.if_icmp .ne 34, 3) := by decide +kernel
theorem dX10_reached_96 : decode cX10_reached 96 = .ok (.aload_n 0, 1) := by decide +kernel
theorem dX10_reached_97 : decode cX10_reached 97 = .ok (.getfield 25, 3) := by decide +kernel
theorem dX10_reached_100 : decode cX10_reached 100 = .ok (.iload 4, 2) := by decide +kernel
theorem dX10_reached_102 : decode cX10_reached 102 = .ok (.aload_n 0, 1) := by decide +kernel
theorem dX10_reached_103 : decode cX10_reached 103 = .ok (.getfield 25, 3) := by decide +kernel
theorem dX10_reached_106 : decode cX10_reached 106 = .ok (.aload_n 0, 1) := by decide +kernel
theorem dX10_reached_107 : decode cX10_reached 107 = .ok (.getfield 28, 3) := by decide +kernel
theorem dX10_reached_110 : decode cX10_reached 110 = .ok (.iload_n 2, 1) := by decide +kernel
theorem dX10_reached_111 : decode cX10_reached 111 = .ok (.iaload, 1) := by decide +kernel
theorem dX10_reached_112 : decode cX10_reached 112 = .ok (.iaload, 1) := by decide +kernel
theorem dX10_reached_113 : decode cX10_reached 113 = .ok (.iconst 1, 1) := by decide +kernel
theorem dX10_reached_114 : decode cX10_reached 114 = .ok (.iadd, 1) := by decide +kernel
theorem dX10_reached_115 : decode cX10_reached 115 = .ok (.iastore, 1) := by decide +kernel
theorem dX10_reached_116 : decode cX10_reached 116 = .ok (.aload_n 0, 1) := by decide +kernel
theorem dX10_reached_117 : decode cX10_reached 117 = .ok (.getfield 28, 3) := by decide +kernel
theorem dX10_reached_120 : decode cX10_reached 120 = .ok (.iload_n 1, 1) := by decide +kernel
theorem dX10_reached_121 : decode cX10_reached 121 = .ok (.iload 4, 2) := by decide +kernel
theorem dX10_reached_123 : decode cX10_reached 123 = .ok (.iastore, 1) := by decide +kernel
theorem dX10_reached_124 : decode cX10_reached 124 = .ok (.iinc 1 1, 3) := by decide +kernel
theorem dX10_reached_127 : decode cX10_reached 127 = .ok (.iinc 3 1, 3) := by decide +kernel
theorem dX10_reached_130 : decode cX10_reached 130 = .ok (.goto (-71), 3) := by decide +kernel
theorem dX10_reached_133 : decode cX10_reached 133 = .ok (.iinc 2 1, 3) := by decide +kernel
theorem dX10_reached_136 : decode cX10_reached 136 = .ok (.goto (-84), 3) := by decide +kernel
theorem dX10_reached_139 : decode cX10_reached 139 = .ok (.iload_n 1, 1) := by decide +kernel
theorem dX10_reached_140 : decode cX10_reached 140 = .ok (.ireturn, 1) := by decide +kernel
theorem dX10_steps_0 : decode cX10_steps 0 = .ok (.aload_n 0, 1) := by decide +kernel
theorem dX10_steps_1 : decode cX10_steps 1 = .ok (.invokevirtual 145, 3) := by decide +kernel
theorem dX10_steps_4 : decode cX10_steps 4 = .ok (.istore_n 1, 1) := by decide +kernel
theorem dX10_steps_5 : decode cX10_steps 5 = .ok (.iload_n 1, 1) := by decide +kernel
theorem dX10_steps_6 : decode cX10_steps 6 = .ok (.ifCond .le 17, 3) := by decide +kernel
theorem dX10_steps_9 : decode cX10_steps 9 = .ok (.aload_n 0, 1) := by decide +kernel
theorem dX10_steps_10 : decode cX10_steps 10 = .ok (.getfield 25, 3) := by decide +kernel
theorem dX10_steps_13 : decode cX10_steps 13 = .ok (.aload_n 0, 1) := by decide +kernel
theorem dX10_steps_14 : decode cX10_steps 14 = .ok (.getfield 11, 3) := by decide +kernel
theorem dX10_steps_17 : decode cX10_steps 17 = .ok (.iconst 2, 1) := by decide +kernel
theorem dX10_steps_18 : decode cX10_steps 18 = .ok (.iaload, 1) := by decide +kernel
theorem dX10_steps_19 : decode cX10_steps 19 = .ok (.iaload, 1) := by decide +kernel
theorem dX10_steps_20 : decode cX10_steps 20 = .ok (.goto 5, 3) := by decide +kernel
theorem dX10_steps_23 : decode cX10_steps 23 = .ok (.bipush (-5), 2) := by decide +kernel
theorem dX10_steps_25 : decode cX10_steps 25 = .ok (.ireturn, 1) := by decide +kernel
theorem dX10_told_0 : decode cX10_told 0 = .ok (.iload_n 1, 1) := by decide +kernel
theorem dX10_told_1 : decode cX10_told 1 = .ok (.tableswitch 170 0 11 #[63, 70, 77, 84, 89, 99, 107, 135, 149, 154, 160, 165], 63) := by decide +kernel
theorem dX10_told_64 : decode cX10_told 64 = .ok (.aload_n 0, 1) := by decide +kernel
theorem dX10_told_65 : decode cX10_told 65 = .ok (.getfield 11, 3) := by decide +kernel
theorem dX10_told_68 : decode cX10_told 68 = .ok (.iconst 0, 1) := by decide +kernel
theorem dX10_told_69 : decode cX10_told 69 = .ok (.iaload, 1) := by decide +kernel
theorem dX10_told_70 : decode cX10_told 70 = .ok (.ireturn, 1) := by decide +kernel
theorem dX10_told_71 : decode cX10_told 71 = .ok (.aload_n 0, 1) := by decide +kernel
theorem dX10_told_72 : decode cX10_told 72 = .ok (.getfield 11, 3) := by decide +kernel
theorem dX10_told_75 : decode cX10_told 75 = .ok (.iconst 1, 1) := by decide +kernel
theorem dX10_told_76 : decode cX10_told 76 = .ok (.iaload, 1) := by decide +kernel
theorem dX10_told_77 : decode cX10_told 77 = .ok (.ireturn, 1) := by decide +kernel
theorem dX10_told_78 : decode cX10_told 78 = .ok (.aload_n 0, 1) := by decide +kernel
theorem dX10_told_79 : decode cX10_told 79 = .ok (.getfield 11, 3) := by decide +kernel
theorem dX10_told_82 : decode cX10_told 82 = .ok (.iconst 2, 1) := by decide +kernel
theorem dX10_told_83 : decode cX10_told 83 = .ok (.iaload, 1) := by decide +kernel
theorem dX10_told_84 : decode cX10_told 84 = .ok (.ireturn, 1) := by decide +kernel
theorem dX10_told_85 : decode cX10_told 85 = .ok (.aload_n 0, 1) := by decide +kernel
theorem dX10_told_86 : decode cX10_told 86 = .ok (.invokevirtual 94, 3) := by decide +kernel
theorem dX10_told_89 : decode cX10_told 89 = .ok (.ireturn, 1) := by decide +kernel
theorem dX10_told_90 : decode cX10_told 90 = .ok (.aload_n 0, 1) := by decide +kernel
theorem dX10_told_91 : decode cX10_told 91 = .ok (.getfield 11, 3) := by decide +kernel
theorem dX10_told_94 : decode cX10_told 94 = .ok (.iconst 3, 1) := by decide +kernel
theorem dX10_told_95 : decode cX10_told 95 = .ok (.iaload, 1) := by decide +kernel
theorem dX10_told_96 : decode cX10_told 96 = .ok (.bipush 100, 2) := by decide +kernel
theorem dX10_told_98 : decode cX10_told 98 = .ok (.iadd, 1) := by decide +kernel
theorem dX10_told_99 : decode cX10_told 99 = .ok (.ireturn, 1) := by decide +kernel
theorem dX10_told_100 : decode cX10_told 100 = .ok (.aload_n 0, 1) := by decide +kernel
theorem dX10_told_101 : decode cX10_told 101 = .ok (.invokevirtual 148, 3) := by decide +kernel
theorem dX10_told_104 : decode cX10_told 104 = .ok (.invokestatic 90, 3) := by decide +kernel
theorem dX10_told_107 : decode cX10_told 107 = .ok (.ireturn, 1) := by decide +kernel
theorem dX10_told_108 : decode cX10_told 108 = .ok (.aload_n 0, 1) := by decide +kernel
theorem dX10_told_109 : decode cX10_told 109 = .ok (.aload_n 0, 1) := by decide +kernel
theorem dX10_told_110 : decode cX10_told 110 = .ok (.getfield 11, 3) := by decide +kernel
theorem dX10_told_113 : decode cX10_told 113 = .ok (.iconst 1, 1) := by decide +kernel
theorem dX10_told_114 : decode cX10_told 114 = .ok (.iaload, 1) := by decide +kernel
theorem dX10_told_115 : decode cX10_told 115 = .ok (.invokevirtual 107, 3) := by decide +kernel
theorem dX10_told_118 : decode cX10_told 118 = .ok (.aload_n 0, 1) := by decide +kernel
theorem dX10_told_119 : decode cX10_told 119 = .ok (.getfield 11, 3) := by decide +kernel
theorem dX10_told_122 : decode cX10_told 122 = .ok (.iconst 1, 1) := by decide +kernel
theorem dX10_told_123 : decode cX10_told 123 = .ok (.iaload, 1) := by decide +kernel
theorem dX10_told_124 : decode cX10_told 124 = .ok (.if_icmp .ne 7, 3) := by decide +kernel
theorem dX10_told_127 : decode cX10_told 127 = .ok (.iconst 1, 1) := by decide +kernel
theorem dX10_told_128 : decode cX10_told 128 = .ok (.goto 4, 3) := by decide +kernel
theorem dX10_told_131 : decode cX10_told 131 = .ok (.iconst 0, 1) := by decide +kernel
theorem dX10_told_132 : decode cX10_told 132 = .ok (.invokestatic 90, 3) := by decide +kernel
theorem dX10_told_135 : decode cX10_told 135 = .ok (.ireturn, 1) := by decide +kernel
theorem dX10_told_136 : decode cX10_told 136 = .ok (.aload_n 0, 1) := by decide +kernel
theorem dX10_told_137 : decode cX10_told 137 = .ok (.aload_n 0, 1) := by decide +kernel
theorem dX10_told_138 : decode cX10_told 138 = .ok (.getfield 11, 3) := by decide +kernel
theorem dX10_told_141 : decode cX10_told 141 = .ok (.iconst 1, 1) := by decide +kernel
theorem dX10_told_142 : decode cX10_told 142 = .ok (.iaload, 1) := by decide +kernel
theorem dX10_told_143 : decode cX10_told 143 = .ok (.invokevirtual 101, 3) := by decide +kernel
theorem dX10_told_146 : decode cX10_told 146 = .ok (.invokestatic 90, 3) := by decide +kernel
theorem dX10_told_149 : decode cX10_told 149 = .ok (.ireturn, 1) := by decide +kernel
theorem dX10_told_150 : decode cX10_told 150 = .ok (.aload_n 0, 1) := by decide +kernel
theorem dX10_told_151 : decode cX10_told 151 = .ok (.invokevirtual 152, 3) := by decide +kernel
theorem dX10_told_154 : decode cX10_told 154 = .ok (.ireturn, 1) := by decide +kernel
theorem dX10_told_155 : decode cX10_told 155 = .ok (.aload_n 0, 1) := by decide +kernel
theorem dX10_told_156 : decode cX10_told 156 = .ok (.iconst (-1), 1) := by decide +kernel
theorem dX10_told_157 : decode cX10_told 157 = .ok (.invokevirtual 139, 3) := by decide +kernel
theorem dX10_told_160 : decode cX10_told 160 = .ok (.ireturn, 1) := by decide +kernel
theorem dX10_told_161 : decode cX10_told 161 = .ok (.aload_n 0, 1) := by decide +kernel
theorem dX10_told_162 : decode cX10_told 162 = .ok (.invokevirtual 145, 3) := by decide +kernel
theorem dX10_told_165 : decode cX10_told 165 = .ok (.ireturn, 1) := by decide +kernel
theorem dX10_told_166 : decode cX10_told 166 = .ok (.aload_n 0, 1) := by decide +kernel
theorem dX10_told_167 : decode cX10_told 167 = .ok (.invokevirtual 155, 3) := by decide +kernel
theorem dX10_told_170 : decode cX10_told 170 = .ok (.ireturn, 1) := by decide +kernel
theorem dX10_told_171 : decode cX10_told 171 = .ok (.iconst (-1), 1) := by decide +kernel
theorem dX10_told_172 : decode cX10_told 172 = .ok (.ireturn, 1) := by decide +kernel
theorem dX10_isTrade_0 : decode cX10_isTrade 0 = .ok (.iload_n 0, 1) := by decide +kernel
theorem dX10_isTrade_1 : decode cX10_isTrade 1 = .ok (.iload_n 1, 1) := by decide +kernel
theorem dX10_isTrade_2 : decode cX10_isTrade 2 = .ok (.iand, 1) := by decide +kernel
theorem dX10_isTrade_3 : decode cX10_isTrade 3 = .ok (.iload_n 2, 1) := by decide +kernel
theorem dX10_isTrade_4 : decode cX10_isTrade 4 = .ok (.iload_n 3, 1) := by decide +kernel
theorem dX10_isTrade_5 : decode cX10_isTrade 5 = .ok (.iand, 1) := by decide +kernel
theorem dX10_isTrade_6 : decode cX10_isTrade 6 = .ok (.if_icmp .ne 16, 3) := by decide +kernel
theorem dX10_isTrade_9 : decode cX10_isTrade 9 = .ok (.iload_n 0, 1) := by decide +kernel
theorem dX10_isTrade_10 : decode cX10_isTrade 10 = .ok (.iload_n 1, 1) := by decide +kernel
theorem dX10_isTrade_11 : decode cX10_isTrade 11 = .ok (.ixor, 1) := by decide +kernel
theorem dX10_isTrade_12 : decode cX10_isTrade 12 = .ok (.iload_n 2, 1) := by decide +kernel
theorem dX10_isTrade_13 : decode cX10_isTrade 13 = .ok (.iload_n 3, 1) := by decide +kernel
theorem dX10_isTrade_14 : decode cX10_isTrade 14 = .ok (.ixor, 1) := by decide +kernel
theorem dX10_isTrade_15 : decode cX10_isTrade 15 = .ok (.if_icmp .ne 7, 3) := by decide +kernel
theorem dX10_isTrade_18 : decode cX10_isTrade 18 = .ok (.iconst 1, 1) := by decide +kernel
theorem dX10_isTrade_19 : decode cX10_isTrade 19 = .ok (.goto 4, 3) := by decide +kernel
theorem dX10_isTrade_22 : decode cX10_isTrade 22 = .ok (.iconst 0, 1) := by decide +kernel
theorem dX10_isTrade_23 : decode cX10_isTrade 23 = .ok (.ireturn, 1) := by decide +kernel
theorem dX10_trade_0 : decode cX10_trade 0 = .ok (.iload_n 1, 1) := by decide +kernel
theorem dX10_trade_1 : decode cX10_trade 1 = .ok (.i2l, 1) := by decide +kernel
theorem dX10_trade_2 : decode cX10_trade 2 = .ok (.lconst 0, 1) := by decide +kernel
theorem dX10_trade_3 : decode cX10_trade 3 = .ok (.ldc2_w 66, 3) := by decide +kernel
theorem dX10_trade_6 : decode cX10_trade 6 = .ok (.invokestatic 60, 3) := by decide +kernel
theorem dX10_trade_9 : decode cX10_trade 9 = .ok (.ifCond .ne 5, 3) := by decide +kernel
theorem dX10_trade_12 : decode cX10_trade 12 = .ok (.iconst (-1), 1) := by decide +kernel
theorem dX10_trade_13 : decode cX10_trade 13 = .ok (.ireturn, 1) := by decide +kernel
theorem dX10_trade_14 : decode cX10_trade 14 = .ok (.iconst 0, 1) := by decide +kernel
theorem dX10_trade_15 : decode cX10_trade 15 = .ok (.istore_n 2, 1) := by decide +kernel
theorem dX10_trade_16 : decode cX10_trade 16 = .ok (.aload_n 0, 1) := by decide +kernel
theorem dX10_trade_17 : decode cX10_trade 17 = .ok (.getfield 11, 3) := by decide +kernel
theorem dX10_trade_20 : decode cX10_trade 20 = .ok (.iconst 1, 1) := by decide +kernel
theorem dX10_trade_21 : decode cX10_trade 21 = .ok (.iaload, 1) := by decide +kernel
theorem dX10_trade_22 : decode cX10_trade 22 = .ok (.istore_n 3, 1) := by decide +kernel
theorem dX10_trade_23 : decode cX10_trade 23 = .ok (.iconst 0, 1) := by decide +kernel
theorem dX10_trade_24 : decode cX10_trade 24 = .ok (.istore 4, 2) := by decide +kernel
theorem dX10_trade_26 : decode cX10_trade 26 = .ok (.iload 4, 2) := by decide +kernel
theorem dX10_trade_28 : decode cX10_trade 28 = .ok (.aload_n 0, 1) := by decide +kernel
theorem dX10_trade_29 : decode cX10_trade 29 = .ok (.invokevirtual 56, 3) := by decide +kernel
theorem dX10_trade_32 : decode cX10_trade 32 = .ok (.if_icmp .ge 155, 3) := by decide +kernel
theorem dX10_trade_35 : decode cX10_trade 35 = .ok (.iload 4, 2) := by decide +kernel
theorem dX10_trade_37 : decode cX10_trade 37 = .ok (.istore 5, 2) := by decide +kernel
theorem dX10_trade_39 : decode cX10_trade 39 = .ok (.iload 5, 2) := by decide +kernel
theorem dX10_trade_41 : decode cX10_trade 41 = .ok (.aload_n 0, 1) := by decide +kernel
theorem dX10_trade_42 : decode cX10_trade 42 = .ok (.invokevirtual 56, 3) := by decide +kernel
theorem dX10_trade_45 : decode cX10_trade 45 = .ok (.if_icmp .ge 136, 3) := by decide +kernel
theorem dX10_trade_48 : decode cX10_trade 48 = .ok (.iconst 0, 1) := by decide +kernel
theorem dX10_trade_49 : decode cX10_trade 49 = .ok (.istore 6, 2) := by decide +kernel
theorem dX10_trade_51 : decode cX10_trade 51 = .ok (.iload 6, 2) := by decide +kernel
theorem dX10_trade_53 : decode cX10_trade 53 = .ok (.aload_n 0, 1) := by decide +kernel
theorem dX10_trade_54 : decode cX10_trade 54 = .ok (.invokevirtual 56, 3) := by decide +kernel
theorem dX10_trade_57 : decode cX10_trade 57 = .ok (.if_icmp .ge 118, 3) := by decide +kernel
theorem dX10_trade_60 : decode cX10_trade 60 = .ok (.iload 6, 2) := by decide +kernel
theorem dX10_trade_62 : decode cX10_trade 62 = .ok (.istore 7, 2) := by decide +kernel
theorem dX10_trade_64 : decode cX10_trade 64 = .ok (.iload 7, 2) := by decide +kernel
theorem dX10_trade_66 : decode cX10_trade 66 = .ok (.aload_n 0, 1) := by decide +kernel
theorem dX10_trade_67 : decode cX10_trade 67 = .ok (.invokevirtual 56, 3) := by decide +kernel
theorem dX10_trade_70 : decode cX10_trade 70 = .ok (.if_icmp .ge 99, 3) := by decide +kernel
theorem dX10_trade_73 : decode cX10_trade 73 = .ok (.iload_n 3, 1) := by decide +kernel
theorem dX10_trade_74 : decode cX10_trade 74 = .ok (.iload 4, 2) := by decide +kernel
theorem dX10_trade_76 : decode cX10_trade 76 = .ok (.invokestatic 97, 3) := by decide +kernel
theorem dX10_trade_79 : decode cX10_trade 79 = .ok (.ifCond .eq 84, 3) := by decide +kernel
theorem dX10_trade_82 : decode cX10_trade 82 = .ok (.iload_n 3, 1) := by decide +kernel
theorem dX10_trade_83 : decode cX10_trade 83 = .ok (.iload 5, 2) := by decide +kernel
theorem dX10_trade_85 : decode cX10_trade 85 = .ok (.invokestatic 97, 3) := by decide +kernel
theorem dX10_trade_88 : decode cX10_trade 88 = .ok (.ifCond .eq 75, 3) := by decide +kernel
theorem dX10_trade_91 : decode cX10_trade 91 = .ok (.iload_n 3, 1) := by decide +kernel
theorem dX10_trade_92 : decode cX10_trade 92 = .ok (.iload 6, 2) := by decide +kernel
theorem dX10_trade_94 : decode cX10_trade 94 = .ok (.invokestatic 97, 3) := by decide +kernel
theorem dX10_trade_97 : decode cX10_trade 97 = .ok (.ifCond .ne 66, 3) := by decide +kernel
theorem dX10_trade_100 : decode cX10_trade 100 = .ok (.iload_n 3, 1) := by decide +kernel
theorem dX10_trade_101 : decode cX10_trade 101 = .ok (.iload 7, 2) := by decide +kernel
theorem dX10_trade_103 : decode cX10_trade 103 = .ok (.invokestatic 97, 3) := by decide +kernel
theorem dX10_trade_106 : decode cX10_trade 106 = .ok (.ifCond .ne 57, 3) := by decide +kernel
theorem dX10_trade_109 : decode cX10_trade 109 = .ok (.iload 4, 2) := by decide +kernel
theorem dX10_trade_111 : decode cX10_trade 111 = .ok (.iload 5, 2) := by decide +kernel
theorem dX10_trade_113 : decode cX10_trade 113 = .ok (.iload 6, 2) := by decide +kernel
theorem dX10_trade_115 : decode cX10_trade 115 = .ok (.iload 7, 2) := by decide +kernel
theorem dX10_trade_117 : decode cX10_trade 117 = .ok (.invokestatic 158, 3) := by decide +kernel
theorem dX10_trade_120 : decode cX10_trade 120 = .ok (.ifCond .eq 43, 3) := by decide +kernel
theorem dX10_trade_123 : decode cX10_trade 123 = .ok (.iload_n 1, 1) := by decide +kernel
theorem dX10_trade_124 : decode cX10_trade 124 = .ok (.ifCond .le 36, 3) := by decide +kernel
theorem dX10_trade_127 : decode cX10_trade 127 = .ok (.iload_n 1, 1) := by decide +kernel
theorem dX10_trade_128 : decode cX10_trade 128 = .ok (.iconst 1, 1) := by decide +kernel
theorem dX10_trade_129 : decode cX10_trade 129 = .ok (.if_icmp .ne 8, 3) := by decide +kernel
theorem dX10_trade_132 : decode cX10_trade 132 = .ok (.iload 4, 2) := by decide +kernel
theorem dX10_trade_134 : decode cX10_trade 134 = .ok (.goto 25, 3) := by decide +kernel
theorem dX10_trade_137 : decode cX10_trade 137 = .ok (.iload_n 1, 1) := by decide +kernel
theorem dX10_trade_138 : decode cX10_trade 138 = .ok (.iconst 2, 1) := by decide +kernel
theorem dX10_trade_139 : decode cX10_trade 139 = .ok (.if_icmp .ne 8, 3) := by decide +kernel
theorem dX10_trade_142 : decode cX10_trade 142 = .ok (.iload 5, 2) := by decide +kernel
theorem dX10_trade_144 : decode cX10_trade 144 = .ok (.goto 15, 3) := by decide +kernel
theorem dX10_trade_147 : decode cX10_trade 147 = .ok (.iload_n 1, 1) := by decide +kernel
theorem dX10_trade_148 : decode cX10_trade 148 = .ok (.iconst 3, 1) := by decide +kernel
theorem dX10_trade_149 : decode cX10_trade 149 = .ok (.if_icmp .ne 8, 3) := by decide +kernel
theorem dX10_trade_152 : decode cX10_trade 152 = .ok (.iload 6, 2) := by decide +kernel
theorem dX10_trade_154 : decode cX10_trade 154 = .ok (.goto 5, 3) := by decide +kernel
theorem dX10_trade_157 : decode cX10_trade 157 = .ok (.iload 7, 2) := by decide +kernel
theorem dX10_trade_159 : decode cX10_trade 159 = .ok (.ireturn, 1) := by decide +kernel
theorem dX10_trade_160 : decode cX10_trade 160 = .ok (.iinc 2 1, 3) := by decide +kernel
theorem dX10_trade_163 : decode cX10_trade 163 = .ok (.iinc 7 1, 3) := by decide +kernel
theorem dX10_trade_166 : decode cX10_trade 166 = .ok (.goto (-102), 3) := by decide +kernel
theorem dX10_trade_169 : decode cX10_trade 169 = .ok (.iinc 6 1, 3) := by decide +kernel
theorem dX10_trade_172 : decode cX10_trade 172 = .ok (.goto (-121), 3) := by decide +kernel
theorem dX10_trade_175 : decode cX10_trade 175 = .ok (.iinc 5 1, 3) := by decide +kernel
theorem dX10_trade_178 : decode cX10_trade 178 = .ok (.goto (-139), 3) := by decide +kernel
theorem dX10_trade_181 : decode cX10_trade 181 = .ok (.iinc 4 1, 3) := by decide +kernel
theorem dX10_trade_184 : decode cX10_trade 184 = .ok (.goto (-158), 3) := by decide +kernel
theorem dX10_trade_187 : decode cX10_trade 187 = .ok (.iload_n 1, 1) := by decide +kernel
theorem dX10_trade_188 : decode cX10_trade 188 = .ok (.ifCond .ne 7, 3) := by decide +kernel
theorem dX10_trade_191 : decode cX10_trade 191 = .ok (.iload_n 2, 1) := by decide +kernel
theorem dX10_trade_192 : decode cX10_trade 192 = .ok (.goto 5, 3) := by decide +kernel
theorem dX10_trade_195 : decode cX10_trade 195 = .ok (.bipush (-5), 2) := by decide +kernel
theorem dX10_trade_197 : decode cX10_trade 197 = .ok (.ireturn, 1) := by decide +kernel
theorem dX10_see_0 : decode cX10_see 0 = .ok (.iload_n 1, 1) := by decide +kernel
theorem dX10_see_1 : decode cX10_see 1 = .ok (.iconst (-1), 1) := by decide +kernel
theorem dX10_see_2 : decode cX10_see 2 = .ok (.if_icmp .ne 27, 3) := by decide +kernel
theorem dX10_see_5 : decode cX10_see 5 = .ok (.bipush 8, 2) := by decide +kernel
theorem dX10_see_7 : decode cX10_see 7 = .ok (.istore_n 3, 1) := by decide +kernel
theorem dX10_see_8 : decode cX10_see 8 = .ok (.iload_n 3, 1) := by decide +kernel
theorem dX10_see_9 : decode cX10_see 9 = .ok (.bipush 21, 2) := by decide +kernel
theorem dX10_see_11 : decode cX10_see 11 = .ok (.if_icmp .ge 16, 3) := by decide +kernel
theorem dX10_see_14 : decode cX10_see 14 = .ok (.aload_n 0, 1) := by decide +kernel
theorem dX10_see_15 : decode cX10_see 15 = .ok (.getfield 11, 3) := by decide +kernel
theorem dX10_see_18 : decode cX10_see 18 = .ok (.iload_n 3, 1) := by decide +kernel
theorem dX10_see_19 : decode cX10_see 19 = .ok (.iconst 0, 1) := by decide +kernel
theorem dX10_see_20 : decode cX10_see 20 = .ok (.iastore, 1) := by decide +kernel
theorem dX10_see_21 : decode cX10_see 21 = .ok (.iinc 3 1, 3) := by decide +kernel
theorem dX10_see_24 : decode cX10_see 24 = .ok (.goto (-16), 3) := by decide +kernel
theorem dX10_see_27 : decode cX10_see 27 = .ok (.iconst 0, 1) := by decide +kernel
theorem dX10_see_28 : decode cX10_see 28 = .ok (.ireturn, 1) := by decide +kernel
theorem dX10_see_29 : decode cX10_see 29 = .ok (.aload_n 0, 1) := by decide +kernel
theorem dX10_see_30 : decode cX10_see 30 = .ok (.iload_n 1, 1) := by decide +kernel
theorem dX10_see_31 : decode cX10_see 31 = .ok (.invokevirtual 68, 3) := by decide +kernel
theorem dX10_see_34 : decode cX10_see 34 = .ok (.ifCond .ne 5, 3) := by decide +kernel
theorem dX10_see_37 : decode cX10_see 37 = .ok (.iconst (-1), 1) := by decide +kernel
theorem dX10_see_38 : decode cX10_see 38 = .ok (.ireturn, 1) := by decide +kernel
theorem dX10_see_39 : decode cX10_see 39 = .ok (.iload_n 2, 1) := by decide +kernel
theorem dX10_see_40 : decode cX10_see 40 = .ok (.i2l, 1) := by decide +kernel
theorem dX10_see_41 : decode cX10_see 41 = .ok (.lconst 0, 1) := by decide +kernel
theorem dX10_see_42 : decode cX10_see 42 = .ok (.lconst 1, 1) := by decide +kernel
theorem dX10_see_43 : decode cX10_see 43 = .ok (.invokestatic 60, 3) := by decide +kernel
theorem dX10_see_46 : decode cX10_see 46 = .ok (.ifCond .ne 6, 3) := by decide +kernel
theorem dX10_see_49 : decode cX10_see 49 = .ok (.bipush (-2), 2) := by decide +kernel
theorem dX10_see_51 : decode cX10_see 51 = .ok (.ireturn, 1) := by decide +kernel
theorem dX10_see_52 : decode cX10_see 52 = .ok (.aload_n 0, 1) := by decide +kernel
theorem dX10_see_53 : decode cX10_see 53 = .ok (.getfield 11, 3) := by decide +kernel
theorem dX10_see_56 : decode cX10_see 56 = .ok (.bipush 8, 2) := by decide +kernel
theorem dX10_see_58 : decode cX10_see 58 = .ok (.iaload, 1) := by decide +kernel
theorem dX10_see_59 : decode cX10_see 59 = .ok (.bipush 6, 2) := by decide +kernel
theorem dX10_see_61 : decode cX10_see 61 = .ok (.if_icmp .ne 6, 3) := by decide +kernel
theorem dX10_see_64 : decode cX10_see 64 = .ok (.bipush (-4), 2) := by decide +kernel
theorem dX10_see_66 : decode cX10_see 66 = .ok (.ireturn, 1) := by decide +kernel
theorem dX10_see_67 : decode cX10_see 67 = .ok (.aload_n 0, 1) := by decide +kernel
theorem dX10_see_68 : decode cX10_see 68 = .ok (.getfield 11, 3) := by decide +kernel
theorem dX10_see_71 : decode cX10_see 71 = .ok (.bipush 9, 2) := by decide +kernel
theorem dX10_see_73 : decode cX10_see 73 = .ok (.aload_n 0, 1) := by decide +kernel
theorem dX10_see_74 : decode cX10_see 74 = .ok (.getfield 11, 3) := by decide +kernel
theorem dX10_see_77 : decode cX10_see 77 = .ok (.bipush 8, 2) := by decide +kernel
theorem dX10_see_79 : decode cX10_see 79 = .ok (.iaload, 1) := by decide +kernel
theorem dX10_see_80 : decode cX10_see 80 = .ok (.iadd, 1) := by decide +kernel
theorem dX10_see_81 : decode cX10_see 81 = .ok (.iload_n 1, 1) := by decide +kernel
theorem dX10_see_82 : decode cX10_see 82 = .ok (.iastore, 1) := by decide +kernel
theorem dX10_see_83 : decode cX10_see 83 = .ok (.aload_n 0, 1) := by decide +kernel
theorem dX10_see_84 : decode cX10_see 84 = .ok (.getfield 11, 3) := by decide +kernel
theorem dX10_see_87 : decode cX10_see 87 = .ok (.bipush 15, 2) := by decide +kernel
theorem dX10_see_89 : decode cX10_see 89 = .ok (.aload_n 0, 1) := by decide +kernel
theorem dX10_see_90 : decode cX10_see 90 = .ok (.getfield 11, 3) := by decide +kernel
theorem dX10_see_93 : decode cX10_see 93 = .ok (.bipush 8, 2) := by decide +kernel
theorem dX10_see_95 : decode cX10_see 95 = .ok (.iaload, 1) := by decide +kernel
theorem dX10_see_96 : decode cX10_see 96 = .ok (.iadd, 1) := by decide +kernel
theorem dX10_see_97 : decode cX10_see 97 = .ok (.iload_n 2, 1) := by decide +kernel
theorem dX10_see_98 : decode cX10_see 98 = .ok (.iastore, 1) := by decide +kernel
theorem dX10_see_99 : decode cX10_see 99 = .ok (.aload_n 0, 1) := by decide +kernel
theorem dX10_see_100 : decode cX10_see 100 = .ok (.getfield 11, 3) := by decide +kernel
theorem dX10_see_103 : decode cX10_see 103 = .ok (.bipush 8, 2) := by decide +kernel
theorem dX10_see_105 : decode cX10_see 105 = .ok (.dup2, 1) := by decide +kernel
theorem dX10_see_106 : decode cX10_see 106 = .ok (.iaload, 1) := by decide +kernel
theorem dX10_see_107 : decode cX10_see 107 = .ok (.iconst 1, 1) := by decide +kernel
theorem dX10_see_108 : decode cX10_see 108 = .ok (.iadd, 1) := by decide +kernel
theorem dX10_see_109 : decode cX10_see 109 = .ok (.iastore, 1) := by decide +kernel
theorem dX10_see_110 : decode cX10_see 110 = .ok (.aload_n 0, 1) := by decide +kernel
theorem dX10_see_111 : decode cX10_see 111 = .ok (.getfield 11, 3) := by decide +kernel
theorem dX10_see_114 : decode cX10_see 114 = .ok (.bipush 8, 2) := by decide +kernel
theorem dX10_see_116 : decode cX10_see 116 = .ok (.iaload, 1) := by decide +kernel
theorem dX10_see_117 : decode cX10_see 117 = .ok (.ireturn, 1) := by decide +kernel
theorem dX10_isSeenBy_0 : decode cX10_isSeenBy 0 = .ok (.iconst 0, 1) := by decide +kernel
theorem dX10_isSeenBy_1 : decode cX10_isSeenBy 1 = .ok (.istore_n 2, 1) := by decide +kernel
theorem dX10_isSeenBy_2 : decode cX10_isSeenBy 2 = .ok (.iload_n 2, 1) := by decide +kernel
theorem dX10_isSeenBy_3 : decode cX10_isSeenBy 3 = .ok (.aload_n 0, 1) := by decide +kernel
theorem dX10_isSeenBy_4 : decode cX10_isSeenBy 4 = .ok (.getfield 11, 3) := by decide +kernel
theorem dX10_isSeenBy_7 : decode cX10_isSeenBy 7 = .ok (.bipush 8, 2) := by decide +kernel
theorem dX10_isSeenBy_9 : decode cX10_isSeenBy 9 = .ok (.iaload, 1) := by decide +kernel
theorem dX10_isSeenBy_10 : decode cX10_isSeenBy 10 = .ok (.if_icmp .ge 58, 3) := by decide +kernel
theorem dX10_isSeenBy_13 : decode cX10_isSeenBy 13 = .ok (.aload_n 0, 1) := by decide +kernel
theorem dX10_isSeenBy_14 : decode cX10_isSeenBy 14 = .ok (.getfield 11, 3) := by decide +kernel
theorem dX10_isSeenBy_17 : decode cX10_isSeenBy 17 = .ok (.bipush 9, 2) := by decide +kernel
theorem dX10_isSeenBy_19 : decode cX10_isSeenBy 19 = .ok (.iload_n 2, 1) := by decide +kernel
theorem dX10_isSeenBy_20 : decode cX10_isSeenBy 20 = .ok (.iadd, 1) := by decide +kernel
theorem dX10_isSeenBy_21 : decode cX10_isSeenBy 21 = .ok (.iaload, 1) := by decide +kernel
theorem dX10_isSeenBy_22 : decode cX10_isSeenBy 22 = .ok (.istore_n 3, 1) := by decide +kernel
theorem dX10_isSeenBy_23 : decode cX10_isSeenBy 23 = .ok (.aload_n 0, 1) := by decide +kernel
theorem dX10_isSeenBy_24 : decode cX10_isSeenBy 24 = .ok (.iload_n 3, 1) := by decide +kernel
theorem dX10_isSeenBy_25 : decode cX10_isSeenBy 25 = .ok (.invokevirtual 68, 3) := by decide +kernel
theorem dX10_isSeenBy_28 : decode cX10_isSeenBy 28 = .ok (.ifCond .eq 32, 3) := by decide +kernel
theorem dX10_isSeenBy_31 : decode cX10_isSeenBy 31 = .ok (.aload_n 0, 1) := by decide +kernel
theorem dX10_isSeenBy_32 : decode cX10_isSeenBy 32 = .ok (.iload_n 3, 1) := by decide +kernel
theorem dX10_isSeenBy_33 : decode cX10_isSeenBy 33 = .ok (.invokevirtual 86, 3) := by decide +kernel
theorem dX10_isSeenBy_36 : decode cX10_isSeenBy 36 = .ok (.iload_n 1, 1) := by decide +kernel
theorem dX10_isSeenBy_37 : decode cX10_isSeenBy 37 = .ok (.if_icmp .lt 7, 3) := by decide +kernel
theorem dX10_isSeenBy_40 : decode cX10_isSeenBy 40 = .ok (.iconst 1, 1) := by decide +kernel
theorem dX10_isSeenBy_41 : decode cX10_isSeenBy 41 = .ok (.goto 4, 3) := by decide +kernel
theorem dX10_isSeenBy_44 : decode cX10_isSeenBy 44 = .ok (.iconst 0, 1) := by decide +kernel
theorem dX10_isSeenBy_45 : decode cX10_isSeenBy 45 = .ok (.invokestatic 90, 3) := by decide +kernel
theorem dX10_isSeenBy_48 : decode cX10_isSeenBy 48 = .ok (.aload_n 0, 1) := by decide +kernel
theorem dX10_isSeenBy_49 : decode cX10_isSeenBy 49 = .ok (.getfield 11, 3) := by decide +kernel
theorem dX10_isSeenBy_52 : decode cX10_isSeenBy 52 = .ok (.bipush 15, 2) := by decide +kernel
theorem dX10_isSeenBy_54 : decode cX10_isSeenBy 54 = .ok (.iload_n 2, 1) := by decide +kernel
theorem dX10_isSeenBy_55 : decode cX10_isSeenBy 55 = .ok (.iadd, 1) := by decide +kernel
theorem dX10_isSeenBy_56 : decode cX10_isSeenBy 56 = .ok (.iaload, 1) := by decide +kernel
theorem dX10_isSeenBy_57 : decode cX10_isSeenBy 57 = .ok (.if_icmp .eq 5, 3) := by decide +kernel
theorem dX10_isSeenBy_60 : decode cX10_isSeenBy 60 = .ok (.iconst 0, 1) := by decide +kernel
theorem dX10_isSeenBy_61 : decode cX10_isSeenBy 61 = .ok (.ireturn, 1) := by decide +kernel
theorem dX10_isSeenBy_62 : decode cX10_isSeenBy 62 = .ok (.iinc 2 1, 3) := by decide +kernel
theorem dX10_isSeenBy_65 : decode cX10_isSeenBy 65 = .ok (.goto (-63), 3) := by decide +kernel
theorem dX10_isSeenBy_68 : decode cX10_isSeenBy 68 = .ok (.iconst 1, 1) := by decide +kernel
theorem dX10_isSeenBy_69 : decode cX10_isSeenBy 69 = .ok (.ireturn, 1) := by decide +kernel
theorem dX10_fits_0 : decode cX10_fits 0 = .ok (.iload_n 1, 1) := by decide +kernel
theorem dX10_fits_1 : decode cX10_fits 1 = .ok (.i2l, 1) := by decide +kernel
theorem dX10_fits_2 : decode cX10_fits 2 = .ok (.lconst 0, 1) := by decide +kernel
theorem dX10_fits_3 : decode cX10_fits 3 = .ok (.lconst 1, 1) := by decide +kernel
theorem dX10_fits_4 : decode cX10_fits 4 = .ok (.invokestatic 60, 3) := by decide +kernel
theorem dX10_fits_7 : decode cX10_fits 7 = .ok (.ifCond .ne 5, 3) := by decide +kernel
theorem dX10_fits_10 : decode cX10_fits 10 = .ok (.iconst (-1), 1) := by decide +kernel
theorem dX10_fits_11 : decode cX10_fits 11 = .ok (.ireturn, 1) := by decide +kernel
theorem dX10_fits_12 : decode cX10_fits 12 = .ok (.iconst 0, 1) := by decide +kernel
theorem dX10_fits_13 : decode cX10_fits 13 = .ok (.istore_n 2, 1) := by decide +kernel
theorem dX10_fits_14 : decode cX10_fits 14 = .ok (.iconst 0, 1) := by decide +kernel
theorem dX10_fits_15 : decode cX10_fits 15 = .ok (.istore_n 3, 1) := by decide +kernel
theorem dX10_fits_16 : decode cX10_fits 16 = .ok (.bipush 40, 2) := by decide +kernel
theorem dX10_fits_18 : decode cX10_fits 18 = .ok (.istore 4, 2) := by decide +kernel
theorem dX10_fits_20 : decode cX10_fits 20 = .ok (.iload 4, 2) := by decide +kernel
theorem dX10_fits_22 : decode cX10_fits 22 = .ok (.bipush (-40), 2) := by decide +kernel
theorem dX10_fits_24 : decode cX10_fits 24 = .ok (.if_icmp .lt 27, 3) := by decide +kernel
theorem dX10_fits_27 : decode cX10_fits 27 = .ok (.aload_n 0, 1) := by decide +kernel
theorem dX10_fits_28 : decode cX10_fits 28 = .ok (.iload 4, 2) := by decide +kernel
theorem dX10_fits_30 : decode cX10_fits 30 = .ok (.invokevirtual 162, 3) := by decide +kernel
theorem dX10_fits_33 : decode cX10_fits 33 = .ok (.ifCond .eq 12, 3) := by decide +kernel
theorem dX10_fits_36 : decode cX10_fits 36 = .ok (.iinc 2 1, 3) := by decide +kernel
theorem dX10_fits_39 : decode cX10_fits 39 = .ok (.iload 4, 2) := by decide +kernel
theorem dX10_fits_41 : decode cX10_fits 41 = .ok (.bipush 41, 2) := by decide +kernel
theorem dX10_fits_43 : decode cX10_fits 43 = .ok (.iadd, 1) := by decide +kernel
theorem dX10_fits_44 : decode cX10_fits 44 = .ok (.istore_n 3, 1) := by decide +kernel
theorem dX10_fits_45 : decode cX10_fits 45 = .ok (.iinc 4 (-1), 3) := by decide +kernel
theorem dX10_fits_48 : decode cX10_fits 48 = .ok (.goto (-28), 3) := by decide +kernel
theorem dX10_fits_51 : decode cX10_fits 51 = .ok (.iload_n 1, 1) := by decide +kernel
theorem dX10_fits_52 : decode cX10_fits 52 = .ok (.ifCond .ne 7, 3) := by decide +kernel
theorem dX10_fits_55 : decode cX10_fits 55 = .ok (.iload_n 2, 1) := by decide +kernel
theorem dX10_fits_56 : decode cX10_fits 56 = .ok (.goto 4, 3) := by decide +kernel
theorem dX10_fits_59 : decode cX10_fits 59 = .ok (.iload_n 3, 1) := by decide +kernel
theorem dX10_fits_60 : decode cX10_fits 60 = .ok (.ireturn, 1) := by decide +kernel
theorem dX10_lowest_0 : decode cX10_lowest 0 = .ok (.lload_n 0, 1) := by decide +kernel
theorem dX10_lowest_1 : decode cX10_lowest 1 = .ok (.lconst 0, 1) := by decide +kernel
theorem dX10_lowest_2 : decode cX10_lowest 2 = .ok (.lcmp, 1) := by decide +kernel
theorem dX10_lowest_3 : decode cX10_lowest 3 = .ok (.ifCond .ge 8, 3) := by decide +kernel
theorem dX10_lowest_6 : decode cX10_lowest 6 = .ok (.lload_n 0, 1) := by decide +kernel
theorem dX10_lowest_7 : decode cX10_lowest 7 = .ok (.lneg, 1) := by decide +kernel
theorem dX10_lowest_8 : decode cX10_lowest 8 = .ok (.goto 4, 3) := by decide +kernel
theorem dX10_lowest_11 : decode cX10_lowest 11 = .ok (.lload_n 0, 1) := by decide +kernel
theorem dX10_lowest_12 : decode cX10_lowest 12 = .ok (.lstore 5, 2) := by decide +kernel
theorem dX10_lowest_14 : decode cX10_lowest 14 = .ok (.lload_n 2, 1) := by decide +kernel
theorem dX10_lowest_15 : decode cX10_lowest 15 = .ok (.lstore 7, 2) := by decide +kernel
theorem dX10_lowest_17 : decode cX10_lowest 17 = .ok (.lload 7, 2) := by decide +kernel
theorem dX10_lowest_19 : decode cX10_lowest 19 = .ok (.lconst 0, 1) := by decide +kernel
theorem dX10_lowest_20 : decode cX10_lowest 20 = .ok (.lcmp, 1) := by decide +kernel
theorem dX10_lowest_21 : decode cX10_lowest 21 = .ok (.ifCond .eq 21, 3) := by decide +kernel
theorem dX10_lowest_24 : decode cX10_lowest 24 = .ok (.lload 5, 2) := by decide +kernel
theorem dX10_lowest_26 : decode cX10_lowest 26 = .ok (.lload 7, 2) := by decide +kernel
theorem dX10_lowest_28 : decode cX10_lowest 28 = .ok (.lrem, 1) := by decide +kernel
theorem dX10_lowest_29 : decode cX10_lowest 29 = .ok (.lstore 9, 2) := by decide +kernel
theorem dX10_lowest_31 : decode cX10_lowest 31 = .ok (.lload 7, 2) := by decide +kernel
theorem dX10_lowest_33 : decode cX10_lowest 33 = .ok (.lstore 5, 2) := by decide +kernel
theorem dX10_lowest_35 : decode cX10_lowest 35 = .ok (.lload 9, 2) := by decide +kernel
theorem dX10_lowest_37 : decode cX10_lowest 37 = .ok (.lstore 7, 2) := by decide +kernel
theorem dX10_lowest_39 : decode cX10_lowest 39 = .ok (.goto (-22), 3) := by decide +kernel
theorem dX10_lowest_42 : decode cX10_lowest 42 = .ok (.iload 4, 2) := by decide +kernel
theorem dX10_lowest_44 : decode cX10_lowest 44 = .ok (.ifCond .ne 7, 3) := by decide +kernel
theorem dX10_lowest_47 : decode cX10_lowest 47 = .ok (.lload_n 0, 1) := by decide +kernel
theorem dX10_lowest_48 : decode cX10_lowest 48 = .ok (.goto 4, 3) := by decide +kernel
theorem dX10_lowest_51 : decode cX10_lowest 51 = .ok (.lload_n 2, 1) := by decide +kernel
theorem dX10_lowest_52 : decode cX10_lowest 52 = .ok (.lload 5, 2) := by decide +kernel
theorem dX10_lowest_54 : decode cX10_lowest 54 = .ok (.ldiv, 1) := by decide +kernel
theorem dX10_lowest_55 : decode cX10_lowest 55 = .ok (.lreturn, 1) := by decide +kernel
theorem dX10_odds_0 : decode cX10_odds 0 = .ok (.aload_n 0, 1) := by decide +kernel
theorem dX10_odds_1 : decode cX10_odds 1 = .ok (.iload_n 1, 1) := by decide +kernel
theorem dX10_odds_2 : decode cX10_odds 2 = .ok (.invokevirtual 75, 3) := by decide +kernel
theorem dX10_odds_5 : decode cX10_odds 5 = .ok (.ifCond .eq 33, 3) := by decide +kernel
theorem dX10_odds_8 : decode cX10_odds 8 = .ok (.iload_n 2, 1) := by decide +kernel
theorem dX10_odds_9 : decode cX10_odds 9 = .ok (.i2l, 1) := by decide +kernel
theorem dX10_odds_10 : decode cX10_odds 10 = .ok (.lconst 0, 1) := by decide +kernel
theorem dX10_odds_11 : decode cX10_odds 11 = .ok (.lconst 1, 1) := by decide +kernel
theorem dX10_odds_12 : decode cX10_odds 12 = .ok (.invokestatic 60, 3) := by decide +kernel
theorem dX10_odds_15 : decode cX10_odds 15 = .ok (.ifCond .eq 23, 3) := by decide +kernel
theorem dX10_odds_18 : decode cX10_odds 18 = .ok (.aload_n 0, 1) := by decide +kernel
theorem dX10_odds_19 : decode cX10_odds 19 = .ok (.iload_n 1, 1) := by decide +kernel
theorem dX10_odds_20 : decode cX10_odds 20 = .ok (.invokevirtual 165, 3) := by decide +kernel
theorem dX10_odds_23 : decode cX10_odds 23 = .ok (.i2l, 1) := by decide +kernel
theorem dX10_odds_24 : decode cX10_odds 24 = .ok (.aload_n 0, 1) := by decide +kernel
theorem dX10_odds_25 : decode cX10_odds 25 = .ok (.invokevirtual 56, 3) := by decide +kernel
theorem dX10_odds_28 : decode cX10_odds 28 = .ok (.iconst 2, 1) := by decide +kernel
theorem dX10_odds_29 : decode cX10_odds 29 = .ok (.idiv, 1) := by decide +kernel
theorem dX10_odds_30 : decode cX10_odds 30 = .ok (.i2l, 1) := by decide +kernel
theorem dX10_odds_31 : decode cX10_odds 31 = .ok (.iload_n 2, 1) := by decide +kernel
theorem dX10_odds_32 : decode cX10_odds 32 = .ok (.invokestatic 168, 3) := by decide +kernel
theorem dX10_odds_35 : decode cX10_odds 35 = .ok (.goto 6, 3) := by decide +kernel
theorem dX10_odds_38 : decode cX10_odds 38 = .ok (.ldc2_w 172, 3) := by decide +kernel
theorem dX10_odds_41 : decode cX10_odds 41 = .ok (.lreturn, 1) := by decide +kernel
theorem dX10_mean_0 : decode cX10_mean 0 = .ok (.iload_n 1, 1) := by decide +kernel
theorem dX10_mean_1 : decode cX10_mean 1 = .ok (.i2l, 1) := by decide +kernel
theorem dX10_mean_2 : decode cX10_mean 2 = .ok (.lconst 0, 1) := by decide +kernel
theorem dX10_mean_3 : decode cX10_mean 3 = .ok (.lconst 1, 1) := by decide +kernel
theorem dX10_mean_4 : decode cX10_mean 4 = .ok (.invokestatic 60, 3) := by decide +kernel
theorem dX10_mean_7 : decode cX10_mean 7 = .ok (.ifCond .ne 7, 3) := by decide +kernel
theorem dX10_mean_10 : decode cX10_mean 10 = .ok (.ldc2_w 172, 3) := by decide +kernel
theorem dX10_mean_13 : decode cX10_mean 13 = .ok (.lreturn, 1) := by decide +kernel
theorem dX10_mean_14 : decode cX10_mean 14 = .ok (.lconst 0, 1) := by decide +kernel
theorem dX10_mean_15 : decode cX10_mean 15 = .ok (.lstore_n 2, 1) := by decide +kernel
theorem dX10_mean_16 : decode cX10_mean 16 = .ok (.iconst 0, 1) := by decide +kernel
theorem dX10_mean_17 : decode cX10_mean 17 = .ok (.istore 4, 2) := by decide +kernel
theorem dX10_mean_19 : decode cX10_mean 19 = .ok (.iload 4, 2) := by decide +kernel
theorem dX10_mean_21 : decode cX10_mean 21 = .ok (.aload_n 0, 1) := by decide +kernel
theorem dX10_mean_22 : decode cX10_mean 22 = .ok (.invokevirtual 56, 3) := by decide +kernel
theorem dX10_mean_25 : decode cX10_mean 25 = .ok (.if_icmp .ge 19, 3) := by decide +kernel
theorem dX10_mean_28 : decode cX10_mean 28 = .ok (.lload_n 2, 1) := by decide +kernel
theorem dX10_mean_29 : decode cX10_mean 29 = .ok (.aload_n 0, 1) := by decide +kernel
theorem dX10_mean_30 : decode cX10_mean 30 = .ok (.iload 4, 2) := by decide +kernel
theorem dX10_mean_32 : decode cX10_mean 32 = .ok (.invokevirtual 86, 3) := by decide +kernel
theorem dX10_mean_35 : decode cX10_mean 35 = .ok (.i2l, 1) := by decide +kernel
theorem dX10_mean_36 : decode cX10_mean 36 = .ok (.ladd, 1) := by decide +kernel
theorem dX10_mean_37 : decode cX10_mean 37 = .ok (.lstore_n 2, 1) := by decide +kernel
theorem dX10_mean_38 : decode cX10_mean 38 = .ok (.iinc 4 1, 3) := by decide +kernel
theorem dX10_mean_41 : decode cX10_mean 41 = .ok (.goto (-22), 3) := by decide +kernel
theorem dX10_mean_44 : decode cX10_mean 44 = .ok (.lload_n 2, 1) := by decide +kernel
theorem dX10_mean_45 : decode cX10_mean 45 = .ok (.aload_n 0, 1) := by decide +kernel
theorem dX10_mean_46 : decode cX10_mean 46 = .ok (.invokevirtual 56, 3) := by decide +kernel
theorem dX10_mean_49 : decode cX10_mean 49 = .ok (.i2l, 1) := by decide +kernel
theorem dX10_mean_50 : decode cX10_mean 50 = .ok (.iload_n 1, 1) := by decide +kernel
theorem dX10_mean_51 : decode cX10_mean 51 = .ok (.invokestatic 168, 3) := by decide +kernel
theorem dX10_mean_54 : decode cX10_mean 54 = .ok (.lreturn, 1) := by decide +kernel
theorem dX10_isThere_0 : decode cX10_isThere 0 = .ok (.iload_n 1, 1) := by decide +kernel
theorem dX10_isThere_1 : decode cX10_isThere 1 = .ok (.ifCond .ne 11, 3) := by decide +kernel
theorem dX10_isThere_4 : decode cX10_isThere 4 = .ok (.aload_n 0, 1) := by decide +kernel
theorem dX10_isThere_5 : decode cX10_isThere 5 = .ok (.iload_n 2, 1) := by decide +kernel
theorem dX10_isThere_6 : decode cX10_isThere 6 = .ok (.invokevirtual 68, 3) := by decide +kernel
theorem dX10_isThere_9 : decode cX10_isThere 9 = .ok (.goto 44, 3) := by decide +kernel
theorem dX10_isThere_12 : decode cX10_isThere 12 = .ok (.iload_n 1, 1) := by decide +kernel
theorem dX10_isThere_13 : decode cX10_isThere 13 = .ok (.iconst 1, 1) := by decide +kernel
theorem dX10_isThere_14 : decode cX10_isThere 14 = .ok (.if_icmp .ne 11, 3) := by decide +kernel
theorem dX10_isThere_17 : decode cX10_isThere 17 = .ok (.aload_n 0, 1) := by decide +kernel
theorem dX10_isThere_18 : decode cX10_isThere 18 = .ok (.iload_n 2, 1) := by decide +kernel
theorem dX10_isThere_19 : decode cX10_isThere 19 = .ok (.invokevirtual 75, 3) := by decide +kernel
theorem dX10_isThere_22 : decode cX10_isThere 22 = .ok (.goto 31, 3) := by decide +kernel
theorem dX10_isThere_25 : decode cX10_isThere 25 = .ok (.iload_n 1, 1) := by decide +kernel
theorem dX10_isThere_26 : decode cX10_isThere 26 = .ok (.iconst 2, 1) := by decide +kernel
theorem dX10_isThere_27 : decode cX10_isThere 27 = .ok (.if_icmp .eq 21, 3) := by decide +kernel
theorem dX10_isThere_30 : decode cX10_isThere 30 = .ok (.aload_n 0, 1) := by decide +kernel
theorem dX10_isThere_31 : decode cX10_isThere 31 = .ok (.iload_n 2, 1) := by decide +kernel
theorem dX10_isThere_32 : decode cX10_isThere 32 = .ok (.invokevirtual 75, 3) := by decide +kernel
theorem dX10_isThere_35 : decode cX10_isThere 35 = .ok (.ifCond .eq 17, 3) := by decide +kernel
theorem dX10_isThere_38 : decode cX10_isThere 38 = .ok (.aload_n 0, 1) := by decide +kernel
theorem dX10_isThere_39 : decode cX10_isThere 39 = .ok (.iload_n 2, 1) := by decide +kernel
theorem dX10_isThere_40 : decode cX10_isThere 40 = .ok (.iconst 1, 1) := by decide +kernel
theorem dX10_isThere_41 : decode cX10_isThere 41 = .ok (.iadd, 1) := by decide +kernel
theorem dX10_isThere_42 : decode cX10_isThere 42 = .ok (.invokevirtual 75, 3) := by decide +kernel
theorem dX10_isThere_45 : decode cX10_isThere 45 = .ok (.ifCond .eq 7, 3) := by decide +kernel
theorem dX10_isThere_48 : decode cX10_isThere 48 = .ok (.iconst 1, 1) := by decide +kernel
theorem dX10_isThere_49 : decode cX10_isThere 49 = .ok (.goto 4, 3) := by decide +kernel
theorem dX10_isThere_52 : decode cX10_isThere 52 = .ok (.iconst 0, 1) := by decide +kernel
theorem dX10_isThere_53 : decode cX10_isThere 53 = .ok (.ireturn, 1) := by decide +kernel
theorem dX10_event_0 : decode cX10_event 0 = .ok (.iload_n 1, 1) := by decide +kernel
theorem dX10_event_1 : decode cX10_event 1 = .ok (.iconst (-1), 1) := by decide +kernel
theorem dX10_event_2 : decode cX10_event 2 = .ok (.if_icmp .ne 27, 3) := by decide +kernel
theorem dX10_event_5 : decode cX10_event 5 = .ok (.bipush 21, 2) := by decide +kernel
theorem dX10_event_7 : decode cX10_event 7 = .ok (.istore_n 3, 1) := by decide +kernel
theorem dX10_event_8 : decode cX10_event 8 = .ok (.iload_n 3, 1) := by decide +kernel
theorem dX10_event_9 : decode cX10_event 9 = .ok (.bipush 38, 2) := by decide +kernel
theorem dX10_event_11 : decode cX10_event 11 = .ok (.if_icmp .ge 16, 3) := by decide +kernel
theorem dX10_event_14 : decode cX10_event 14 = .ok (.aload_n 0, 1) := by decide +kernel
theorem dX10_event_15 : decode cX10_event 15 = .ok (.getfield 11, 3) := by decide +kernel
theorem dX10_event_18 : decode cX10_event 18 = .ok (.iload_n 3, 1) := by decide +kernel
theorem dX10_event_19 : decode cX10_event 19 = .ok (.iconst 0, 1) := by decide +kernel
theorem dX10_event_20 : decode cX10_event 20 = .ok (.iastore, 1) := by decide +kernel
theorem dX10_event_21 : decode cX10_event 21 = .ok (.iinc 3 1, 3) := by decide +kernel
theorem dX10_event_24 : decode cX10_event 24 = .ok (.goto (-16), 3) := by decide +kernel
theorem dX10_event_27 : decode cX10_event 27 = .ok (.iconst 0, 1) := by decide +kernel
theorem dX10_event_28 : decode cX10_event 28 = .ok (.ireturn, 1) := by decide +kernel
theorem dX10_event_29 : decode cX10_event 29 = .ok (.iload_n 1, 1) := by decide +kernel
theorem dX10_event_30 : decode cX10_event 30 = .ok (.i2l, 1) := by decide +kernel
theorem dX10_event_31 : decode cX10_event 31 = .ok (.lconst 0, 1) := by decide +kernel
theorem dX10_event_32 : decode cX10_event 32 = .ok (.ldc2_w 174, 3) := by decide +kernel
theorem dX10_event_35 : decode cX10_event 35 = .ok (.invokestatic 60, 3) := by decide +kernel
theorem dX10_event_38 : decode cX10_event 38 = .ok (.ifCond .eq 12, 3) := by decide +kernel
theorem dX10_event_41 : decode cX10_event 41 = .ok (.aload_n 0, 1) := by decide +kernel
theorem dX10_event_42 : decode cX10_event 42 = .ok (.iload_n 1, 1) := by decide +kernel
theorem dX10_event_43 : decode cX10_event 43 = .ok (.iload_n 2, 1) := by decide +kernel
theorem dX10_event_44 : decode cX10_event 44 = .ok (.invokevirtual 176, 3) := by decide +kernel
theorem dX10_event_47 : decode cX10_event 47 = .ok (.ifCond .ne 5, 3) := by decide +kernel
theorem dX10_event_50 : decode cX10_event 50 = .ok (.iconst (-1), 1) := by decide +kernel
theorem dX10_event_51 : decode cX10_event 51 = .ok (.ireturn, 1) := by decide +kernel
theorem dX10_event_52 : decode cX10_event 52 = .ok (.iload_n 1, 1) := by decide +kernel
theorem dX10_event_53 : decode cX10_event 53 = .ok (.iconst 2, 1) := by decide +kernel
theorem dX10_event_54 : decode cX10_event 54 = .ok (.if_icmp .ne 10, 3) := by decide +kernel
theorem dX10_event_57 : decode cX10_event 57 = .ok (.iload_n 2, 1) := by decide +kernel
theorem dX10_event_58 : decode cX10_event 58 = .ok (.ifCond .eq 6, 3) := by decide +kernel
theorem dX10_event_61 : decode cX10_event 61 = .ok (.bipush (-2), 2) := by decide +kernel
theorem dX10_event_63 : decode cX10_event 63 = .ok (.ireturn, 1) := by decide +kernel
theorem dX10_event_64 : decode cX10_event 64 = .ok (.aload_n 0, 1) := by decide +kernel
theorem dX10_event_65 : decode cX10_event 65 = .ok (.getfield 11, 3) := by decide +kernel
theorem dX10_event_68 : decode cX10_event 68 = .ok (.bipush 21, 2) := by decide +kernel
theorem dX10_event_70 : decode cX10_event 70 = .ok (.iaload, 1) := by decide +kernel
theorem dX10_event_71 : decode cX10_event 71 = .ok (.bipush 8, 2) := by decide +kernel
theorem dX10_event_73 : decode cX10_event 73 = .ok (.if_icmp .ne 6, 3) := by decide +kernel
theorem dX10_event_76 : decode cX10_event 76 = .ok (.bipush (-4), 2) := by decide +kernel
theorem dX10_event_78 : decode cX10_event 78 = .ok (.ireturn, 1) := by decide +kernel
theorem dX10_event_79 : decode cX10_event 79 = .ok (.aload_n 0, 1) := by decide +kernel
theorem dX10_event_80 : decode cX10_event 80 = .ok (.getfield 11, 3) := by decide +kernel
theorem dX10_event_83 : decode cX10_event 83 = .ok (.bipush 22, 2) := by decide +kernel
theorem dX10_event_85 : decode cX10_event 85 = .ok (.aload_n 0, 1) := by decide +kernel
theorem dX10_event_86 : decode cX10_event 86 = .ok (.getfield 11, 3) := by decide +kernel
theorem dX10_event_89 : decode cX10_event 89 = .ok (.bipush 21, 2) := by decide +kernel
theorem dX10_event_91 : decode cX10_event 91 = .ok (.iaload, 1) := by decide +kernel
theorem dX10_event_92 : decode cX10_event 92 = .ok (.iadd, 1) := by decide +kernel
theorem dX10_event_93 : decode cX10_event 93 = .ok (.iload_n 1, 1) := by decide +kernel
theorem dX10_event_94 : decode cX10_event 94 = .ok (.iastore, 1) := by decide +kernel
theorem dX10_event_95 : decode cX10_event 95 = .ok (.aload_n 0, 1) := by decide +kernel
theorem dX10_event_96 : decode cX10_event 96 = .ok (.getfield 11, 3) := by decide +kernel
theorem dX10_event_99 : decode cX10_event 99 = .ok (.bipush 30, 2) := by decide +kernel
theorem dX10_event_101 : decode cX10_event 101 = .ok (.aload_n 0, 1) := by decide +kernel
theorem dX10_event_102 : decode cX10_event 102 = .ok (.getfield 11, 3) := by decide +kernel
theorem dX10_event_105 : decode cX10_event 105 = .ok (.bipush 21, 2) := by decide +kernel
theorem dX10_event_107 : decode cX10_event 107 = .ok (.iaload, 1) := by decide +kernel
theorem dX10_event_108 : decode cX10_event 108 = .ok (.iadd, 1) := by decide +kernel
theorem dX10_event_109 : decode cX10_event 109 = .ok (.iload_n 2, 1) := by decide +kernel
theorem dX10_event_110 : decode cX10_event 110 = .ok (.iastore, 1) := by decide +kernel
theorem dX10_event_111 : decode cX10_event 111 = .ok (.aload_n 0, 1) := by decide +kernel
theorem dX10_event_112 : decode cX10_event 112 = .ok (.getfield 11, 3) := by decide +kernel
theorem dX10_event_115 : decode cX10_event 115 = .ok (.bipush 21, 2) := by decide +kernel
theorem dX10_event_117 : decode cX10_event 117 = .ok (.dup2, 1) := by decide +kernel
theorem dX10_event_118 : decode cX10_event 118 = .ok (.iaload, 1) := by decide +kernel
theorem dX10_event_119 : decode cX10_event 119 = .ok (.iconst 1, 1) := by decide +kernel
theorem dX10_event_120 : decode cX10_event 120 = .ok (.iadd, 1) := by decide +kernel
theorem dX10_event_121 : decode cX10_event 121 = .ok (.iastore, 1) := by decide +kernel
theorem dX10_event_122 : decode cX10_event 122 = .ok (.aload_n 0, 1) := by decide +kernel
theorem dX10_event_123 : decode cX10_event 123 = .ok (.getfield 11, 3) := by decide +kernel
theorem dX10_event_126 : decode cX10_event 126 = .ok (.bipush 21, 2) := by decide +kernel
theorem dX10_event_128 : decode cX10_event 128 = .ok (.iaload, 1) := by decide +kernel
theorem dX10_event_129 : decode cX10_event 129 = .ok (.ireturn, 1) := by decide +kernel
theorem dX10_after_0 : decode cX10_after 0 = .ok (.iload_n 1, 1) := by decide +kernel
theorem dX10_after_1 : decode cX10_after 1 = .ok (.i2l, 1) := by decide +kernel
theorem dX10_after_2 : decode cX10_after 2 = .ok (.lconst 0, 1) := by decide +kernel
theorem dX10_after_3 : decode cX10_after 3 = .ok (.ldc2_w 64, 3) := by decide +kernel
theorem dX10_after_6 : decode cX10_after 6 = .ok (.invokestatic 60, 3) := by decide +kernel
theorem dX10_after_9 : decode cX10_after 9 = .ok (.ifCond .ne 5, 3) := by decide +kernel
theorem dX10_after_12 : decode cX10_after 12 = .ok (.iconst (-1), 1) := by decide +kernel
theorem dX10_after_13 : decode cX10_after 13 = .ok (.ireturn, 1) := by decide +kernel
theorem dX10_after_14 : decode cX10_after 14 = .ok (.aload_n 0, 1) := by decide +kernel
theorem dX10_after_15 : decode cX10_after 15 = .ok (.getfield 11, 3) := by decide +kernel
theorem dX10_after_18 : decode cX10_after 18 = .ok (.iconst 1, 1) := by decide +kernel
theorem dX10_after_19 : decode cX10_after 19 = .ok (.iaload, 1) := by decide +kernel
theorem dX10_after_20 : decode cX10_after 20 = .ok (.istore_n 2, 1) := by decide +kernel
theorem dX10_after_21 : decode cX10_after 21 = .ok (.iconst 0, 1) := by decide +kernel
theorem dX10_after_22 : decode cX10_after 22 = .ok (.istore_n 3, 1) := by decide +kernel
theorem dX10_after_23 : decode cX10_after 23 = .ok (.iload_n 3, 1) := by decide +kernel
theorem dX10_after_24 : decode cX10_after 24 = .ok (.aload_n 0, 1) := by decide +kernel
theorem dX10_after_25 : decode cX10_after 25 = .ok (.getfield 11, 3) := by decide +kernel
theorem dX10_after_28 : decode cX10_after 28 = .ok (.bipush 21, 2) := by decide +kernel
theorem dX10_after_30 : decode cX10_after 30 = .ok (.iaload, 1) := by decide +kernel
theorem dX10_after_31 : decode cX10_after 31 = .ok (.if_icmp .ge 98, 3) := by decide +kernel
theorem dX10_after_34 : decode cX10_after 34 = .ok (.aload_n 0, 1) := by decide +kernel
theorem dX10_after_35 : decode cX10_after 35 = .ok (.getfield 11, 3) := by decide +kernel
theorem dX10_after_38 : decode cX10_after 38 = .ok (.bipush 22, 2) := by decide +kernel
theorem dX10_after_40 : decode cX10_after 40 = .ok (.iload_n 3, 1) := by decide +kernel
theorem dX10_after_41 : decode cX10_after 41 = .ok (.iadd, 1) := by decide +kernel
theorem dX10_after_42 : decode cX10_after 42 = .ok (.iaload, 1) := by decide +kernel
theorem dX10_after_43 : decode cX10_after 43 = .ok (.istore 4, 2) := by decide +kernel
theorem dX10_after_45 : decode cX10_after 45 = .ok (.aload_n 0, 1) := by decide +kernel
theorem dX10_after_46 : decode cX10_after 46 = .ok (.getfield 11, 3) := by decide +kernel
theorem dX10_after_49 : decode cX10_after 49 = .ok (.bipush 30, 2) := by decide +kernel
theorem dX10_after_51 : decode cX10_after 51 = .ok (.iload_n 3, 1) := by decide +kernel
theorem dX10_after_52 : decode cX10_after 52 = .ok (.iadd, 1) := by decide +kernel
theorem dX10_after_53 : decode cX10_after 53 = .ok (.iaload, 1) := by decide +kernel
theorem dX10_after_54 : decode cX10_after 54 = .ok (.istore 5, 2) := by decide +kernel
theorem dX10_after_56 : decode cX10_after 56 = .ok (.aload_n 0, 1) := by decide +kernel
theorem dX10_after_57 : decode cX10_after 57 = .ok (.iload 4, 2) := by decide +kernel
theorem dX10_after_59 : decode cX10_after 59 = .ok (.iload 5, 2) := by decide +kernel
theorem dX10_after_61 : decode cX10_after 61 = .ok (.invokevirtual 176, 3) := by decide +kernel
theorem dX10_after_64 : decode cX10_after 64 = .ok (.ifCond .eq 59, 3) := by decide +kernel
theorem dX10_after_67 : decode cX10_after 67 = .ok (.iload 4, 2) := by decide +kernel
theorem dX10_after_69 : decode cX10_after 69 = .ok (.ifCond .ne 12, 3) := by decide +kernel
theorem dX10_after_72 : decode cX10_after 72 = .ok (.iload_n 2, 1) := by decide +kernel
theorem dX10_after_73 : decode cX10_after 73 = .ok (.iconst 1, 1) := by decide +kernel
theorem dX10_after_74 : decode cX10_after 74 = .ok (.iload 5, 2) := by decide +kernel
theorem dX10_after_76 : decode cX10_after 76 = .ok (.ishl, 1) := by decide +kernel
theorem dX10_after_77 : decode cX10_after 77 = .ok (.ixor, 1) := by decide +kernel
theorem dX10_after_78 : decode cX10_after 78 = .ok (.goto 44, 3) := by decide +kernel
theorem dX10_after_81 : decode cX10_after 81 = .ok (.iload 4, 2) := by decide +kernel
theorem dX10_after_83 : decode cX10_after 83 = .ok (.iconst 1, 1) := by decide +kernel
theorem dX10_after_84 : decode cX10_after 84 = .ok (.if_icmp .ne 13, 3) := by decide +kernel
theorem dX10_after_87 : decode cX10_after 87 = .ok (.aload_n 0, 1) := by decide +kernel
theorem dX10_after_88 : decode cX10_after 88 = .ok (.iload_n 2, 1) := by decide +kernel
theorem dX10_after_89 : decode cX10_after 89 = .ok (.iload 5, 2) := by decide +kernel
theorem dX10_after_91 : decode cX10_after 91 = .ok (.invokevirtual 110, 3) := by decide +kernel
theorem dX10_after_94 : decode cX10_after 94 = .ok (.goto 28, 3) := by decide +kernel
theorem dX10_after_97 : decode cX10_after 97 = .ok (.iload 4, 2) := by decide +kernel
theorem dX10_after_99 : decode cX10_after 99 = .ok (.iconst 2, 1) := by decide +kernel
theorem dX10_after_100 : decode cX10_after 100 = .ok (.if_icmp .ne 11, 3) := by decide +kernel
theorem dX10_after_103 : decode cX10_after 103 = .ok (.aload_n 0, 1) := by decide +kernel
theorem dX10_after_104 : decode cX10_after 104 = .ok (.iload_n 2, 1) := by decide +kernel
theorem dX10_after_105 : decode cX10_after 105 = .ok (.invokevirtual 107, 3) := by decide +kernel
theorem dX10_after_108 : decode cX10_after 108 = .ok (.goto 14, 3) := by decide +kernel
theorem dX10_after_111 : decode cX10_after 111 = .ok (.aload_n 0, 1) := by decide +kernel
theorem dX10_after_112 : decode cX10_after 112 = .ok (.iload_n 2, 1) := by decide +kernel
theorem dX10_after_113 : decode cX10_after 113 = .ok (.iload 5, 2) := by decide +kernel
theorem dX10_after_115 : decode cX10_after 115 = .ok (.iload 5, 2) := by decide +kernel
theorem dX10_after_117 : decode cX10_after 117 = .ok (.iconst 1, 1) := by decide +kernel
theorem dX10_after_118 : decode cX10_after 118 = .ok (.iadd, 1) := by decide +kernel
theorem dX10_after_119 : decode cX10_after 119 = .ok (.invokevirtual 114, 3) := by decide +kernel
theorem dX10_after_122 : decode cX10_after 122 = .ok (.istore_n 2, 1) := by decide +kernel
theorem dX10_after_123 : decode cX10_after 123 = .ok (.iinc 3 1, 3) := by decide +kernel
theorem dX10_after_126 : decode cX10_after 126 = .ok (.goto (-103), 3) := by decide +kernel
theorem dX10_after_129 : decode cX10_after 129 = .ok (.iload_n 1, 1) := by decide +kernel
theorem dX10_after_130 : decode cX10_after 130 = .ok (.ifCond .ne 7, 3) := by decide +kernel
theorem dX10_after_133 : decode cX10_after 133 = .ok (.iload_n 2, 1) := by decide +kernel
theorem dX10_after_134 : decode cX10_after 134 = .ok (.goto 36, 3) := by decide +kernel
theorem dX10_after_137 : decode cX10_after 137 = .ok (.iload_n 1, 1) := by decide +kernel
theorem dX10_after_138 : decode cX10_after 138 = .ok (.iconst 1, 1) := by decide +kernel
theorem dX10_after_139 : decode cX10_after 139 = .ok (.if_icmp .ne 14, 3) := by decide +kernel
theorem dX10_after_142 : decode cX10_after 142 = .ok (.aload_n 0, 1) := by decide +kernel
theorem dX10_after_143 : decode cX10_after 143 = .ok (.iload_n 2, 1) := by decide +kernel
theorem dX10_after_144 : decode cX10_after 144 = .ok (.invokevirtual 101, 3) := by decide +kernel
theorem dX10_after_147 : decode cX10_after 147 = .ok (.invokestatic 90, 3) := by decide +kernel
theorem dX10_after_150 : decode cX10_after 150 = .ok (.goto 20, 3) := by decide +kernel
theorem dX10_after_153 : decode cX10_after 153 = .ok (.aload_n 0, 1) := by decide +kernel
theorem dX10_after_154 : decode cX10_after 154 = .ok (.iload_n 2, 1) := by decide +kernel
theorem dX10_after_155 : decode cX10_after 155 = .ok (.invokevirtual 107, 3) := by decide +kernel
theorem dX10_after_158 : decode cX10_after 158 = .ok (.iload_n 2, 1) := by decide +kernel
theorem dX10_after_159 : decode cX10_after 159 = .ok (.if_icmp .ne 7, 3) := by decide +kernel
theorem dX10_after_162 : decode cX10_after 162 = .ok (.iconst 1, 1) := by decide +kernel
theorem dX10_after_163 : decode cX10_after 163 = .ok (.goto 4, 3) := by decide +kernel
theorem dX10_after_166 : decode cX10_after 166 = .ok (.iconst 0, 1) := by decide +kernel
theorem dX10_after_167 : decode cX10_after 167 = .ok (.invokestatic 90, 3) := by decide +kernel
theorem dX10_after_170 : decode cX10_after 170 = .ok (.ireturn, 1) := by decide +kernel
theorem dX10_book_0 : decode cX10_book 0 = .ok (.iload_n 1, 1) := by decide +kernel
theorem dX10_book_1 : decode cX10_book 1 = .ok (.iconst (-1), 1) := by decide +kernel
theorem dX10_book_2 : decode cX10_book 2 = .ok (.if_icmp .ne 27, 3) := by decide +kernel
theorem dX10_book_5 : decode cX10_book 5 = .ok (.bipush 38, 2) := by decide +kernel
theorem dX10_book_7 : decode cX10_book 7 = .ok (.istore_n 3, 1) := by decide +kernel
theorem dX10_book_8 : decode cX10_book 8 = .ok (.iload_n 3, 1) := by decide +kernel
theorem dX10_book_9 : decode cX10_book 9 = .ok (.bipush 55, 2) := by decide +kernel
theorem dX10_book_11 : decode cX10_book 11 = .ok (.if_icmp .ge 16, 3) := by decide +kernel
theorem dX10_book_14 : decode cX10_book 14 = .ok (.aload_n 0, 1) := by decide +kernel
theorem dX10_book_15 : decode cX10_book 15 = .ok (.getfield 11, 3) := by decide +kernel
theorem dX10_book_18 : decode cX10_book 18 = .ok (.iload_n 3, 1) := by decide +kernel
theorem dX10_book_19 : decode cX10_book 19 = .ok (.iconst 0, 1) := by decide +kernel
theorem dX10_book_20 : decode cX10_book 20 = .ok (.iastore, 1) := by decide +kernel
theorem dX10_book_21 : decode cX10_book 21 = .ok (.iinc 3 1, 3) := by decide +kernel
theorem dX10_book_24 : decode cX10_book 24 = .ok (.goto (-16), 3) := by decide +kernel
theorem dX10_book_27 : decode cX10_book 27 = .ok (.iconst 0, 1) := by decide +kernel
theorem dX10_book_28 : decode cX10_book 28 = .ok (.ireturn, 1) := by decide +kernel
theorem dX10_book_29 : decode cX10_book 29 = .ok (.aload_n 0, 1) := by decide +kernel
theorem dX10_book_30 : decode cX10_book 30 = .ok (.iload_n 1, 1) := by decide +kernel
theorem dX10_book_31 : decode cX10_book 31 = .ok (.invokevirtual 68, 3) := by decide +kernel
theorem dX10_book_34 : decode cX10_book 34 = .ok (.ifCond .ne 5, 3) := by decide +kernel
theorem dX10_book_37 : decode cX10_book 37 = .ok (.iconst (-1), 1) := by decide +kernel
theorem dX10_book_38 : decode cX10_book 38 = .ok (.ireturn, 1) := by decide +kernel
theorem dX10_book_39 : decode cX10_book 39 = .ok (.iload_n 2, 1) := by decide +kernel
theorem dX10_book_40 : decode cX10_book 40 = .ok (.i2l, 1) := by decide +kernel
theorem dX10_book_41 : decode cX10_book 41 = .ok (.lconst 0, 1) := by decide +kernel
theorem dX10_book_42 : decode cX10_book 42 = .ok (.lconst 1, 1) := by decide +kernel
theorem dX10_book_43 : decode cX10_book 43 = .ok (.invokestatic 60, 3) := by decide +kernel
theorem dX10_book_46 : decode cX10_book 46 = .ok (.ifCond .ne 6, 3) := by decide +kernel
theorem dX10_book_49 : decode cX10_book 49 = .ok (.bipush (-2), 2) := by decide +kernel
theorem dX10_book_51 : decode cX10_book 51 = .ok (.ireturn, 1) := by decide +kernel
theorem dX10_book_52 : decode cX10_book 52 = .ok (.aload_n 0, 1) := by decide +kernel
theorem dX10_book_53 : decode cX10_book 53 = .ok (.getfield 11, 3) := by decide +kernel
theorem dX10_book_56 : decode cX10_book 56 = .ok (.bipush 38, 2) := by decide +kernel
theorem dX10_book_58 : decode cX10_book 58 = .ok (.iaload, 1) := by decide +kernel
theorem dX10_book_59 : decode cX10_book 59 = .ok (.bipush 8, 2) := by decide +kernel
theorem dX10_book_61 : decode cX10_book 61 = .ok (.if_icmp .ne 6, 3) := by decide +kernel
theorem dX10_book_64 : decode cX10_book 64 = .ok (.bipush (-4), 2) := by decide +kernel
theorem dX10_book_66 : decode cX10_book 66 = .ok (.ireturn, 1) := by decide +kernel
theorem dX10_book_67 : decode cX10_book 67 = .ok (.aload_n 0, 1) := by decide +kernel
theorem dX10_book_68 : decode cX10_book 68 = .ok (.getfield 11, 3) := by decide +kernel
theorem dX10_book_71 : decode cX10_book 71 = .ok (.bipush 39, 2) := by decide +kernel
theorem dX10_book_73 : decode cX10_book 73 = .ok (.aload_n 0, 1) := by decide +kernel
theorem dX10_book_74 : decode cX10_book 74 = .ok (.getfield 11, 3) := by decide +kernel
theorem dX10_book_77 : decode cX10_book 77 = .ok (.bipush 38, 2) := by decide +kernel
theorem dX10_book_79 : decode cX10_book 79 = .ok (.iaload, 1) := by decide +kernel
theorem dX10_book_80 : decode cX10_book 80 = .ok (.iadd, 1) := by decide +kernel
theorem dX10_book_81 : decode cX10_book 81 = .ok (.iload_n 1, 1) := by decide +kernel
theorem dX10_book_82 : decode cX10_book 82 = .ok (.iastore, 1) := by decide +kernel
theorem dX10_book_83 : decode cX10_book 83 = .ok (.aload_n 0, 1) := by decide +kernel
theorem dX10_book_84 : decode cX10_book 84 = .ok (.getfield 11, 3) := by decide +kernel
theorem dX10_book_87 : decode cX10_book 87 = .ok (.bipush 47, 2) := by decide +kernel
theorem dX10_book_89 : decode cX10_book 89 = .ok (.aload_n 0, 1) := by decide +kernel
theorem dX10_book_90 : decode cX10_book 90 = .ok (.getfield 11, 3) := by decide +kernel
theorem dX10_book_93 : decode cX10_book 93 = .ok (.bipush 38, 2) := by decide +kernel
theorem dX10_book_95 : decode cX10_book 95 = .ok (.iaload, 1) := by decide +kernel
theorem dX10_book_96 : decode cX10_book 96 = .ok (.iadd, 1) := by decide +kernel
theorem dX10_book_97 : decode cX10_book 97 = .ok (.iload_n 2, 1) := by decide +kernel
theorem dX10_book_98 : decode cX10_book 98 = .ok (.iastore, 1) := by decide +kernel
theorem dX10_book_99 : decode cX10_book 99 = .ok (.aload_n 0, 1) := by decide +kernel
theorem dX10_book_100 : decode cX10_book 100 = .ok (.getfield 11, 3) := by decide +kernel
theorem dX10_book_103 : decode cX10_book 103 = .ok (.bipush 38, 2) := by decide +kernel
theorem dX10_book_105 : decode cX10_book 105 = .ok (.dup2, 1) := by decide +kernel
theorem dX10_book_106 : decode cX10_book 106 = .ok (.iaload, 1) := by decide +kernel
theorem dX10_book_107 : decode cX10_book 107 = .ok (.iconst 1, 1) := by decide +kernel
theorem dX10_book_108 : decode cX10_book 108 = .ok (.iadd, 1) := by decide +kernel
theorem dX10_book_109 : decode cX10_book 109 = .ok (.iastore, 1) := by decide +kernel
theorem dX10_book_110 : decode cX10_book 110 = .ok (.aload_n 0, 1) := by decide +kernel
theorem dX10_book_111 : decode cX10_book 111 = .ok (.getfield 11, 3) := by decide +kernel
theorem dX10_book_114 : decode cX10_book 114 = .ok (.bipush 38, 2) := by decide +kernel
theorem dX10_book_116 : decode cX10_book 116 = .ok (.iaload, 1) := by decide +kernel
theorem dX10_book_117 : decode cX10_book 117 = .ok (.ireturn, 1) := by decide +kernel
theorem dX10_looked_0 : decode cX10_looked 0 = .ok (.iconst 0, 1) := by decide +kernel
theorem dX10_looked_1 : decode cX10_looked 1 = .ok (.istore_n 1, 1) := by decide +kernel
theorem dX10_looked_2 : decode cX10_looked 2 = .ok (.iload_n 1, 1) := by decide +kernel
theorem dX10_looked_3 : decode cX10_looked 3 = .ok (.aload_n 0, 1) := by decide +kernel
theorem dX10_looked_4 : decode cX10_looked 4 = .ok (.getfield 11, 3) := by decide +kernel
theorem dX10_looked_7 : decode cX10_looked 7 = .ok (.bipush 38, 2) := by decide +kernel
theorem dX10_looked_9 : decode cX10_looked 9 = .ok (.iaload, 1) := by decide +kernel
theorem dX10_looked_10 : decode cX10_looked 10 = .ok (.if_icmp .ge 54, 3) := by decide +kernel
theorem dX10_looked_13 : decode cX10_looked 13 = .ok (.aload_n 0, 1) := by decide +kernel
theorem dX10_looked_14 : decode cX10_looked 14 = .ok (.getfield 11, 3) := by decide +kernel
theorem dX10_looked_17 : decode cX10_looked 17 = .ok (.bipush 39, 2) := by decide +kernel
theorem dX10_looked_19 : decode cX10_looked 19 = .ok (.iload_n 1, 1) := by decide +kernel
theorem dX10_looked_20 : decode cX10_looked 20 = .ok (.iadd, 1) := by decide +kernel
theorem dX10_looked_21 : decode cX10_looked 21 = .ok (.iaload, 1) := by decide +kernel
theorem dX10_looked_22 : decode cX10_looked 22 = .ok (.istore_n 2, 1) := by decide +kernel
theorem dX10_looked_23 : decode cX10_looked 23 = .ok (.aload_n 0, 1) := by decide +kernel
theorem dX10_looked_24 : decode cX10_looked 24 = .ok (.iload_n 2, 1) := by decide +kernel
theorem dX10_looked_25 : decode cX10_looked 25 = .ok (.invokevirtual 68, 3) := by decide +kernel
theorem dX10_looked_28 : decode cX10_looked 28 = .ok (.ifCond .eq 28, 3) := by decide +kernel
theorem dX10_looked_31 : decode cX10_looked 31 = .ok (.aload_n 0, 1) := by decide +kernel
theorem dX10_looked_32 : decode cX10_looked 32 = .ok (.getfield 11, 3) := by decide +kernel
theorem dX10_looked_35 : decode cX10_looked 35 = .ok (.iconst 1, 1) := by decide +kernel
theorem dX10_looked_36 : decode cX10_looked 36 = .ok (.iaload, 1) := by decide +kernel
theorem dX10_looked_37 : decode cX10_looked 37 = .ok (.iload_n 2, 1) := by decide +kernel
theorem dX10_looked_38 : decode cX10_looked 38 = .ok (.invokestatic 97, 3) := by decide +kernel
theorem dX10_looked_41 : decode cX10_looked 41 = .ok (.invokestatic 90, 3) := by decide +kernel
theorem dX10_looked_44 : decode cX10_looked 44 = .ok (.aload_n 0, 1) := by decide +kernel
theorem dX10_looked_45 : decode cX10_looked 45 = .ok (.getfield 11, 3) := by decide +kernel
theorem dX10_looked_48 : decode cX10_looked 48 = .ok (.bipush 47, 2) := by decide +kernel
theorem dX10_looked_50 : decode cX10_looked 50 = .ok (.iload_n 1, 1) := by decide +kernel
theorem dX10_looked_51 : decode cX10_looked 51 = .ok (.iadd, 1) := by decide +kernel
theorem dX10_looked_52 : decode cX10_looked 52 = .ok (.iaload, 1) := by decide +kernel
theorem dX10_looked_53 : decode cX10_looked 53 = .ok (.if_icmp .eq 5, 3) := by decide +kernel
theorem dX10_looked_56 : decode cX10_looked 56 = .ok (.iload_n 1, 1) := by decide +kernel
theorem dX10_looked_57 : decode cX10_looked 57 = .ok (.ireturn, 1) := by decide +kernel
theorem dX10_looked_58 : decode cX10_looked 58 = .ok (.iinc 1 1, 3) := by decide +kernel
theorem dX10_looked_61 : decode cX10_looked 61 = .ok (.goto (-59), 3) := by decide +kernel
theorem dX10_looked_64 : decode cX10_looked 64 = .ok (.bipush (-5), 2) := by decide +kernel
theorem dX10_looked_66 : decode cX10_looked 66 = .ok (.ireturn, 1) := by decide +kernel
theorem dX10_feed_0 : decode cX10_feed 0 = .ok (.iload_n 1, 1) := by decide +kernel
theorem dX10_feed_1 : decode cX10_feed 1 = .ok (.i2l, 1) := by decide +kernel
theorem dX10_feed_2 : decode cX10_feed 2 = .ok (.lconst 0, 1) := by decide +kernel
theorem dX10_feed_3 : decode cX10_feed 3 = .ok (.ldc2_w 179, 3) := by decide +kernel
theorem dX10_feed_6 : decode cX10_feed 6 = .ok (.invokestatic 60, 3) := by decide +kernel
theorem dX10_feed_9 : decode cX10_feed 9 = .ok (.ifCond .ne 6, 3) := by decide +kernel
theorem dX10_feed_12 : decode cX10_feed 12 = .ok (.bipush (-2), 2) := by decide +kernel
theorem dX10_feed_14 : decode cX10_feed 14 = .ok (.ireturn, 1) := by decide +kernel
theorem dX10_feed_15 : decode cX10_feed 15 = .ok (.aload_n 0, 1) := by decide +kernel
theorem dX10_feed_16 : decode cX10_feed 16 = .ok (.getfield 181, 3) := by decide +kernel
theorem dX10_feed_19 : decode cX10_feed 19 = .ok (.bipush 100, 2) := by decide +kernel
theorem dX10_feed_21 : decode cX10_feed 21 = .ok (.if_icmp .ne 6, 3) := by decide +kernel
theorem dX10_feed_24 : decode cX10_feed 24 = .ok (.bipush (-4), 2) := by decide +kernel
theorem dX10_feed_26 : decode cX10_feed 26 = .ok (.ireturn, 1) := by decide +kernel
theorem dX10_feed_27 : decode cX10_feed 27 = .ok (.aload_n 0, 1) := by decide +kernel
theorem dX10_feed_28 : decode cX10_feed 28 = .ok (.getfield 31, 3) := by decide +kernel
theorem dX10_feed_31 : decode cX10_feed 31 = .ok (.aload_n 0, 1) := by decide +kernel
theorem dX10_feed_32 : decode cX10_feed 32 = .ok (.getfield 181, 3) := by decide +kernel
theorem dX10_feed_35 : decode cX10_feed 35 = .ok (.iload_n 1, 1) := by decide +kernel
theorem dX10_feed_36 : decode cX10_feed 36 = .ok (.iastore, 1) := by decide +kernel
theorem dX10_feed_37 : decode cX10_feed 37 = .ok (.aload_n 0, 1) := by decide +kernel
theorem dX10_feed_38 : decode cX10_feed 38 = .ok (.dup, 1) := by decide +kernel
theorem dX10_feed_39 : decode cX10_feed 39 = .ok (.getfield 181, 3) := by decide +kernel
theorem dX10_feed_42 : decode cX10_feed 42 = .ok (.iconst 1, 1) := by decide +kernel
theorem dX10_feed_43 : decode cX10_feed 43 = .ok (.iadd, 1) := by decide +kernel
theorem dX10_feed_44 : decode cX10_feed 44 = .ok (.putfield 181, 3) := by decide +kernel
theorem dX10_feed_47 : decode cX10_feed 47 = .ok (.aload_n 0, 1) := by decide +kernel
theorem dX10_feed_48 : decode cX10_feed 48 = .ok (.getfield 181, 3) := by decide +kernel
theorem dX10_feed_51 : decode cX10_feed 51 = .ok (.ireturn, 1) := by decide +kernel
theorem dX10_here_0 : decode cX10_here 0 = .ok (.aload_n 0, 1) := by decide +kernel
theorem dX10_here_1 : decode cX10_here 1 = .ok (.getfield 184, 3) := by decide +kernel
theorem dX10_here_4 : decode cX10_here 4 = .ok (.aload_n 0, 1) := by decide +kernel
theorem dX10_here_5 : decode cX10_here 5 = .ok (.getfield 181, 3) := by decide +kernel
theorem dX10_here_8 : decode cX10_here 8 = .ok (.if_icmp .ge 15, 3) := by decide +kernel
theorem dX10_here_11 : decode cX10_here 11 = .ok (.aload_n 0, 1) := by decide +kernel
theorem dX10_here_12 : decode cX10_here 12 = .ok (.getfield 31, 3) := by decide +kernel
theorem dX10_here_15 : decode cX10_here 15 = .ok (.aload_n 0, 1) := by decide +kernel
theorem dX10_here_16 : decode cX10_here 16 = .ok (.getfield 184, 3) := by decide +kernel
theorem dX10_here_19 : decode cX10_here 19 = .ok (.iaload, 1) := by decide +kernel
theorem dX10_here_20 : decode cX10_here 20 = .ok (.goto 4, 3) := by decide +kernel
theorem dX10_here_23 : decode cX10_here 23 = .ok (.iconst (-1), 1) := by decide +kernel
theorem dX10_here_24 : decode cX10_here 24 = .ok (.ireturn, 1) := by decide +kernel
theorem dX10_isDigit_0 : decode cX10_isDigit 0 = .ok (.aload_n 0, 1) := by decide +kernel
theorem dX10_isDigit_1 : decode cX10_isDigit 1 = .ok (.invokevirtual 187, 3) := by decide +kernel
theorem dX10_isDigit_4 : decode cX10_isDigit 4 = .ok (.i2l, 1) := by decide +kernel
theorem dX10_isDigit_5 : decode cX10_isDigit 5 = .ok (.ldc2_w 190, 3) := by decide +kernel
theorem dX10_isDigit_8 : decode cX10_isDigit 8 = .ok (.ldc2_w 192, 3) := by decide +kernel
theorem dX10_isDigit_11 : decode cX10_isDigit 11 = .ok (.invokestatic 60, 3) := by decide +kernel
theorem dX10_isDigit_14 : decode cX10_isDigit 14 = .ok (.ireturn, 1) := by decide +kernel
theorem dX10_takes_0 : decode cX10_takes 0 = .ok (.aload_n 0, 1) := by decide +kernel
theorem dX10_takes_1 : decode cX10_takes 1 = .ok (.iconst 0, 1) := by decide +kernel
theorem dX10_takes_2 : decode cX10_takes 2 = .ok (.putfield 194, 3) := by decide +kernel
theorem dX10_takes_5 : decode cX10_takes 5 = .ok (.aload_n 0, 1) := by decide +kernel
theorem dX10_takes_6 : decode cX10_takes 6 = .ok (.getfield 194, 3) := by decide +kernel
theorem dX10_takes_9 : decode cX10_takes 9 = .ok (.iload_n 1, 1) := by decide +kernel
theorem dX10_takes_10 : decode cX10_takes 10 = .ok (.if_icmp .ge 49, 3) := by decide +kernel
theorem dX10_takes_13 : decode cX10_takes 13 = .ok (.aload_n 0, 1) := by decide +kernel
theorem dX10_takes_14 : decode cX10_takes 14 = .ok (.invokevirtual 197, 3) := by decide +kernel
theorem dX10_takes_17 : decode cX10_takes 17 = .ok (.ifCond .eq 42, 3) := by decide +kernel
theorem dX10_takes_20 : decode cX10_takes 20 = .ok (.aload_n 0, 1) := by decide +kernel
theorem dX10_takes_21 : decode cX10_takes 21 = .ok (.getfield 34, 3) := by decide +kernel
theorem dX10_takes_24 : decode cX10_takes 24 = .ok (.aload_n 0, 1) := by decide +kernel
theorem dX10_takes_25 : decode cX10_takes 25 = .ok (.getfield 194, 3) := by decide +kernel
theorem dX10_takes_28 : decode cX10_takes 28 = .ok (.aload_n 0, 1) := by decide +kernel
theorem dX10_takes_29 : decode cX10_takes 29 = .ok (.invokevirtual 187, 3) := by decide +kernel
theorem dX10_takes_32 : decode cX10_takes 32 = .ok (.bipush 48, 2) := by decide +kernel
theorem dX10_takes_34 : decode cX10_takes 34 = .ok (.isub, 1) := by decide +kernel
theorem dX10_takes_35 : decode cX10_takes 35 = .ok (.iastore, 1) := by decide +kernel
theorem dX10_takes_36 : decode cX10_takes 36 = .ok (.aload_n 0, 1) := by decide +kernel
theorem dX10_takes_37 : decode cX10_takes 37 = .ok (.dup, 1) := by decide +kernel
theorem dX10_takes_38 : decode cX10_takes 38 = .ok (.getfield 194, 3) := by decide +kernel
theorem dX10_takes_41 : decode cX10_takes 41 = .ok (.iconst 1, 1) := by decide +kernel
theorem dX10_takes_42 : decode cX10_takes 42 = .ok (.iadd, 1) := by decide +kernel
theorem dX10_takes_43 : decode cX10_takes 43 = .ok (.putfield 194, 3) := by decide +kernel
theorem dX10_takes_46 : decode cX10_takes 46 = .ok (.aload_n 0, 1) := by decide +kernel
theorem dX10_takes_47 : decode cX10_takes 47 = .ok (.dup, 1) := by decide +kernel
theorem dX10_takes_48 : decode cX10_takes 48 = .ok (.getfield 184, 3) := by decide +kernel
theorem dX10_takes_51 : decode cX10_takes 51 = .ok (.iconst 1, 1) := by decide +kernel
theorem dX10_takes_52 : decode cX10_takes 52 = .ok (.iadd, 1) := by decide +kernel
theorem dX10_takes_53 : decode cX10_takes 53 = .ok (.putfield 184, 3) := by decide +kernel
theorem dX10_takes_56 : decode cX10_takes 56 = .ok (.goto (-51), 3) := by decide +kernel
theorem dX10_takes_59 : decode cX10_takes 59 = .ok (.return_, 1) := by decide +kernel
theorem dX10_hasNumber_0 : decode cX10_hasNumber 0 = .ok (.aload_n 0, 1) := by decide +kernel
theorem dX10_hasNumber_1 : decode cX10_hasNumber 1 = .ok (.invokevirtual 187, 3) := by decide +kernel
theorem dX10_hasNumber_4 : decode cX10_hasNumber 4 = .ok (.bipush 45, 2) := by decide +kernel
theorem dX10_hasNumber_6 : decode cX10_hasNumber 6 = .ok (.if_icmp .ne 7, 3) := by decide +kernel
theorem dX10_hasNumber_9 : decode cX10_hasNumber 9 = .ok (.iconst 1, 1) := by decide +kernel
theorem dX10_hasNumber_10 : decode cX10_hasNumber 10 = .ok (.goto 4, 3) := by decide +kernel
theorem dX10_hasNumber_13 : decode cX10_hasNumber 13 = .ok (.iconst 0, 1) := by decide +kernel
theorem dX10_hasNumber_14 : decode cX10_hasNumber 14 = .ok (.istore_n 1, 1) := by decide +kernel
theorem dX10_hasNumber_15 : decode cX10_hasNumber 15 = .ok (.aload_n 0, 1) := by decide +kernel
theorem dX10_hasNumber_16 : decode cX10_hasNumber 16 = .ok (.dup, 1) := by decide +kernel
theorem dX10_hasNumber_17 : decode cX10_hasNumber 17 = .ok (.getfield 184, 3) := by decide +kernel
theorem dX10_hasNumber_20 : decode cX10_hasNumber 20 = .ok (.iload_n 1, 1) := by decide +kernel
theorem dX10_hasNumber_21 : decode cX10_hasNumber 21 = .ok (.ifCond .eq 7, 3) := by decide +kernel
theorem dX10_hasNumber_24 : decode cX10_hasNumber 24 = .ok (.iconst 1, 1) := by decide +kernel
theorem dX10_hasNumber_25 : decode cX10_hasNumber 25 = .ok (.goto 4, 3) := by decide +kernel
theorem dX10_hasNumber_28 : decode cX10_hasNumber 28 = .ok (.iconst 0, 1) := by decide +kernel
theorem dX10_hasNumber_29 : decode cX10_hasNumber 29 = .ok (.iadd, 1) := by decide +kernel
theorem dX10_hasNumber_30 : decode cX10_hasNumber 30 = .ok (.putfield 184, 3) := by decide +kernel
theorem dX10_hasNumber_33 : decode cX10_hasNumber 33 = .ok (.aload_n 0, 1) := by decide +kernel
theorem dX10_hasNumber_34 : decode cX10_hasNumber 34 = .ok (.iconst 0, 1) := by decide +kernel
theorem dX10_hasNumber_35 : decode cX10_hasNumber 35 = .ok (.putfield 200, 3) := by decide +kernel
theorem dX10_hasNumber_38 : decode cX10_hasNumber 38 = .ok (.iconst 0, 1) := by decide +kernel
theorem dX10_hasNumber_39 : decode cX10_hasNumber 39 = .ok (.istore_n 2, 1) := by decide +kernel
theorem dX10_hasNumber_40 : decode cX10_hasNumber 40 = .ok (.iload_n 2, 1) := by decide +kernel
theorem dX10_hasNumber_41 : decode cX10_hasNumber 41 = .ok (.iconst 2, 1) := by decide +kernel
theorem dX10_hasNumber_42 : decode cX10_hasNumber 42 = .ok (.if_icmp .ge 45, 3) := by decide +kernel
theorem dX10_hasNumber_45 : decode cX10_hasNumber 45 = .ok (.aload_n 0, 1) := by decide +kernel
theorem dX10_hasNumber_46 : decode cX10_hasNumber 46 = .ok (.invokevirtual 197, 3) := by decide +kernel
theorem dX10_hasNumber_49 : decode cX10_hasNumber 49 = .ok (.ifCond .eq 38, 3) := by decide +kernel
theorem dX10_hasNumber_52 : decode cX10_hasNumber 52 = .ok (.aload_n 0, 1) := by decide +kernel
theorem dX10_hasNumber_53 : decode cX10_hasNumber 53 = .ok (.bipush 10, 2) := by decide +kernel
theorem dX10_hasNumber_55 : decode cX10_hasNumber 55 = .ok (.aload_n 0, 1) := by decide +kernel
theorem dX10_hasNumber_56 : decode cX10_hasNumber 56 = .ok (.getfield 200, 3) := by decide +kernel
theorem dX10_hasNumber_59 : decode cX10_hasNumber 59 = .ok (.imul, 1) := by decide +kernel
theorem dX10_hasNumber_60 : decode cX10_hasNumber 60 = .ok (.aload_n 0, 1) := by decide +kernel
theorem dX10_hasNumber_61 : decode cX10_hasNumber 61 = .ok (.invokevirtual 187, 3) := by decide +kernel
theorem dX10_hasNumber_64 : decode cX10_hasNumber 64 = .ok (.iadd, 1) := by decide +kernel
theorem dX10_hasNumber_65 : decode cX10_hasNumber 65 = .ok (.bipush 48, 2) := by decide +kernel
theorem dX10_hasNumber_67 : decode cX10_hasNumber 67 = .ok (.isub, 1) := by decide +kernel
theorem dX10_hasNumber_68 : decode cX10_hasNumber 68 = .ok (.putfield 200, 3) := by decide +kernel
theorem dX10_hasNumber_71 : decode cX10_hasNumber 71 = .ok (.iinc 2 1, 3) := by decide +kernel
theorem dX10_hasNumber_74 : decode cX10_hasNumber 74 = .ok (.aload_n 0, 1) := by decide +kernel
theorem dX10_hasNumber_75 : decode cX10_hasNumber 75 = .ok (.dup, 1) := by decide +kernel
theorem dX10_hasNumber_76 : decode cX10_hasNumber 76 = .ok (.getfield 184, 3) := by decide +kernel
theorem dX10_hasNumber_79 : decode cX10_hasNumber 79 = .ok (.iconst 1, 1) := by decide +kernel
theorem dX10_hasNumber_80 : decode cX10_hasNumber 80 = .ok (.iadd, 1) := by decide +kernel
theorem dX10_hasNumber_81 : decode cX10_hasNumber 81 = .ok (.putfield 184, 3) := by decide +kernel
theorem dX10_hasNumber_84 : decode cX10_hasNumber 84 = .ok (.goto (-44), 3) := by decide +kernel
theorem dX10_hasNumber_87 : decode cX10_hasNumber 87 = .ok (.aload_n 0, 1) := by decide +kernel
theorem dX10_hasNumber_88 : decode cX10_hasNumber 88 = .ok (.iload_n 1, 1) := by decide +kernel
theorem dX10_hasNumber_89 : decode cX10_hasNumber 89 = .ok (.ifCond .eq 11, 3) := by decide +kernel
theorem dX10_hasNumber_92 : decode cX10_hasNumber 92 = .ok (.aload_n 0, 1) := by decide +kernel
theorem dX10_hasNumber_93 : decode cX10_hasNumber 93 = .ok (.getfield 200, 3) := by decide +kernel
theorem dX10_hasNumber_96 : decode cX10_hasNumber 96 = .ok (.ineg, 1) := by decide +kernel
theorem dX10_hasNumber_97 : decode cX10_hasNumber 97 = .ok (.goto 7, 3) := by decide +kernel
theorem dX10_hasNumber_100 : decode cX10_hasNumber 100 = .ok (.aload_n 0, 1) := by decide +kernel
theorem dX10_hasNumber_101 : decode cX10_hasNumber 101 = .ok (.getfield 200, 3) := by decide +kernel
theorem dX10_hasNumber_104 : decode cX10_hasNumber 104 = .ok (.putfield 200, 3) := by decide +kernel
theorem dX10_hasNumber_107 : decode cX10_hasNumber 107 = .ok (.iload_n 2, 1) := by decide +kernel
theorem dX10_hasNumber_108 : decode cX10_hasNumber 108 = .ok (.ifCond .le 7, 3) := by decide +kernel
theorem dX10_hasNumber_111 : decode cX10_hasNumber 111 = .ok (.iconst 1, 1) := by decide +kernel
theorem dX10_hasNumber_112 : decode cX10_hasNumber 112 = .ok (.goto 4, 3) := by decide +kernel
theorem dX10_hasNumber_115 : decode cX10_hasNumber 115 = .ok (.iconst 0, 1) := by decide +kernel
theorem dX10_hasNumber_116 : decode cX10_hasNumber 116 = .ok (.ireturn, 1) := by decide +kernel
theorem dX10_hasClause_0 : decode cX10_hasClause 0 = .ok (.aload_n 0, 1) := by decide +kernel
theorem dX10_hasClause_1 : decode cX10_hasClause 1 = .ok (.invokevirtual 187, 3) := by decide +kernel
theorem dX10_hasClause_4 : decode cX10_hasClause 4 = .ok (.istore_n 1, 1) := by decide +kernel
theorem dX10_hasClause_5 : decode cX10_hasClause 5 = .ok (.iload_n 1, 1) := by decide +kernel
theorem dX10_hasClause_6 : decode cX10_hasClause 6 = .ok (.bipush 110, 2) := by decide +kernel
theorem dX10_hasClause_8 : decode cX10_hasClause 8 = .ok (.if_icmp .eq 15, 3) := by decide +kernel
theorem dX10_hasClause_11 : decode cX10_hasClause 11 = .ok (.iload_n 1, 1) := by decide +kernel
theorem dX10_hasClause_12 : decode cX10_hasClause 12 = .ok (.bipush 116, 2) := by decide +kernel
theorem dX10_hasClause_14 : decode cX10_hasClause 14 = .ok (.if_icmp .eq 9, 3) := by decide +kernel
theorem dX10_hasClause_17 : decode cX10_hasClause 17 = .ok (.iload_n 1, 1) := by decide +kernel
theorem dX10_hasClause_18 : decode cX10_hasClause 18 = .ok (.bipush 119, 2) := by decide +kernel
theorem dX10_hasClause_20 : decode cX10_hasClause 20 = .ok (.if_icmp .ne 7, 3) := by decide +kernel
theorem dX10_hasClause_23 : decode cX10_hasClause 23 = .ok (.iconst 1, 1) := by decide +kernel
theorem dX10_hasClause_24 : decode cX10_hasClause 24 = .ok (.goto 14, 3) := by decide +kernel
theorem dX10_hasClause_27 : decode cX10_hasClause 27 = .ok (.iload_n 1, 1) := by decide +kernel
theorem dX10_hasClause_28 : decode cX10_hasClause 28 = .ok (.bipush 120, 2) := by decide +kernel
theorem dX10_hasClause_30 : decode cX10_hasClause 30 = .ok (.if_icmp .ne 7, 3) := by decide +kernel
theorem dX10_hasClause_33 : decode cX10_hasClause 33 = .ok (.iconst 2, 1) := by decide +kernel
theorem dX10_hasClause_34 : decode cX10_hasClause 34 = .ok (.goto 4, 3) := by decide +kernel
theorem dX10_hasClause_37 : decode cX10_hasClause 37 = .ok (.iconst 0, 1) := by decide +kernel
theorem dX10_hasClause_38 : decode cX10_hasClause 38 = .ok (.istore_n 2, 1) := by decide +kernel
theorem dX10_hasClause_39 : decode cX10_hasClause 39 = .ok (.iload_n 2, 1) := by decide +kernel
theorem dX10_hasClause_40 : decode cX10_hasClause 40 = .ok (.ifCond .gt 45, 3) := by decide +kernel
theorem dX10_hasClause_43 : decode cX10_hasClause 43 = .ok (.iload_n 1, 1) := by decide +kernel
theorem dX10_hasClause_44 : decode cX10_hasClause 44 = .ok (.bipush 43, 2) := by decide +kernel
theorem dX10_hasClause_46 : decode cX10_hasClause 46 = .ok (.if_icmp .eq 39, 3) := by decide +kernel
theorem dX10_hasClause_49 : decode cX10_hasClause 49 = .ok (.iload_n 1, 1) := by decide +kernel
theorem dX10_hasClause_50 : decode cX10_hasClause 50 = .ok (.bipush 45, 2) := by decide +kernel
theorem dX10_hasClause_52 : decode cX10_hasClause 52 = .ok (.if_icmp .eq 33, 3) := by decide +kernel
theorem dX10_hasClause_55 : decode cX10_hasClause 55 = .ok (.iload_n 1, 1) := by decide +kernel
theorem dX10_hasClause_56 : decode cX10_hasClause 56 = .ok (.bipush 113, 2) := by decide +kernel
theorem dX10_hasClause_58 : decode cX10_hasClause 58 = .ok (.if_icmp .eq 27, 3) := by decide +kernel
theorem dX10_hasClause_61 : decode cX10_hasClause 61 = .ok (.iload_n 1, 1) := by decide +kernel
theorem dX10_hasClause_62 : decode cX10_hasClause 62 = .ok (.bipush 103, 2) := by decide +kernel
theorem dX10_hasClause_64 : decode cX10_hasClause 64 = .ok (.if_icmp .eq 21, 3) := by decide +kernel
theorem dX10_hasClause_67 : decode cX10_hasClause 67 = .ok (.iload_n 1, 1) := by decide +kernel
theorem dX10_hasClause_68 : decode cX10_hasClause 68 = .ok (.bipush 100, 2) := by decide +kernel
theorem dX10_hasClause_70 : decode cX10_hasClause 70 = .ok (.if_icmp .eq 15, 3) := by decide +kernel
theorem dX10_hasClause_73 : decode cX10_hasClause 73 = .ok (.iload_n 1, 1) := by decide +kernel
theorem dX10_hasClause_74 : decode cX10_hasClause 74 = .ok (.bipush 111, 2) := by decide +kernel
theorem dX10_hasClause_76 : decode cX10_hasClause 76 = .ok (.if_icmp .eq 9, 3) := by decide +kernel
theorem dX10_hasClause_79 : decode cX10_hasClause 79 = .ok (.iload_n 1, 1) := by decide +kernel
theorem dX10_hasClause_80 : decode cX10_hasClause 80 = .ok (.bipush 107, 2) := by decide +kernel
theorem dX10_hasClause_82 : decode cX10_hasClause 82 = .ok (.if_icmp .ne 7, 3) := by decide +kernel
theorem dX10_hasClause_85 : decode cX10_hasClause 85 = .ok (.iconst 1, 1) := by decide +kernel
theorem dX10_hasClause_86 : decode cX10_hasClause 86 = .ok (.goto 4, 3) := by decide +kernel
theorem dX10_hasClause_89 : decode cX10_hasClause 89 = .ok (.iconst 0, 1) := by decide +kernel
theorem dX10_hasClause_90 : decode cX10_hasClause 90 = .ok (.istore_n 3, 1) := by decide +kernel
theorem dX10_hasClause_91 : decode cX10_hasClause 91 = .ok (.iload_n 3, 1) := by decide +kernel
theorem dX10_hasClause_92 : decode cX10_hasClause 92 = .ok (.ifCond .ne 5, 3) := by decide +kernel
theorem dX10_hasClause_95 : decode cX10_hasClause 95 = .ok (.iconst 0, 1) := by decide +kernel
theorem dX10_hasClause_96 : decode cX10_hasClause 96 = .ok (.ireturn, 1) := by decide +kernel
theorem dX10_hasClause_97 : decode cX10_hasClause 97 = .ok (.aload_n 0, 1) := by decide +kernel
theorem dX10_hasClause_98 : decode cX10_hasClause 98 = .ok (.dup, 1) := by decide +kernel
theorem dX10_hasClause_99 : decode cX10_hasClause 99 = .ok (.getfield 184, 3) := by decide +kernel
theorem dX10_hasClause_102 : decode cX10_hasClause 102 = .ok (.iconst 1, 1) := by decide +kernel
theorem dX10_hasClause_103 : decode cX10_hasClause 103 = .ok (.iadd, 1) := by decide +kernel
theorem dX10_hasClause_104 : decode cX10_hasClause 104 = .ok (.putfield 184, 3) := by decide +kernel
theorem dX10_hasClause_107 : decode cX10_hasClause 107 = .ok (.aload_n 0, 1) := by decide +kernel
theorem dX10_hasClause_108 : decode cX10_hasClause 108 = .ok (.iload_n 1, 1) := by decide +kernel
theorem dX10_hasClause_109 : decode cX10_hasClause 109 = .ok (.bipush 43, 2) := by decide +kernel
theorem dX10_hasClause_111 : decode cX10_hasClause 111 = .ok (.if_icmp .eq 9, 3) := by decide +kernel
theorem dX10_hasClause_114 : decode cX10_hasClause 114 = .ok (.iload_n 1, 1) := by decide +kernel
theorem dX10_hasClause_115 : decode cX10_hasClause 115 = .ok (.bipush 45, 2) := by decide +kernel
theorem dX10_hasClause_117 : decode cX10_hasClause 117 = .ok (.if_icmp .ne 7, 3) := by decide +kernel
theorem dX10_hasClause_120 : decode cX10_hasClause 120 = .ok (.iconst 4, 1) := by decide +kernel
theorem dX10_hasClause_121 : decode cX10_hasClause 121 = .ok (.goto 4, 3) := by decide +kernel
theorem dX10_hasClause_124 : decode cX10_hasClause 124 = .ok (.iload_n 2, 1) := by decide +kernel
theorem dX10_hasClause_125 : decode cX10_hasClause 125 = .ok (.invokevirtual 203, 3) := by decide +kernel
theorem dX10_hasClause_128 : decode cX10_hasClause 128 = .ok (.aload_n 0, 1) := by decide +kernel
theorem dX10_hasClause_129 : decode cX10_hasClause 129 = .ok (.getfield 194, 3) := by decide +kernel
theorem dX10_hasClause_132 : decode cX10_hasClause 132 = .ok (.iload_n 2, 1) := by decide +kernel
theorem dX10_hasClause_133 : decode cX10_hasClause 133 = .ok (.if_icmp .ge 5, 3) := by decide +kernel
theorem dX10_hasClause_136 : decode cX10_hasClause 136 = .ok (.iconst 0, 1) := by decide +kernel
theorem dX10_hasClause_137 : decode cX10_hasClause 137 = .ok (.ireturn, 1) := by decide +kernel
theorem dX10_hasClause_138 : decode cX10_hasClause 138 = .ok (.iload_n 1, 1) := by decide +kernel
theorem dX10_hasClause_139 : decode cX10_hasClause 139 = .ok (.bipush 119, 2) := by decide +kernel
theorem dX10_hasClause_141 : decode cX10_hasClause 141 = .ok (.if_icmp .eq 9, 3) := by decide +kernel
theorem dX10_hasClause_144 : decode cX10_hasClause 144 = .ok (.iload_n 1, 1) := by decide +kernel
theorem dX10_hasClause_145 : decode cX10_hasClause 145 = .ok (.bipush 113, 2) := by decide +kernel
theorem dX10_hasClause_147 : decode cX10_hasClause 147 = .ok (.if_icmp .ne 10, 3) := by decide +kernel
theorem dX10_hasClause_150 : decode cX10_hasClause 150 = .ok (.aload_n 0, 1) := by decide +kernel
theorem dX10_hasClause_151 : decode cX10_hasClause 151 = .ok (.invokevirtual 206, 3) := by decide +kernel
theorem dX10_hasClause_154 : decode cX10_hasClause 154 = .ok (.ifCond .eq 7, 3) := by decide +kernel
theorem dX10_hasClause_157 : decode cX10_hasClause 157 = .ok (.iconst 1, 1) := by decide +kernel
theorem dX10_hasClause_158 : decode cX10_hasClause 158 = .ok (.goto 4, 3) := by decide +kernel
theorem dX10_hasClause_161 : decode cX10_hasClause 161 = .ok (.iconst 0, 1) := by decide +kernel
theorem dX10_hasClause_162 : decode cX10_hasClause 162 = .ok (.ireturn, 1) := by decide +kernel
theorem dX10_isDone_0 : decode cX10_isDone 0 = .ok (.iload_n 1, 1) := by decide +kernel
theorem dX10_isDone_1 : decode cX10_isDone 1 = .ok (.lookupswitch 289 #[(43, 110), (45, 110), (100, 217), (103, 204), (110, 91), (111, 231), (113, 187), (116, 245), (119, 164), (120, 264)], 91) := by decide +kernel
theorem dX10_isDone_92 : decode cX10_isDone 92 = .ok (.aload_n 0, 1) := by decide +kernel
theorem dX10_isDone_93 : decode cX10_isDone 93 = .ok (.aload_n 0, 1) := by decide +kernel
theorem dX10_isDone_94 : decode cX10_isDone 94 = .ok (.getfield 34, 3) := by decide +kernel
theorem dX10_isDone_97 : decode cX10_isDone 97 = .ok (.iconst 0, 1) := by decide +kernel
theorem dX10_isDone_98 : decode cX10_isDone 98 = .ok (.iaload, 1) := by decide +kernel
theorem dX10_isDone_99 : decode cX10_isDone 99 = .ok (.invokevirtual 209, 3) := by decide +kernel
theorem dX10_isDone_102 : decode cX10_isDone 102 = .ok (.ifCond .lt 7, 3) := by decide +kernel
theorem dX10_isDone_105 : decode cX10_isDone 105 = .ok (.iconst 1, 1) := by decide +kernel
theorem dX10_isDone_106 : decode cX10_isDone 106 = .ok (.goto 4, 3) := by decide +kernel
theorem dX10_isDone_109 : decode cX10_isDone 109 = .ok (.iconst 0, 1) := by decide +kernel
theorem dX10_isDone_110 : decode cX10_isDone 110 = .ok (.ireturn, 1) := by decide +kernel
theorem dX10_isDone_111 : decode cX10_isDone 111 = .ok (.iconst 0, 1) := by decide +kernel
theorem dX10_isDone_112 : decode cX10_isDone 112 = .ok (.istore_n 2, 1) := by decide +kernel
theorem dX10_isDone_113 : decode cX10_isDone 113 = .ok (.iconst 0, 1) := by decide +kernel
theorem dX10_isDone_114 : decode cX10_isDone 114 = .ok (.istore_n 3, 1) := by decide +kernel
theorem dX10_isDone_115 : decode cX10_isDone 115 = .ok (.iload_n 3, 1) := by decide +kernel
theorem dX10_isDone_116 : decode cX10_isDone 116 = .ok (.aload_n 0, 1) := by decide +kernel
theorem dX10_isDone_117 : decode cX10_isDone 117 = .ok (.getfield 194, 3) := by decide +kernel
theorem dX10_isDone_120 : decode cX10_isDone 120 = .ok (.if_icmp .ge 20, 3) := by decide +kernel
theorem dX10_isDone_123 : decode cX10_isDone 123 = .ok (.iload_n 2, 1) := by decide +kernel
theorem dX10_isDone_124 : decode cX10_isDone 124 = .ok (.iconst 1, 1) := by decide +kernel
theorem dX10_isDone_125 : decode cX10_isDone 125 = .ok (.aload_n 0, 1) := by decide +kernel
theorem dX10_isDone_126 : decode cX10_isDone 126 = .ok (.getfield 34, 3) := by decide +kernel
theorem dX10_isDone_129 : decode cX10_isDone 129 = .ok (.iload_n 3, 1) := by decide +kernel
theorem dX10_isDone_130 : decode cX10_isDone 130 = .ok (.iaload, 1) := by decide +kernel
theorem dX10_isDone_131 : decode cX10_isDone 131 = .ok (.ishl, 1) := by decide +kernel
theorem dX10_isDone_132 : decode cX10_isDone 132 = .ok (.ior, 1) := by decide +kernel
theorem dX10_isDone_133 : decode cX10_isDone 133 = .ok (.istore_n 2, 1) := by decide +kernel
theorem dX10_isDone_134 : decode cX10_isDone 134 = .ok (.iinc 3 1, 3) := by decide +kernel
theorem dX10_isDone_137 : decode cX10_isDone 137 = .ok (.goto (-22), 3) := by decide +kernel
theorem dX10_isDone_140 : decode cX10_isDone 140 = .ok (.aload_n 0, 1) := by decide +kernel
theorem dX10_isDone_141 : decode cX10_isDone 141 = .ok (.iload_n 2, 1) := by decide +kernel
theorem dX10_isDone_142 : decode cX10_isDone 142 = .ok (.iload_n 1, 1) := by decide +kernel
theorem dX10_isDone_143 : decode cX10_isDone 143 = .ok (.bipush 43, 2) := by decide +kernel
theorem dX10_isDone_145 : decode cX10_isDone 145 = .ok (.if_icmp .ne 7, 3) := by decide +kernel
theorem dX10_isDone_148 : decode cX10_isDone 148 = .ok (.iconst 1, 1) := by decide +kernel
theorem dX10_isDone_149 : decode cX10_isDone 149 = .ok (.goto 4, 3) := by decide +kernel
theorem dX10_isDone_152 : decode cX10_isDone 152 = .ok (.iconst 0, 1) := by decide +kernel
theorem dX10_isDone_153 : decode cX10_isDone 153 = .ok (.invokevirtual 212, 3) := by decide +kernel
theorem dX10_isDone_156 : decode cX10_isDone 156 = .ok (.ifCond .lt 7, 3) := by decide +kernel
theorem dX10_isDone_159 : decode cX10_isDone 159 = .ok (.iconst 1, 1) := by decide +kernel
theorem dX10_isDone_160 : decode cX10_isDone 160 = .ok (.goto 4, 3) := by decide +kernel
theorem dX10_isDone_163 : decode cX10_isDone 163 = .ok (.iconst 0, 1) := by decide +kernel
theorem dX10_isDone_164 : decode cX10_isDone 164 = .ok (.ireturn, 1) := by decide +kernel
theorem dX10_isDone_165 : decode cX10_isDone 165 = .ok (.aload_n 0, 1) := by decide +kernel
theorem dX10_isDone_166 : decode cX10_isDone 166 = .ok (.aload_n 0, 1) := by decide +kernel
theorem dX10_isDone_167 : decode cX10_isDone 167 = .ok (.getfield 34, 3) := by decide +kernel
theorem dX10_isDone_170 : decode cX10_isDone 170 = .ok (.iconst 0, 1) := by decide +kernel
theorem dX10_isDone_171 : decode cX10_isDone 171 = .ok (.iaload, 1) := by decide +kernel
theorem dX10_isDone_172 : decode cX10_isDone 172 = .ok (.aload_n 0, 1) := by decide +kernel
theorem dX10_isDone_173 : decode cX10_isDone 173 = .ok (.getfield 200, 3) := by decide +kernel
theorem dX10_isDone_176 : decode cX10_isDone 176 = .ok (.invokevirtual 215, 3) := by decide +kernel
theorem dX10_isDone_179 : decode cX10_isDone 179 = .ok (.ifCond .lt 7, 3) := by decide +kernel
theorem dX10_isDone_182 : decode cX10_isDone 182 = .ok (.iconst 1, 1) := by decide +kernel
theorem dX10_isDone_183 : decode cX10_isDone 183 = .ok (.goto 4, 3) := by decide +kernel
theorem dX10_isDone_186 : decode cX10_isDone 186 = .ok (.iconst 0, 1) := by decide +kernel
theorem dX10_isDone_187 : decode cX10_isDone 187 = .ok (.ireturn, 1) := by decide +kernel
theorem dX10_isDone_188 : decode cX10_isDone 188 = .ok (.aload_n 0, 1) := by decide +kernel
theorem dX10_isDone_189 : decode cX10_isDone 189 = .ok (.aload_n 0, 1) := by decide +kernel
theorem dX10_isDone_190 : decode cX10_isDone 190 = .ok (.getfield 200, 3) := by decide +kernel
theorem dX10_isDone_193 : decode cX10_isDone 193 = .ok (.invokevirtual 218, 3) := by decide +kernel
theorem dX10_isDone_196 : decode cX10_isDone 196 = .ok (.ifCond .lt 7, 3) := by decide +kernel
theorem dX10_isDone_199 : decode cX10_isDone 199 = .ok (.iconst 1, 1) := by decide +kernel
theorem dX10_isDone_200 : decode cX10_isDone 200 = .ok (.goto 4, 3) := by decide +kernel
theorem dX10_isDone_203 : decode cX10_isDone 203 = .ok (.iconst 0, 1) := by decide +kernel
theorem dX10_isDone_204 : decode cX10_isDone 204 = .ok (.ireturn, 1) := by decide +kernel
theorem dX10_isDone_205 : decode cX10_isDone 205 = .ok (.aload_n 0, 1) := by decide +kernel
theorem dX10_isDone_206 : decode cX10_isDone 206 = .ok (.invokevirtual 221, 3) := by decide +kernel
theorem dX10_isDone_209 : decode cX10_isDone 209 = .ok (.ifCond .lt 7, 3) := by decide +kernel
theorem dX10_isDone_212 : decode cX10_isDone 212 = .ok (.iconst 1, 1) := by decide +kernel
theorem dX10_isDone_213 : decode cX10_isDone 213 = .ok (.goto 4, 3) := by decide +kernel
theorem dX10_isDone_216 : decode cX10_isDone 216 = .ok (.iconst 0, 1) := by decide +kernel
theorem dX10_isDone_217 : decode cX10_isDone 217 = .ok (.ireturn, 1) := by decide +kernel
theorem dX10_isDone_218 : decode cX10_isDone 218 = .ok (.aload_n 0, 1) := by decide +kernel
theorem dX10_isDone_219 : decode cX10_isDone 219 = .ok (.iconst 0, 1) := by decide +kernel
theorem dX10_isDone_220 : decode cX10_isDone 220 = .ok (.invokevirtual 224, 3) := by decide +kernel
theorem dX10_isDone_223 : decode cX10_isDone 223 = .ok (.ifCond .lt 7, 3) := by decide +kernel
theorem dX10_isDone_226 : decode cX10_isDone 226 = .ok (.iconst 1, 1) := by decide +kernel
theorem dX10_isDone_227 : decode cX10_isDone 227 = .ok (.goto 4, 3) := by decide +kernel
theorem dX10_isDone_230 : decode cX10_isDone 230 = .ok (.iconst 0, 1) := by decide +kernel
theorem dX10_isDone_231 : decode cX10_isDone 231 = .ok (.ireturn, 1) := by decide +kernel
theorem dX10_isDone_232 : decode cX10_isDone 232 = .ok (.aload_n 0, 1) := by decide +kernel
theorem dX10_isDone_233 : decode cX10_isDone 233 = .ok (.iconst 1, 1) := by decide +kernel
theorem dX10_isDone_234 : decode cX10_isDone 234 = .ok (.invokevirtual 224, 3) := by decide +kernel
theorem dX10_isDone_237 : decode cX10_isDone 237 = .ok (.ifCond .lt 7, 3) := by decide +kernel
theorem dX10_isDone_240 : decode cX10_isDone 240 = .ok (.iconst 1, 1) := by decide +kernel
theorem dX10_isDone_241 : decode cX10_isDone 241 = .ok (.goto 4, 3) := by decide +kernel
theorem dX10_isDone_244 : decode cX10_isDone 244 = .ok (.iconst 0, 1) := by decide +kernel
theorem dX10_isDone_245 : decode cX10_isDone 245 = .ok (.ireturn, 1) := by decide +kernel
theorem dX10_isDone_246 : decode cX10_isDone 246 = .ok (.aload_n 0, 1) := by decide +kernel
theorem dX10_isDone_247 : decode cX10_isDone 247 = .ok (.aload_n 0, 1) := by decide +kernel
theorem dX10_isDone_248 : decode cX10_isDone 248 = .ok (.getfield 34, 3) := by decide +kernel
theorem dX10_isDone_251 : decode cX10_isDone 251 = .ok (.iconst 0, 1) := by decide +kernel
theorem dX10_isDone_252 : decode cX10_isDone 252 = .ok (.iaload, 1) := by decide +kernel
theorem dX10_isDone_253 : decode cX10_isDone 253 = .ok (.invokevirtual 227, 3) := by decide +kernel
theorem dX10_isDone_256 : decode cX10_isDone 256 = .ok (.ifCond .lt 7, 3) := by decide +kernel
theorem dX10_isDone_259 : decode cX10_isDone 259 = .ok (.iconst 1, 1) := by decide +kernel
theorem dX10_isDone_260 : decode cX10_isDone 260 = .ok (.goto 4, 3) := by decide +kernel
theorem dX10_isDone_263 : decode cX10_isDone 263 = .ok (.iconst 0, 1) := by decide +kernel
theorem dX10_isDone_264 : decode cX10_isDone 264 = .ok (.ireturn, 1) := by decide +kernel
theorem dX10_isDone_265 : decode cX10_isDone 265 = .ok (.aload_n 0, 1) := by decide +kernel
theorem dX10_isDone_266 : decode cX10_isDone 266 = .ok (.aload_n 0, 1) := by decide +kernel
theorem dX10_isDone_267 : decode cX10_isDone 267 = .ok (.getfield 34, 3) := by decide +kernel
theorem dX10_isDone_270 : decode cX10_isDone 270 = .ok (.iconst 0, 1) := by decide +kernel
theorem dX10_isDone_271 : decode cX10_isDone 271 = .ok (.iaload, 1) := by decide +kernel
theorem dX10_isDone_272 : decode cX10_isDone 272 = .ok (.aload_n 0, 1) := by decide +kernel
theorem dX10_isDone_273 : decode cX10_isDone 273 = .ok (.getfield 34, 3) := by decide +kernel
theorem dX10_isDone_276 : decode cX10_isDone 276 = .ok (.iconst 1, 1) := by decide +kernel
theorem dX10_isDone_277 : decode cX10_isDone 277 = .ok (.iaload, 1) := by decide +kernel
theorem dX10_isDone_278 : decode cX10_isDone 278 = .ok (.invokevirtual 230, 3) := by decide +kernel
theorem dX10_isDone_281 : decode cX10_isDone 281 = .ok (.ifCond .lt 7, 3) := by decide +kernel
theorem dX10_isDone_284 : decode cX10_isDone 284 = .ok (.iconst 1, 1) := by decide +kernel
theorem dX10_isDone_285 : decode cX10_isDone 285 = .ok (.goto 4, 3) := by decide +kernel
theorem dX10_isDone_288 : decode cX10_isDone 288 = .ok (.iconst 0, 1) := by decide +kernel
theorem dX10_isDone_289 : decode cX10_isDone 289 = .ok (.ireturn, 1) := by decide +kernel
theorem dX10_isDone_290 : decode cX10_isDone 290 = .ok (.aload_n 0, 1) := by decide +kernel
theorem dX10_isDone_291 : decode cX10_isDone 291 = .ok (.invokevirtual 233, 3) := by decide +kernel
theorem dX10_isDone_294 : decode cX10_isDone 294 = .ok (.ifCond .lt 7, 3) := by decide +kernel
theorem dX10_isDone_297 : decode cX10_isDone 297 = .ok (.iconst 1, 1) := by decide +kernel
theorem dX10_isDone_298 : decode cX10_isDone 298 = .ok (.goto 4, 3) := by decide +kernel
theorem dX10_isDone_301 : decode cX10_isDone 301 = .ok (.iconst 0, 1) := by decide +kernel
theorem dX10_isDone_302 : decode cX10_isDone 302 = .ok (.ireturn, 1) := by decide +kernel
theorem dX10_read_0 : decode cX10_read 0 = .ok (.aload_n 0, 1) := by decide +kernel
theorem dX10_read_1 : decode cX10_read 1 = .ok (.iconst 0, 1) := by decide +kernel
theorem dX10_read_2 : decode cX10_read 2 = .ok (.putfield 184, 3) := by decide +kernel
theorem dX10_read_5 : decode cX10_read 5 = .ok (.iconst 0, 1) := by decide +kernel
theorem dX10_read_6 : decode cX10_read 6 = .ok (.istore_n 1, 1) := by decide +kernel
theorem dX10_read_7 : decode cX10_read 7 = .ok (.iconst 1, 1) := by decide +kernel
theorem dX10_read_8 : decode cX10_read 8 = .ok (.istore_n 2, 1) := by decide +kernel
theorem dX10_read_9 : decode cX10_read 9 = .ok (.iload_n 2, 1) := by decide +kernel
theorem dX10_read_10 : decode cX10_read 10 = .ok (.ifCond .eq 84, 3) := by decide +kernel
theorem dX10_read_13 : decode cX10_read 13 = .ok (.iload_n 1, 1) := by decide +kernel
theorem dX10_read_14 : decode cX10_read 14 = .ok (.ifCond .eq 14, 3) := by decide +kernel
theorem dX10_read_17 : decode cX10_read 17 = .ok (.aload_n 0, 1) := by decide +kernel
theorem dX10_read_18 : decode cX10_read 18 = .ok (.getfield 184, 3) := by decide +kernel
theorem dX10_read_21 : decode cX10_read 21 = .ok (.aload_n 0, 1) := by decide +kernel
theorem dX10_read_22 : decode cX10_read 22 = .ok (.getfield 181, 3) := by decide +kernel
theorem dX10_read_25 : decode cX10_read 25 = .ok (.if_icmp .ge 69, 3) := by decide +kernel
theorem dX10_read_28 : decode cX10_read 28 = .ok (.iload_n 1, 1) := by decide +kernel
theorem dX10_read_29 : decode cX10_read 29 = .ok (.ifCond .le 42, 3) := by decide +kernel
theorem dX10_read_32 : decode cX10_read 32 = .ok (.iload_n 1, 1) := by decide +kernel
theorem dX10_read_33 : decode cX10_read 33 = .ok (.bipush 12, 2) := by decide +kernel
theorem dX10_read_35 : decode cX10_read 35 = .ok (.if_icmp .ge 16, 3) := by decide +kernel
theorem dX10_read_38 : decode cX10_read 38 = .ok (.aload_n 0, 1) := by decide +kernel
theorem dX10_read_39 : decode cX10_read 39 = .ok (.invokevirtual 187, 3) := by decide +kernel
theorem dX10_read_42 : decode cX10_read 42 = .ok (.bipush 59, 2) := by decide +kernel
theorem dX10_read_44 : decode cX10_read 44 = .ok (.if_icmp .ne 7, 3) := by decide +kernel
theorem dX10_read_47 : decode cX10_read 47 = .ok (.iconst 1, 1) := by decide +kernel
theorem dX10_read_48 : decode cX10_read 48 = .ok (.goto 4, 3) := by decide +kernel
theorem dX10_read_51 : decode cX10_read 51 = .ok (.iconst 0, 1) := by decide +kernel
theorem dX10_read_52 : decode cX10_read 52 = .ok (.istore_n 2, 1) := by decide +kernel
theorem dX10_read_53 : decode cX10_read 53 = .ok (.aload_n 0, 1) := by decide +kernel
theorem dX10_read_54 : decode cX10_read 54 = .ok (.dup, 1) := by decide +kernel
theorem dX10_read_55 : decode cX10_read 55 = .ok (.getfield 184, 3) := by decide +kernel
theorem dX10_read_58 : decode cX10_read 58 = .ok (.iload_n 2, 1) := by decide +kernel
theorem dX10_read_59 : decode cX10_read 59 = .ok (.ifCond .eq 7, 3) := by decide +kernel
theorem dX10_read_62 : decode cX10_read 62 = .ok (.iconst 1, 1) := by decide +kernel
theorem dX10_read_63 : decode cX10_read 63 = .ok (.goto 4, 3) := by decide +kernel
theorem dX10_read_66 : decode cX10_read 66 = .ok (.iconst 0, 1) := by decide +kernel
theorem dX10_read_67 : decode cX10_read 67 = .ok (.iadd, 1) := by decide +kernel
theorem dX10_read_68 : decode cX10_read 68 = .ok (.putfield 184, 3) := by decide +kernel
theorem dX10_read_71 : decode cX10_read 71 = .ok (.iload_n 2, 1) := by decide +kernel
theorem dX10_read_72 : decode cX10_read 72 = .ok (.ifCond .eq 14, 3) := by decide +kernel
theorem dX10_read_75 : decode cX10_read 75 = .ok (.aload_n 0, 1) := by decide +kernel
theorem dX10_read_76 : decode cX10_read 76 = .ok (.invokevirtual 236, 3) := by decide +kernel
theorem dX10_read_79 : decode cX10_read 79 = .ok (.ifCond .eq 7, 3) := by decide +kernel
theorem dX10_read_82 : decode cX10_read 82 = .ok (.iconst 1, 1) := by decide +kernel
theorem dX10_read_83 : decode cX10_read 83 = .ok (.goto 4, 3) := by decide +kernel
theorem dX10_read_86 : decode cX10_read 86 = .ok (.iconst 0, 1) := by decide +kernel
theorem dX10_read_87 : decode cX10_read 87 = .ok (.istore_n 2, 1) := by decide +kernel
theorem dX10_read_88 : decode cX10_read 88 = .ok (.iinc 1 1, 3) := by decide +kernel
theorem dX10_read_91 : decode cX10_read 91 = .ok (.goto (-82), 3) := by decide +kernel
theorem dX10_read_94 : decode cX10_read 94 = .ok (.iload_n 2, 1) := by decide +kernel
theorem dX10_read_95 : decode cX10_read 95 = .ok (.ifCond .ne 16, 3) := by decide +kernel
theorem dX10_read_98 : decode cX10_read 98 = .ok (.aload_n 0, 1) := by decide +kernel
theorem dX10_read_99 : decode cX10_read 99 = .ok (.iconst 0, 1) := by decide +kernel
theorem dX10_read_100 : decode cX10_read 100 = .ok (.putfield 181, 3) := by decide +kernel
theorem dX10_read_103 : decode cX10_read 103 = .ok (.bipush (-10), 2) := by decide +kernel
theorem dX10_read_105 : decode cX10_read 105 = .ok (.aload_n 0, 1) := by decide +kernel
theorem dX10_read_106 : decode cX10_read 106 = .ok (.getfield 184, 3) := by decide +kernel
theorem dX10_read_109 : decode cX10_read 109 = .ok (.isub, 1) := by decide +kernel
theorem dX10_read_110 : decode cX10_read 110 = .ok (.ireturn, 1) := by decide +kernel
theorem dX10_read_111 : decode cX10_read 111 = .ok (.iconst 0, 1) := by decide +kernel
theorem dX10_read_112 : decode cX10_read 112 = .ok (.istore_n 3, 1) := by decide +kernel
theorem dX10_read_113 : decode cX10_read 113 = .ok (.aload_n 0, 1) := by decide +kernel
theorem dX10_read_114 : decode cX10_read 114 = .ok (.iconst 0, 1) := by decide +kernel
theorem dX10_read_115 : decode cX10_read 115 = .ok (.putfield 184, 3) := by decide +kernel
theorem dX10_read_118 : decode cX10_read 118 = .ok (.aload_n 0, 1) := by decide +kernel
theorem dX10_read_119 : decode cX10_read 119 = .ok (.getfield 184, 3) := by decide +kernel
theorem dX10_read_122 : decode cX10_read 122 = .ok (.aload_n 0, 1) := by decide +kernel
theorem dX10_read_123 : decode cX10_read 123 = .ok (.getfield 181, 3) := by decide +kernel
theorem dX10_read_126 : decode cX10_read 126 = .ok (.if_icmp .ge 63, 3) := by decide +kernel
theorem dX10_read_129 : decode cX10_read 129 = .ok (.aload_n 0, 1) := by decide +kernel
theorem dX10_read_130 : decode cX10_read 130 = .ok (.invokevirtual 187, 3) := by decide +kernel
theorem dX10_read_133 : decode cX10_read 133 = .ok (.istore 4, 2) := by decide +kernel
theorem dX10_read_135 : decode cX10_read 135 = .ok (.aload_n 0, 1) := by decide +kernel
theorem dX10_read_136 : decode cX10_read 136 = .ok (.invokevirtual 236, 3) := by decide +kernel
theorem dX10_read_139 : decode cX10_read 139 = .ok (.istore 5, 2) := by decide +kernel
theorem dX10_read_141 : decode cX10_read 141 = .ok (.aload_n 0, 1) := by decide +kernel
theorem dX10_read_142 : decode cX10_read 142 = .ok (.dup, 1) := by decide +kernel
theorem dX10_read_143 : decode cX10_read 143 = .ok (.getfield 184, 3) := by decide +kernel
theorem dX10_read_146 : decode cX10_read 146 = .ok (.aload_n 0, 1) := by decide +kernel
theorem dX10_read_147 : decode cX10_read 147 = .ok (.invokevirtual 187, 3) := by decide +kernel
theorem dX10_read_150 : decode cX10_read 150 = .ok (.bipush 59, 2) := by decide +kernel
theorem dX10_read_152 : decode cX10_read 152 = .ok (.if_icmp .ne 7, 3) := by decide +kernel
theorem dX10_read_155 : decode cX10_read 155 = .ok (.iconst 1, 1) := by decide +kernel
theorem dX10_read_156 : decode cX10_read 156 = .ok (.goto 4, 3) := by decide +kernel
theorem dX10_read_159 : decode cX10_read 159 = .ok (.iconst 0, 1) := by decide +kernel
theorem dX10_read_160 : decode cX10_read 160 = .ok (.iadd, 1) := by decide +kernel
theorem dX10_read_161 : decode cX10_read 161 = .ok (.putfield 184, 3) := by decide +kernel
theorem dX10_read_164 : decode cX10_read 164 = .ok (.iload_n 3, 1) := by decide +kernel
theorem dX10_read_165 : decode cX10_read 165 = .ok (.iload 5, 2) := by decide +kernel
theorem dX10_read_167 : decode cX10_read 167 = .ok (.ifCond .eq 16, 3) := by decide +kernel
theorem dX10_read_170 : decode cX10_read 170 = .ok (.aload_n 0, 1) := by decide +kernel
theorem dX10_read_171 : decode cX10_read 171 = .ok (.iload 4, 2) := by decide +kernel
theorem dX10_read_173 : decode cX10_read 173 = .ok (.invokevirtual 239, 3) := by decide +kernel
theorem dX10_read_176 : decode cX10_read 176 = .ok (.ifCond .eq 7, 3) := by decide +kernel
theorem dX10_read_179 : decode cX10_read 179 = .ok (.iconst 1, 1) := by decide +kernel
theorem dX10_read_180 : decode cX10_read 180 = .ok (.goto 4, 3) := by decide +kernel
theorem dX10_read_183 : decode cX10_read 183 = .ok (.iconst 0, 1) := by decide +kernel
theorem dX10_read_184 : decode cX10_read 184 = .ok (.iadd, 1) := by decide +kernel
theorem dX10_read_185 : decode cX10_read 185 = .ok (.istore_n 3, 1) := by decide +kernel
theorem dX10_read_186 : decode cX10_read 186 = .ok (.goto (-68), 3) := by decide +kernel
theorem dX10_read_189 : decode cX10_read 189 = .ok (.aload_n 0, 1) := by decide +kernel
theorem dX10_read_190 : decode cX10_read 190 = .ok (.iconst 0, 1) := by decide +kernel
theorem dX10_read_191 : decode cX10_read 191 = .ok (.putfield 181, 3) := by decide +kernel
theorem dX10_read_194 : decode cX10_read 194 = .ok (.iload_n 3, 1) := by decide +kernel
theorem dX10_read_195 : decode cX10_read 195 = .ok (.ireturn, 1) := by decide +kernel
theorem dX10_isTape_0 : decode cX10_isTape 0 = .ok (.iload_n 0, 1) := by decide +kernel
theorem dX10_isTape_1 : decode cX10_isTape 1 = .ok (.i2l, 1) := by decide +kernel
theorem dX10_isTape_2 : decode cX10_isTape 2 = .ok (.lconst 0, 1) := by decide +kernel
theorem dX10_isTape_3 : decode cX10_isTape 3 = .ok (.ldc2_w 242, 3) := by decide +kernel
theorem dX10_isTape_6 : decode cX10_isTape 6 = .ok (.invokestatic 60, 3) := by decide +kernel
theorem dX10_isTape_9 : decode cX10_isTape 9 = .ok (.ireturn, 1) := by decide +kernel
theorem dX10_judge_0 : decode cX10_judge 0 = .ok (.iload_n 1, 1) := by decide +kernel
theorem dX10_judge_1 : decode cX10_judge 1 = .ok (.invokestatic 244, 3) := by decide +kernel
theorem dX10_judge_4 : decode cX10_judge 4 = .ok (.ifCond .ne 5, 3) := by decide +kernel
theorem dX10_judge_7 : decode cX10_judge 7 = .ok (.iconst (-1), 1) := by decide +kernel
theorem dX10_judge_8 : decode cX10_judge 8 = .ok (.ireturn, 1) := by decide +kernel
theorem dX10_judge_9 : decode cX10_judge 9 = .ok (.aload_n 0, 1) := by decide +kernel
theorem dX10_judge_10 : decode cX10_judge 10 = .ok (.getfield 37, 3) := by decide +kernel
theorem dX10_judge_13 : decode cX10_judge 13 = .ok (.iload_n 1, 1) := by decide +kernel
theorem dX10_judge_14 : decode cX10_judge 14 = .ok (.iaload, 1) := by decide +kernel
theorem dX10_judge_15 : decode cX10_judge 15 = .ok (.iconst (-1), 1) := by decide +kernel
theorem dX10_judge_16 : decode cX10_judge 16 = .ok (.if_icmp .eq 16, 3) := by decide +kernel
theorem dX10_judge_19 : decode cX10_judge 19 = .ok (.aload_n 0, 1) := by decide +kernel
theorem dX10_judge_20 : decode cX10_judge 20 = .ok (.getfield 37, 3) := by decide +kernel
theorem dX10_judge_23 : decode cX10_judge 23 = .ok (.iload_n 1, 1) := by decide +kernel
theorem dX10_judge_24 : decode cX10_judge 24 = .ok (.iaload, 1) := by decide +kernel
theorem dX10_judge_25 : decode cX10_judge 25 = .ok (.iconst 4, 1) := by decide +kernel
theorem dX10_judge_26 : decode cX10_judge 26 = .ok (.if_icmp .eq 6, 3) := by decide +kernel
theorem dX10_judge_29 : decode cX10_judge 29 = .ok (.bipush (-12), 2) := by decide +kernel
theorem dX10_judge_31 : decode cX10_judge 31 = .ok (.ireturn, 1) := by decide +kernel
theorem dX10_judge_32 : decode cX10_judge 32 = .ok (.iconst 0, 1) := by decide +kernel
theorem dX10_judge_33 : decode cX10_judge 33 = .ok (.istore_n 3, 1) := by decide +kernel
theorem dX10_judge_34 : decode cX10_judge 34 = .ok (.iload_n 3, 1) := by decide +kernel
theorem dX10_judge_35 : decode cX10_judge 35 = .ok (.aload_n 0, 1) := by decide +kernel
theorem dX10_judge_36 : decode cX10_judge 36 = .ok (.invokevirtual 56, 3) := by decide +kernel
theorem dX10_judge_39 : decode cX10_judge 39 = .ok (.if_icmp .ge 69, 3) := by decide +kernel
theorem dX10_judge_42 : decode cX10_judge 42 = .ok (.iload_n 2, 1) := by decide +kernel
theorem dX10_judge_43 : decode cX10_judge 43 = .ok (.ifCond .lt 24, 3) := by decide +kernel
theorem dX10_judge_46 : decode cX10_judge 46 = .ok (.aload_n 0, 1) := by decide +kernel
theorem dX10_judge_47 : decode cX10_judge 47 = .ok (.getfield 37, 3) := by decide +kernel
theorem dX10_judge_50 : decode cX10_judge 50 = .ok (.iload_n 1, 1) := by decide +kernel
theorem dX10_judge_51 : decode cX10_judge 51 = .ok (.iaload, 1) := by decide +kernel
theorem dX10_judge_52 : decode cX10_judge 52 = .ok (.ifCond .lt 15, 3) := by decide +kernel
theorem dX10_judge_55 : decode cX10_judge 55 = .ok (.iload_n 2, 1) := by decide +kernel
theorem dX10_judge_56 : decode cX10_judge 56 = .ok (.aload_n 0, 1) := by decide +kernel
theorem dX10_judge_57 : decode cX10_judge 57 = .ok (.getfield 40, 3) := by decide +kernel
theorem dX10_judge_60 : decode cX10_judge 60 = .ok (.iload_n 1, 1) := by decide +kernel
theorem dX10_judge_61 : decode cX10_judge 61 = .ok (.iaload, 1) := by decide +kernel
theorem dX10_judge_62 : decode cX10_judge 62 = .ok (.iload_n 3, 1) := by decide +kernel
theorem dX10_judge_63 : decode cX10_judge 63 = .ok (.isub, 1) := by decide +kernel
theorem dX10_judge_64 : decode cX10_judge 64 = .ok (.if_icmp .lt 8, 3) := by decide +kernel
theorem dX10_judge_67 : decode cX10_judge 67 = .ok (.bipush 100, 2) := by decide +kernel
theorem dX10_judge_69 : decode cX10_judge 69 = .ok (.iload_n 3, 1) := by decide +kernel
theorem dX10_judge_70 : decode cX10_judge 70 = .ok (.iadd, 1) := by decide +kernel
theorem dX10_judge_71 : decode cX10_judge 71 = .ok (.ireturn, 1) := by decide +kernel
theorem dX10_judge_72 : decode cX10_judge 72 = .ok (.aload_n 0, 1) := by decide +kernel
theorem dX10_judge_73 : decode cX10_judge 73 = .ok (.getfield 45, 3) := by decide +kernel
theorem dX10_judge_76 : decode cX10_judge 76 = .ok (.iload_n 1, 1) := by decide +kernel
theorem dX10_judge_77 : decode cX10_judge 77 = .ok (.aaload, 1) := by decide +kernel
theorem dX10_judge_78 : decode cX10_judge 78 = .ok (.iload_n 2, 1) := by decide +kernel
theorem dX10_judge_79 : decode cX10_judge 79 = .ok (.iload_n 3, 1) := by decide +kernel
theorem dX10_judge_80 : decode cX10_judge 80 = .ok (.iadd, 1) := by decide +kernel
theorem dX10_judge_81 : decode cX10_judge 81 = .ok (.laload, 1) := by decide +kernel
theorem dX10_judge_82 : decode cX10_judge 82 = .ok (.aload_n 0, 1) := by decide +kernel
theorem dX10_judge_83 : decode cX10_judge 83 = .ok (.getfield 11, 3) := by decide +kernel
theorem dX10_judge_86 : decode cX10_judge 86 = .ok (.iconst 1, 1) := by decide +kernel
theorem dX10_judge_87 : decode cX10_judge 87 = .ok (.iaload, 1) := by decide +kernel
theorem dX10_judge_88 : decode cX10_judge 88 = .ok (.iload_n 3, 1) := by decide +kernel
theorem dX10_judge_89 : decode cX10_judge 89 = .ok (.invokestatic 97, 3) := by decide +kernel
theorem dX10_judge_92 : decode cX10_judge 92 = .ok (.invokestatic 90, 3) := by decide +kernel
theorem dX10_judge_95 : decode cX10_judge 95 = .ok (.i2l, 1) := by decide +kernel
theorem dX10_judge_96 : decode cX10_judge 96 = .ok (.lcmp, 1) := by decide +kernel
theorem dX10_judge_97 : decode cX10_judge 97 = .ok (.ifCond .eq 5, 3) := by decide +kernel
theorem dX10_judge_100 : decode cX10_judge 100 = .ok (.iload_n 3, 1) := by decide +kernel
theorem dX10_judge_101 : decode cX10_judge 101 = .ok (.ireturn, 1) := by decide +kernel
theorem dX10_judge_102 : decode cX10_judge 102 = .ok (.iinc 3 1, 3) := by decide +kernel
theorem dX10_judge_105 : decode cX10_judge 105 = .ok (.goto (-71), 3) := by decide +kernel
theorem dX10_judge_108 : decode cX10_judge 108 = .ok (.bipush (-5), 2) := by decide +kernel
theorem dX10_judge_110 : decode cX10_judge 110 = .ok (.ireturn, 1) := by decide +kernel
theorem dX10_tape_0 : decode cX10_tape 0 = .ok (.iload_n 1, 1) := by decide +kernel
theorem dX10_tape_1 : decode cX10_tape 1 = .ok (.invokestatic 244, 3) := by decide +kernel
theorem dX10_tape_4 : decode cX10_tape 4 = .ok (.ifCond .ne 5, 3) := by decide +kernel
theorem dX10_tape_7 : decode cX10_tape 7 = .ok (.iconst (-1), 1) := by decide +kernel
theorem dX10_tape_8 : decode cX10_tape 8 = .ok (.ireturn, 1) := by decide +kernel
theorem dX10_tape_9 : decode cX10_tape 9 = .ok (.iload_n 2, 1) := by decide +kernel
theorem dX10_tape_10 : decode cX10_tape 10 = .ok (.i2l, 1) := by decide +kernel
theorem dX10_tape_11 : decode cX10_tape 11 = .ok (.ldc2_w 247, 3) := by decide +kernel
theorem dX10_tape_14 : decode cX10_tape 14 = .ok (.ldc2_w 66, 3) := by decide +kernel
theorem dX10_tape_17 : decode cX10_tape 17 = .ok (.invokestatic 60, 3) := by decide +kernel
theorem dX10_tape_20 : decode cX10_tape 20 = .ok (.ifCond .eq 13, 3) := by decide +kernel
theorem dX10_tape_23 : decode cX10_tape 23 = .ok (.iload_n 2, 1) := by decide +kernel
theorem dX10_tape_24 : decode cX10_tape 24 = .ok (.ifCond .lt 12, 3) := by decide +kernel
theorem dX10_tape_27 : decode cX10_tape 27 = .ok (.iload_n 3, 1) := by decide +kernel
theorem dX10_tape_28 : decode cX10_tape 28 = .ok (.bipush 60, 2) := by decide +kernel
theorem dX10_tape_30 : decode cX10_tape 30 = .ok (.if_icmp .le 6, 3) := by decide +kernel
theorem dX10_tape_33 : decode cX10_tape 33 = .ok (.bipush (-2), 2) := by decide +kernel
theorem dX10_tape_35 : decode cX10_tape 35 = .ok (.ireturn, 1) := by decide +kernel
theorem dX10_tape_36 : decode cX10_tape 36 = .ok (.iload_n 2, 1) := by decide +kernel
theorem dX10_tape_37 : decode cX10_tape 37 = .ok (.ifCond .lt 10, 3) := by decide +kernel
theorem dX10_tape_40 : decode cX10_tape 40 = .ok (.iload_n 3, 1) := by decide +kernel
theorem dX10_tape_41 : decode cX10_tape 41 = .ok (.ifCond .ge 6, 3) := by decide +kernel
theorem dX10_tape_44 : decode cX10_tape 44 = .ok (.bipush (-14), 2) := by decide +kernel
theorem dX10_tape_46 : decode cX10_tape 46 = .ok (.ireturn, 1) := by decide +kernel
theorem dX10_tape_47 : decode cX10_tape 47 = .ok (.aload_n 0, 1) := by decide +kernel
theorem dX10_tape_48 : decode cX10_tape 48 = .ok (.getfield 37, 3) := by decide +kernel
theorem dX10_tape_51 : decode cX10_tape 51 = .ok (.iload_n 1, 1) := by decide +kernel
theorem dX10_tape_52 : decode cX10_tape 52 = .ok (.iload_n 2, 1) := by decide +kernel
theorem dX10_tape_53 : decode cX10_tape 53 = .ok (.iastore, 1) := by decide +kernel
theorem dX10_tape_54 : decode cX10_tape 54 = .ok (.aload_n 0, 1) := by decide +kernel
theorem dX10_tape_55 : decode cX10_tape 55 = .ok (.getfield 40, 3) := by decide +kernel
theorem dX10_tape_58 : decode cX10_tape 58 = .ok (.iload_n 1, 1) := by decide +kernel
theorem dX10_tape_59 : decode cX10_tape 59 = .ok (.iload_n 2, 1) := by decide +kernel
theorem dX10_tape_60 : decode cX10_tape 60 = .ok (.ifCond .ge 7, 3) := by decide +kernel
theorem dX10_tape_63 : decode cX10_tape 63 = .ok (.iconst 0, 1) := by decide +kernel
theorem dX10_tape_64 : decode cX10_tape 64 = .ok (.goto 4, 3) := by decide +kernel
theorem dX10_tape_67 : decode cX10_tape 67 = .ok (.iload_n 3, 1) := by decide +kernel
theorem dX10_tape_68 : decode cX10_tape 68 = .ok (.iastore, 1) := by decide +kernel
theorem dX10_tape_69 : decode cX10_tape 69 = .ok (.iconst 0, 1) := by decide +kernel
theorem dX10_tape_70 : decode cX10_tape 70 = .ok (.istore 4, 2) := by decide +kernel
theorem dX10_tape_72 : decode cX10_tape 72 = .ok (.iload 4, 2) := by decide +kernel
theorem dX10_tape_74 : decode cX10_tape 74 = .ok (.bipush 60, 2) := by decide +kernel
theorem dX10_tape_76 : decode cX10_tape 76 = .ok (.if_icmp .ge 19, 3) := by decide +kernel
theorem dX10_tape_79 : decode cX10_tape 79 = .ok (.aload_n 0, 1) := by decide +kernel
theorem dX10_tape_80 : decode cX10_tape 80 = .ok (.getfield 45, 3) := by decide +kernel
theorem dX10_tape_83 : decode cX10_tape 83 = .ok (.iload_n 1, 1) := by decide +kernel
theorem dX10_tape_84 : decode cX10_tape 84 = .ok (.aaload, 1) := by decide +kernel
theorem dX10_tape_85 : decode cX10_tape 85 = .ok (.iload 4, 2) := by decide +kernel
theorem dX10_tape_87 : decode cX10_tape 87 = .ok (.lconst 0, 1) := by decide +kernel
theorem dX10_tape_88 : decode cX10_tape 88 = .ok (.lastore, 1) := by decide +kernel
theorem dX10_tape_89 : decode cX10_tape 89 = .ok (.iinc 4 1, 3) := by decide +kernel
theorem dX10_tape_92 : decode cX10_tape 92 = .ok (.goto (-20), 3) := by decide +kernel
theorem dX10_tape_95 : decode cX10_tape 95 = .ok (.iconst 1, 1) := by decide +kernel
theorem dX10_tape_96 : decode cX10_tape 96 = .ok (.ireturn, 1) := by decide +kernel
theorem dX10_item_0 : decode cX10_item 0 = .ok (.iload_n 1, 1) := by decide +kernel
theorem dX10_item_1 : decode cX10_item 1 = .ok (.invokestatic 244, 3) := by decide +kernel
theorem dX10_item_4 : decode cX10_item 4 = .ok (.ifCond .ne 5, 3) := by decide +kernel
theorem dX10_item_7 : decode cX10_item 7 = .ok (.iconst (-1), 1) := by decide +kernel
theorem dX10_item_8 : decode cX10_item 8 = .ok (.ireturn, 1) := by decide +kernel
theorem dX10_item_9 : decode cX10_item 9 = .ok (.aload_n 0, 1) := by decide +kernel
theorem dX10_item_10 : decode cX10_item 10 = .ok (.getfield 37, 3) := by decide +kernel
theorem dX10_item_13 : decode cX10_item 13 = .ok (.iload_n 1, 1) := by decide +kernel
theorem dX10_item_14 : decode cX10_item 14 = .ok (.iaload, 1) := by decide +kernel
theorem dX10_item_15 : decode cX10_item 15 = .ok (.ifCond .ge 6, 3) := by decide +kernel
theorem dX10_item_18 : decode cX10_item 18 = .ok (.bipush (-11), 2) := by decide +kernel
theorem dX10_item_20 : decode cX10_item 20 = .ok (.ireturn, 1) := by decide +kernel
theorem dX10_item_21 : decode cX10_item 21 = .ok (.iload_n 2, 1) := by decide +kernel
theorem dX10_item_22 : decode cX10_item 22 = .ok (.i2l, 1) := by decide +kernel
theorem dX10_item_23 : decode cX10_item 23 = .ok (.lconst 0, 1) := by decide +kernel
theorem dX10_item_24 : decode cX10_item 24 = .ok (.aload_n 0, 1) := by decide +kernel
theorem dX10_item_25 : decode cX10_item 25 = .ok (.getfield 40, 3) := by decide +kernel
theorem dX10_item_28 : decode cX10_item 28 = .ok (.iload_n 1, 1) := by decide +kernel
theorem dX10_item_29 : decode cX10_item 29 = .ok (.iaload, 1) := by decide +kernel
theorem dX10_item_30 : decode cX10_item 30 = .ok (.iconst 1, 1) := by decide +kernel
theorem dX10_item_31 : decode cX10_item 31 = .ok (.isub, 1) := by decide +kernel
theorem dX10_item_32 : decode cX10_item 32 = .ok (.i2l, 1) := by decide +kernel
theorem dX10_item_33 : decode cX10_item 33 = .ok (.invokestatic 60, 3) := by decide +kernel
theorem dX10_item_36 : decode cX10_item 36 = .ok (.ifCond .ne 6, 3) := by decide +kernel
theorem dX10_item_39 : decode cX10_item 39 = .ok (.bipush (-13), 2) := by decide +kernel
theorem dX10_item_41 : decode cX10_item 41 = .ok (.ireturn, 1) := by decide +kernel
theorem dX10_item_42 : decode cX10_item 42 = .ok (.aload_n 0, 1) := by decide +kernel
theorem dX10_item_43 : decode cX10_item 43 = .ok (.getfield 45, 3) := by decide +kernel
theorem dX10_item_46 : decode cX10_item 46 = .ok (.iload_n 1, 1) := by decide +kernel
theorem dX10_item_47 : decode cX10_item 47 = .ok (.aaload, 1) := by decide +kernel
theorem dX10_item_48 : decode cX10_item 48 = .ok (.iload_n 2, 1) := by decide +kernel
theorem dX10_item_49 : decode cX10_item 49 = .ok (.aload_n 0, 1) := by decide +kernel
theorem dX10_item_50 : decode cX10_item 50 = .ok (.getfield 37, 3) := by decide +kernel
theorem dX10_item_53 : decode cX10_item 53 = .ok (.iload_n 1, 1) := by decide +kernel
theorem dX10_item_54 : decode cX10_item 54 = .ok (.iaload, 1) := by decide +kernel
theorem dX10_item_55 : decode cX10_item 55 = .ok (.ifCond .ne 10, 3) := by decide +kernel
theorem dX10_item_58 : decode cX10_item 58 = .ok (.lload_n 3, 1) := by decide +kernel
theorem dX10_item_59 : decode cX10_item 59 = .ok (.l2i, 1) := by decide +kernel
theorem dX10_item_60 : decode cX10_item 60 = .ok (.i2b, 1) := by decide +kernel
theorem dX10_item_61 : decode cX10_item 61 = .ok (.i2l, 1) := by decide +kernel
theorem dX10_item_62 : decode cX10_item 62 = .ok (.goto 61, 3) := by decide +kernel
theorem dX10_item_65 : decode cX10_item 65 = .ok (.aload_n 0, 1) := by decide +kernel
theorem dX10_item_66 : decode cX10_item 66 = .ok (.getfield 37, 3) := by decide +kernel
theorem dX10_item_69 : decode cX10_item 69 = .ok (.iload_n 1, 1) := by decide +kernel
theorem dX10_item_70 : decode cX10_item 70 = .ok (.iaload, 1) := by decide +kernel
theorem dX10_item_71 : decode cX10_item 71 = .ok (.iconst 1, 1) := by decide +kernel
theorem dX10_item_72 : decode cX10_item 72 = .ok (.if_icmp .ne 10, 3) := by decide +kernel
theorem dX10_item_75 : decode cX10_item 75 = .ok (.lload_n 3, 1) := by decide +kernel
theorem dX10_item_76 : decode cX10_item 76 = .ok (.l2i, 1) := by decide +kernel
theorem dX10_item_77 : decode cX10_item 77 = .ok (.i2s, 1) := by decide +kernel
theorem dX10_item_78 : decode cX10_item 78 = .ok (.i2l, 1) := by decide +kernel
theorem dX10_item_79 : decode cX10_item 79 = .ok (.goto 44, 3) := by decide +kernel
theorem dX10_item_82 : decode cX10_item 82 = .ok (.aload_n 0, 1) := by decide +kernel
theorem dX10_item_83 : decode cX10_item 83 = .ok (.getfield 37, 3) := by decide +kernel
theorem dX10_item_86 : decode cX10_item 86 = .ok (.iload_n 1, 1) := by decide +kernel
theorem dX10_item_87 : decode cX10_item 87 = .ok (.iaload, 1) := by decide +kernel
theorem dX10_item_88 : decode cX10_item 88 = .ok (.iconst 2, 1) := by decide +kernel
theorem dX10_item_89 : decode cX10_item 89 = .ok (.if_icmp .ne 9, 3) := by decide +kernel
theorem dX10_item_92 : decode cX10_item 92 = .ok (.lload_n 3, 1) := by decide +kernel
theorem dX10_item_93 : decode cX10_item 93 = .ok (.l2i, 1) := by decide +kernel
theorem dX10_item_94 : decode cX10_item 94 = .ok (.i2l, 1) := by decide +kernel
theorem dX10_item_95 : decode cX10_item 95 = .ok (.goto 28, 3) := by decide +kernel
theorem dX10_item_98 : decode cX10_item 98 = .ok (.aload_n 0, 1) := by decide +kernel
theorem dX10_item_99 : decode cX10_item 99 = .ok (.getfield 37, 3) := by decide +kernel
theorem dX10_item_102 : decode cX10_item 102 = .ok (.iload_n 1, 1) := by decide +kernel
theorem dX10_item_103 : decode cX10_item 103 = .ok (.iaload, 1) := by decide +kernel
theorem dX10_item_104 : decode cX10_item 104 = .ok (.iconst 3, 1) := by decide +kernel
theorem dX10_item_105 : decode cX10_item 105 = .ok (.if_icmp .ne 7, 3) := by decide +kernel
theorem dX10_item_108 : decode cX10_item 108 = .ok (.lload_n 3, 1) := by decide +kernel
theorem dX10_item_109 : decode cX10_item 109 = .ok (.goto 14, 3) := by decide +kernel
theorem dX10_item_112 : decode cX10_item 112 = .ok (.lload_n 3, 1) := by decide +kernel
theorem dX10_item_113 : decode cX10_item 113 = .ok (.lconst 0, 1) := by decide +kernel
theorem dX10_item_114 : decode cX10_item 114 = .ok (.lcmp, 1) := by decide +kernel
theorem dX10_item_115 : decode cX10_item 115 = .ok (.ifCond .eq 7, 3) := by decide +kernel
theorem dX10_item_118 : decode cX10_item 118 = .ok (.lconst 1, 1) := by decide +kernel
theorem dX10_item_119 : decode cX10_item 119 = .ok (.goto 4, 3) := by decide +kernel
theorem dX10_item_122 : decode cX10_item 122 = .ok (.lconst 0, 1) := by decide +kernel
theorem dX10_item_123 : decode cX10_item 123 = .ok (.lastore, 1) := by decide +kernel
theorem dX10_item_124 : decode cX10_item 124 = .ok (.iconst 1, 1) := by decide +kernel
theorem dX10_item_125 : decode cX10_item 125 = .ok (.ireturn, 1) := by decide +kernel
theorem dX10_peek_0 : decode cX10_peek 0 = .ok (.iload_n 1, 1) := by decide +kernel
theorem dX10_peek_1 : decode cX10_peek 1 = .ok (.invokestatic 244, 3) := by decide +kernel
theorem dX10_peek_4 : decode cX10_peek 4 = .ok (.ifCond .eq 32, 3) := by decide +kernel
theorem dX10_peek_7 : decode cX10_peek 7 = .ok (.iload_n 2, 1) := by decide +kernel
theorem dX10_peek_8 : decode cX10_peek 8 = .ok (.i2l, 1) := by decide +kernel
theorem dX10_peek_9 : decode cX10_peek 9 = .ok (.lconst 0, 1) := by decide +kernel
theorem dX10_peek_10 : decode cX10_peek 10 = .ok (.aload_n 0, 1) := by decide +kernel
theorem dX10_peek_11 : decode cX10_peek 11 = .ok (.getfield 40, 3) := by decide +kernel
theorem dX10_peek_14 : decode cX10_peek 14 = .ok (.iload_n 1, 1) := by decide +kernel
theorem dX10_peek_15 : decode cX10_peek 15 = .ok (.iaload, 1) := by decide +kernel
theorem dX10_peek_16 : decode cX10_peek 16 = .ok (.iconst 1, 1) := by decide +kernel
theorem dX10_peek_17 : decode cX10_peek 17 = .ok (.isub, 1) := by decide +kernel
theorem dX10_peek_18 : decode cX10_peek 18 = .ok (.i2l, 1) := by decide +kernel
theorem dX10_peek_19 : decode cX10_peek 19 = .ok (.invokestatic 60, 3) := by decide +kernel
theorem dX10_peek_22 : decode cX10_peek 22 = .ok (.ifCond .eq 14, 3) := by decide +kernel
theorem dX10_peek_25 : decode cX10_peek 25 = .ok (.aload_n 0, 1) := by decide +kernel
theorem dX10_peek_26 : decode cX10_peek 26 = .ok (.getfield 45, 3) := by decide +kernel
theorem dX10_peek_29 : decode cX10_peek 29 = .ok (.iload_n 1, 1) := by decide +kernel
theorem dX10_peek_30 : decode cX10_peek 30 = .ok (.aaload, 1) := by decide +kernel
theorem dX10_peek_31 : decode cX10_peek 31 = .ok (.iload_n 2, 1) := by decide +kernel
theorem dX10_peek_32 : decode cX10_peek 32 = .ok (.laload, 1) := by decide +kernel
theorem dX10_peek_33 : decode cX10_peek 33 = .ok (.goto 6, 3) := by decide +kernel
theorem dX10_peek_36 : decode cX10_peek 36 = .ok (.ldc2_w 172, 3) := by decide +kernel
theorem dX10_peek_39 : decode cX10_peek 39 = .ok (.lreturn, 1) := by decide +kernel
theorem dX10_shift_0 : decode cX10_shift 0 = .ok (.iload_n 1, 1) := by decide +kernel
theorem dX10_shift_1 : decode cX10_shift 1 = .ok (.invokestatic 244, 3) := by decide +kernel
theorem dX10_shift_4 : decode cX10_shift 4 = .ok (.ifCond .eq 10, 3) := by decide +kernel
theorem dX10_shift_7 : decode cX10_shift 7 = .ok (.iload_n 3, 1) := by decide +kernel
theorem dX10_shift_8 : decode cX10_shift 8 = .ok (.invokestatic 244, 3) := by decide +kernel
theorem dX10_shift_11 : decode cX10_shift 11 = .ok (.ifCond .ne 5, 3) := by decide +kernel
theorem dX10_shift_14 : decode cX10_shift 14 = .ok (.iconst (-1), 1) := by decide +kernel
theorem dX10_shift_15 : decode cX10_shift 15 = .ok (.ireturn, 1) := by decide +kernel
theorem dX10_shift_16 : decode cX10_shift 16 = .ok (.aload_n 0, 1) := by decide +kernel
theorem dX10_shift_17 : decode cX10_shift 17 = .ok (.getfield 37, 3) := by decide +kernel
theorem dX10_shift_20 : decode cX10_shift 20 = .ok (.iload_n 1, 1) := by decide +kernel
theorem dX10_shift_21 : decode cX10_shift 21 = .ok (.iaload, 1) := by decide +kernel
theorem dX10_shift_22 : decode cX10_shift 22 = .ok (.ifCond .lt 12, 3) := by decide +kernel
theorem dX10_shift_25 : decode cX10_shift 25 = .ok (.aload_n 0, 1) := by decide +kernel
theorem dX10_shift_26 : decode cX10_shift 26 = .ok (.getfield 37, 3) := by decide +kernel
theorem dX10_shift_29 : decode cX10_shift 29 = .ok (.iload_n 3, 1) := by decide +kernel
theorem dX10_shift_30 : decode cX10_shift 30 = .ok (.iaload, 1) := by decide +kernel
theorem dX10_shift_31 : decode cX10_shift 31 = .ok (.ifCond .ge 6, 3) := by decide +kernel
theorem dX10_shift_34 : decode cX10_shift 34 = .ok (.bipush (-11), 2) := by decide +kernel
theorem dX10_shift_36 : decode cX10_shift 36 = .ok (.ireturn, 1) := by decide +kernel
theorem dX10_shift_37 : decode cX10_shift 37 = .ok (.aload_n 0, 1) := by decide +kernel
theorem dX10_shift_38 : decode cX10_shift 38 = .ok (.getfield 37, 3) := by decide +kernel
theorem dX10_shift_41 : decode cX10_shift 41 = .ok (.iload_n 1, 1) := by decide +kernel
theorem dX10_shift_42 : decode cX10_shift 42 = .ok (.iaload, 1) := by decide +kernel
theorem dX10_shift_43 : decode cX10_shift 43 = .ok (.aload_n 0, 1) := by decide +kernel
theorem dX10_shift_44 : decode cX10_shift 44 = .ok (.getfield 37, 3) := by decide +kernel
theorem dX10_shift_47 : decode cX10_shift 47 = .ok (.iload_n 3, 1) := by decide +kernel
theorem dX10_shift_48 : decode cX10_shift 48 = .ok (.iaload, 1) := by decide +kernel
theorem dX10_shift_49 : decode cX10_shift 49 = .ok (.if_icmp .eq 6, 3) := by decide +kernel
theorem dX10_shift_52 : decode cX10_shift 52 = .ok (.bipush (-12), 2) := by decide +kernel
theorem dX10_shift_54 : decode cX10_shift 54 = .ok (.ireturn, 1) := by decide +kernel
theorem dX10_shift_55 : decode cX10_shift 55 = .ok (.iload 5, 2) := by decide +kernel
theorem dX10_shift_57 : decode cX10_shift 57 = .ok (.ifCond .lt 39, 3) := by decide +kernel
theorem dX10_shift_60 : decode cX10_shift 60 = .ok (.iload_n 2, 1) := by decide +kernel
theorem dX10_shift_61 : decode cX10_shift 61 = .ok (.ifCond .lt 35, 3) := by decide +kernel
theorem dX10_shift_64 : decode cX10_shift 64 = .ok (.iload 4, 2) := by decide +kernel
theorem dX10_shift_66 : decode cX10_shift 66 = .ok (.ifCond .lt 30, 3) := by decide +kernel
theorem dX10_shift_69 : decode cX10_shift 69 = .ok (.iload 5, 2) := by decide +kernel
theorem dX10_shift_71 : decode cX10_shift 71 = .ok (.aload_n 0, 1) := by decide +kernel
theorem dX10_shift_72 : decode cX10_shift 72 = .ok (.getfield 40, 3) := by decide +kernel
theorem dX10_shift_75 : decode cX10_shift 75 = .ok (.iload_n 1, 1) := by decide +kernel
theorem dX10_shift_76 : decode cX10_shift 76 = .ok (.iaload, 1) := by decide +kernel
theorem dX10_shift_77 : decode cX10_shift 77 = .ok (.iload_n 2, 1) := by decide +kernel
theorem dX10_shift_78 : decode cX10_shift 78 = .ok (.isub, 1) := by decide +kernel
theorem dX10_shift_79 : decode cX10_shift 79 = .ok (.if_icmp .gt 17, 3) := by decide +kernel
theorem dX10_shift_82 : decode cX10_shift 82 = .ok (.iload 5, 2) := by decide +kernel
theorem dX10_shift_84 : decode cX10_shift 84 = .ok (.aload_n 0, 1) := by decide +kernel
theorem dX10_shift_85 : decode cX10_shift 85 = .ok (.getfield 40, 3) := by decide +kernel
theorem dX10_shift_88 : decode cX10_shift 88 = .ok (.iload_n 3, 1) := by decide +kernel
theorem dX10_shift_89 : decode cX10_shift 89 = .ok (.iaload, 1) := by decide +kernel
theorem dX10_shift_90 : decode cX10_shift 90 = .ok (.iload 4, 2) := by decide +kernel
theorem dX10_shift_92 : decode cX10_shift 92 = .ok (.isub, 1) := by decide +kernel
theorem dX10_shift_93 : decode cX10_shift 93 = .ok (.if_icmp .le 6, 3) := by decide +kernel
theorem dX10_shift_96 : decode cX10_shift 96 = .ok (.bipush (-13), 2) := by decide +kernel
theorem dX10_shift_98 : decode cX10_shift 98 = .ok (.ireturn, 1) := by decide +kernel
theorem dX10_shift_99 : decode cX10_shift 99 = .ok (.iconst 0, 1) := by decide +kernel
theorem dX10_shift_100 : decode cX10_shift 100 = .ok (.istore 6, 2) := by decide +kernel
theorem dX10_shift_102 : decode cX10_shift 102 = .ok (.iload 6, 2) := by decide +kernel
theorem dX10_shift_104 : decode cX10_shift 104 = .ok (.iload 5, 2) := by decide +kernel
theorem dX10_shift_106 : decode cX10_shift 106 = .ok (.if_icmp .ge 27, 3) := by decide +kernel
theorem dX10_shift_109 : decode cX10_shift 109 = .ok (.aload_n 0, 1) := by decide +kernel
theorem dX10_shift_110 : decode cX10_shift 110 = .ok (.getfield 48, 3) := by decide +kernel
theorem dX10_shift_113 : decode cX10_shift 113 = .ok (.iload 6, 2) := by decide +kernel
theorem dX10_shift_115 : decode cX10_shift 115 = .ok (.aload_n 0, 1) := by decide +kernel
theorem dX10_shift_116 : decode cX10_shift 116 = .ok (.getfield 45, 3) := by decide +kernel
theorem dX10_shift_119 : decode cX10_shift 119 = .ok (.iload_n 1, 1) := by decide +kernel
theorem dX10_shift_120 : decode cX10_shift 120 = .ok (.aaload, 1) := by decide +kernel
theorem dX10_shift_121 : decode cX10_shift 121 = .ok (.iload_n 2, 1) := by decide +kernel
theorem dX10_shift_122 : decode cX10_shift 122 = .ok (.iload 6, 2) := by decide +kernel
theorem dX10_shift_124 : decode cX10_shift 124 = .ok (.iadd, 1) := by decide +kernel
theorem dX10_shift_125 : decode cX10_shift 125 = .ok (.laload, 1) := by decide +kernel
theorem dX10_shift_126 : decode cX10_shift 126 = .ok (.lastore, 1) := by decide +kernel
theorem dX10_shift_127 : decode cX10_shift 127 = .ok (.iinc 6 1, 3) := by decide +kernel
theorem dX10_shift_130 : decode cX10_shift 130 = .ok (.goto (-28), 3) := by decide +kernel
theorem dX10_shift_133 : decode cX10_shift 133 = .ok (.iconst 0, 1) := by decide +kernel
theorem dX10_shift_134 : decode cX10_shift 134 = .ok (.istore 6, 2) := by decide +kernel
theorem dX10_shift_136 : decode cX10_shift 136 = .ok (.iload 6, 2) := by decide +kernel
theorem dX10_shift_138 : decode cX10_shift 138 = .ok (.iload 5, 2) := by decide +kernel
theorem dX10_shift_140 : decode cX10_shift 140 = .ok (.if_icmp .ge 28, 3) := by decide +kernel
theorem dX10_shift_143 : decode cX10_shift 143 = .ok (.aload_n 0, 1) := by decide +kernel
theorem dX10_shift_144 : decode cX10_shift 144 = .ok (.getfield 45, 3) := by decide +kernel
theorem dX10_shift_147 : decode cX10_shift 147 = .ok (.iload_n 3, 1) := by decide +kernel
theorem dX10_shift_148 : decode cX10_shift 148 = .ok (.aaload, 1) := by decide +kernel
theorem dX10_shift_149 : decode cX10_shift 149 = .ok (.iload 4, 2) := by decide +kernel
theorem dX10_shift_151 : decode cX10_shift 151 = .ok (.iload 6, 2) := by decide +kernel
theorem dX10_shift_153 : decode cX10_shift 153 = .ok (.iadd, 1) := by decide +kernel
theorem dX10_shift_154 : decode cX10_shift 154 = .ok (.aload_n 0, 1) := by decide +kernel
theorem dX10_shift_155 : decode cX10_shift 155 = .ok (.getfield 48, 3) := by decide +kernel
theorem dX10_shift_158 : decode cX10_shift 158 = .ok (.iload 6, 2) := by decide +kernel
theorem dX10_shift_160 : decode cX10_shift 160 = .ok (.laload, 1) := by decide +kernel
theorem dX10_shift_161 : decode cX10_shift 161 = .ok (.lastore, 1) := by decide +kernel
theorem dX10_shift_162 : decode cX10_shift 162 = .ok (.iinc 6 1, 3) := by decide +kernel
theorem dX10_shift_165 : decode cX10_shift 165 = .ok (.goto (-29), 3) := by decide +kernel
theorem dX10_shift_168 : decode cX10_shift 168 = .ok (.iload 5, 2) := by decide +kernel
theorem dX10_shift_170 : decode cX10_shift 170 = .ok (.ireturn, 1) := by decide +kernel
theorem dX10_image_0 : decode cX10_image 0 = .ok (.iconst 0, 1) := by decide +kernel
theorem dX10_image_1 : decode cX10_image 1 = .ok (.istore_n 1, 1) := by decide +kernel
theorem dX10_image_2 : decode cX10_image 2 = .ok (.iload_n 1, 1) := by decide +kernel
theorem dX10_image_3 : decode cX10_image 3 = .ok (.bipush 55, 2) := by decide +kernel
theorem dX10_image_5 : decode cX10_image 5 = .ok (.if_icmp .ge 21, 3) := by decide +kernel
theorem dX10_image_8 : decode cX10_image 8 = .ok (.aload_n 0, 1) := by decide +kernel
theorem dX10_image_9 : decode cX10_image 9 = .ok (.getfield 15, 3) := by decide +kernel
theorem dX10_image_12 : decode cX10_image 12 = .ok (.iload_n 1, 1) := by decide +kernel
theorem dX10_image_13 : decode cX10_image 13 = .ok (.aload_n 0, 1) := by decide +kernel
theorem dX10_image_14 : decode cX10_image 14 = .ok (.getfield 11, 3) := by decide +kernel
theorem dX10_image_17 : decode cX10_image 17 = .ok (.iload_n 1, 1) := by decide +kernel
theorem dX10_image_18 : decode cX10_image 18 = .ok (.iaload, 1) := by decide +kernel
theorem dX10_image_19 : decode cX10_image 19 = .ok (.iastore, 1) := by decide +kernel
theorem dX10_image_20 : decode cX10_image 20 = .ok (.iinc 1 1, 3) := by decide +kernel
theorem dX10_image_23 : decode cX10_image 23 = .ok (.goto (-21), 3) := by decide +kernel
theorem dX10_image_26 : decode cX10_image 26 = .ok (.aload_n 0, 1) := by decide +kernel
theorem dX10_image_27 : decode cX10_image 27 = .ok (.iconst 1, 1) := by decide +kernel
theorem dX10_image_28 : decode cX10_image 28 = .ok (.putfield 249, 3) := by decide +kernel
theorem dX10_image_31 : decode cX10_image 31 = .ok (.aload_n 0, 1) := by decide +kernel
theorem dX10_image_32 : decode cX10_image 32 = .ok (.getfield 11, 3) := by decide +kernel
theorem dX10_image_35 : decode cX10_image 35 = .ok (.iconst 1, 1) := by decide +kernel
theorem dX10_image_36 : decode cX10_image 36 = .ok (.iaload, 1) := by decide +kernel
theorem dX10_image_37 : decode cX10_image 37 = .ok (.ireturn, 1) := by decide +kernel
theorem dX10_undo_0 : decode cX10_undo 0 = .ok (.aload_n 0, 1) := by decide +kernel
theorem dX10_undo_1 : decode cX10_undo 1 = .ok (.getfield 249, 3) := by decide +kernel
theorem dX10_undo_4 : decode cX10_undo 4 = .ok (.ifCond .ne 6, 3) := by decide +kernel
theorem dX10_undo_7 : decode cX10_undo 7 = .ok (.bipush (-3), 2) := by decide +kernel
theorem dX10_undo_9 : decode cX10_undo 9 = .ok (.ireturn, 1) := by decide +kernel
theorem dX10_undo_10 : decode cX10_undo 10 = .ok (.iconst 0, 1) := by decide +kernel
theorem dX10_undo_11 : decode cX10_undo 11 = .ok (.istore_n 1, 1) := by decide +kernel
theorem dX10_undo_12 : decode cX10_undo 12 = .ok (.iload_n 1, 1) := by decide +kernel
theorem dX10_undo_13 : decode cX10_undo 13 = .ok (.bipush 55, 2) := by decide +kernel
theorem dX10_undo_15 : decode cX10_undo 15 = .ok (.if_icmp .ge 21, 3) := by decide +kernel
theorem dX10_undo_18 : decode cX10_undo 18 = .ok (.aload_n 0, 1) := by decide +kernel
theorem dX10_undo_19 : decode cX10_undo 19 = .ok (.getfield 11, 3) := by decide +kernel
theorem dX10_undo_22 : decode cX10_undo 22 = .ok (.iload_n 1, 1) := by decide +kernel
theorem dX10_undo_23 : decode cX10_undo 23 = .ok (.aload_n 0, 1) := by decide +kernel
theorem dX10_undo_24 : decode cX10_undo 24 = .ok (.getfield 15, 3) := by decide +kernel
theorem dX10_undo_27 : decode cX10_undo 27 = .ok (.iload_n 1, 1) := by decide +kernel
theorem dX10_undo_28 : decode cX10_undo 28 = .ok (.iaload, 1) := by decide +kernel
theorem dX10_undo_29 : decode cX10_undo 29 = .ok (.iastore, 1) := by decide +kernel
theorem dX10_undo_30 : decode cX10_undo 30 = .ok (.iinc 1 1, 3) := by decide +kernel
theorem dX10_undo_33 : decode cX10_undo 33 = .ok (.goto (-21), 3) := by decide +kernel
theorem dX10_undo_36 : decode cX10_undo 36 = .ok (.aload_n 0, 1) := by decide +kernel
theorem dX10_undo_37 : decode cX10_undo 37 = .ok (.getfield 11, 3) := by decide +kernel
theorem dX10_undo_40 : decode cX10_undo 40 = .ok (.iconst 1, 1) := by decide +kernel
theorem dX10_undo_41 : decode cX10_undo 41 = .ok (.iaload, 1) := by decide +kernel
theorem dX10_undo_42 : decode cX10_undo 42 = .ok (.ireturn, 1) := by decide +kernel
theorem dX10_count_0 : decode cX10_count 0 = .ok (.iload_n 1, 1) := by decide +kernel
theorem dX10_count_1 : decode cX10_count 1 = .ok (.ifCond .ne 13, 3) := by decide +kernel
theorem dX10_count_4 : decode cX10_count 4 = .ok (.aload_n 0, 1) := by decide +kernel
theorem dX10_count_5 : decode cX10_count 5 = .ok (.getfield 11, 3) := by decide +kernel
theorem dX10_count_8 : decode cX10_count 8 = .ok (.bipush 8, 2) := by decide +kernel
theorem dX10_count_10 : decode cX10_count 10 = .ok (.iaload, 1) := by decide +kernel
theorem dX10_count_11 : decode cX10_count 11 = .ok (.goto 47, 3) := by decide +kernel
theorem dX10_count_14 : decode cX10_count 14 = .ok (.iload_n 1, 1) := by decide +kernel
theorem dX10_count_15 : decode cX10_count 15 = .ok (.iconst 1, 1) := by decide +kernel
theorem dX10_count_16 : decode cX10_count 16 = .ok (.if_icmp .ne 13, 3) := by decide +kernel
theorem dX10_count_19 : decode cX10_count 19 = .ok (.aload_n 0, 1) := by decide +kernel
theorem dX10_count_20 : decode cX10_count 20 = .ok (.getfield 11, 3) := by decide +kernel
theorem dX10_count_23 : decode cX10_count 23 = .ok (.bipush 21, 2) := by decide +kernel
theorem dX10_count_25 : decode cX10_count 25 = .ok (.iaload, 1) := by decide +kernel
theorem dX10_count_26 : decode cX10_count 26 = .ok (.goto 32, 3) := by decide +kernel
theorem dX10_count_29 : decode cX10_count 29 = .ok (.iload_n 1, 1) := by decide +kernel
theorem dX10_count_30 : decode cX10_count 30 = .ok (.iconst 2, 1) := by decide +kernel
theorem dX10_count_31 : decode cX10_count 31 = .ok (.if_icmp .ne 13, 3) := by decide +kernel
theorem dX10_count_34 : decode cX10_count 34 = .ok (.aload_n 0, 1) := by decide +kernel
theorem dX10_count_35 : decode cX10_count 35 = .ok (.getfield 11, 3) := by decide +kernel
theorem dX10_count_38 : decode cX10_count 38 = .ok (.bipush 38, 2) := by decide +kernel
theorem dX10_count_40 : decode cX10_count 40 = .ok (.iaload, 1) := by decide +kernel
theorem dX10_count_41 : decode cX10_count 41 = .ok (.goto 17, 3) := by decide +kernel
theorem dX10_count_44 : decode cX10_count 44 = .ok (.iload_n 1, 1) := by decide +kernel
theorem dX10_count_45 : decode cX10_count 45 = .ok (.iconst 3, 1) := by decide +kernel
theorem dX10_count_46 : decode cX10_count 46 = .ok (.if_icmp .ne 10, 3) := by decide +kernel
theorem dX10_count_49 : decode cX10_count 49 = .ok (.aload_n 0, 1) := by decide +kernel
theorem dX10_count_50 : decode cX10_count 50 = .ok (.getfield 181, 3) := by decide +kernel
theorem dX10_count_53 : decode cX10_count 53 = .ok (.goto 5, 3) := by decide +kernel
theorem dX10_count_56 : decode cX10_count 56 = .ok (.bipush (-2), 2) := by decide +kernel
theorem dX10_count_58 : decode cX10_count 58 = .ok (.ireturn, 1) := by decide +kernel
end
section
theorem dL_law_0 : decode cL_law 0 = .ok (.new 7, 3) := by decide +kernel
theorem dL_law_3 : decode cL_law 3 = .ok (.dup, 1) := by decide +kernel
theorem dL_law_4 : decode cL_law 4 = .ok (.invokespecial 9, 3) := by decide +kernel
theorem dL_law_7 : decode cL_law 7 = .ok (.astore_n 1, 1) := by decide +kernel
theorem dL_law_8 : decode cL_law 8 = .ok (.new 10, 3) := by decide +kernel
theorem dL_law_11 : decode cL_law 11 = .ok (.dup, 1) := by decide +kernel
theorem dL_law_12 : decode cL_law 12 = .ok (.invokespecial 12, 3) := by decide +kernel
theorem dL_law_15 : decode cL_law 15 = .ok (.astore_n 2, 1) := by decide +kernel
theorem dL_law_16 : decode cL_law 16 = .ok (.iconst 0, 1) := by decide +kernel
theorem dL_law_17 : decode cL_law 17 = .ok (.istore_n 3, 1) := by decide +kernel
theorem dL_law_18 : decode cL_law 18 = .ok (.iload_n 3, 1) := by decide +kernel
theorem dL_law_19 : decode cL_law 19 = .ok (.aload_n 0, 1) := by decide +kernel
theorem dL_law_20 : decode cL_law 20 = .ok (.arraylength, 1) := by decide +kernel
theorem dL_law_21 : decode cL_law 21 = .ok (.bipush 6, 2) := by decide +kernel
theorem dL_law_23 : decode cL_law 23 = .ok (.isub, 1) := by decide +kernel
theorem dL_law_24 : decode cL_law 24 = .ok (.if_icmp .gt 1155, 3) := by decide +kernel
theorem dL_law_27 : decode cL_law 27 = .ok (.aload_n 0, 1) := by decide +kernel
theorem dL_law_28 : decode cL_law 28 = .ok (.iload_n 3, 1) := by decide +kernel
theorem dL_law_29 : decode cL_law 29 = .ok (.iaload, 1) := by decide +kernel
theorem dL_law_30 : decode cL_law 30 = .ok (.bipush 63, 2) := by decide +kernel
theorem dL_law_32 : decode cL_law 32 = .ok (.iand, 1) := by decide +kernel
theorem dL_law_33 : decode cL_law 33 = .ok (.tableswitch 1140 0 35 #[159, 182, 215, 238, 271, 294, 307, 330, 353, 386, 399, 422, 435, 468, 491, 524, 537, 560, 583, 606, 629, 662, 685, 719, 743, 776, 799, 832, 845, 878, 891, 904, 927, 970, 1043, 1077], 159) := by decide +kernel
theorem dL_law_192 : decode cL_law 192 = .ok (.aload_n 1, 1) := by decide +kernel
theorem dL_law_193 : decode cL_law 193 = .ok (.aload_n 0, 1) := by decide +kernel
theorem dL_law_194 : decode cL_law 194 = .ok (.iload_n 3, 1) := by decide +kernel
theorem dL_law_195 : decode cL_law 195 = .ok (.iconst 1, 1) := by decide +kernel
theorem dL_law_196 : decode cL_law 196 = .ok (.iadd, 1) := by decide +kernel
theorem dL_law_197 : decode cL_law 197 = .ok (.iaload, 1) := by decide +kernel
theorem dL_law_198 : decode cL_law 198 = .ok (.invokevirtual 13, 3) := by decide +kernel
theorem dL_law_201 : decode cL_law 201 = .ok (.aload_n 2, 1) := by decide +kernel
theorem dL_law_202 : decode cL_law 202 = .ok (.aload_n 0, 1) := by decide +kernel
theorem dL_law_203 : decode cL_law 203 = .ok (.iload_n 3, 1) := by decide +kernel
theorem dL_law_204 : decode cL_law 204 = .ok (.iconst 1, 1) := by decide +kernel
theorem dL_law_205 : decode cL_law 205 = .ok (.iadd, 1) := by decide +kernel
theorem dL_law_206 : decode cL_law 206 = .ok (.iaload, 1) := by decide +kernel
theorem dL_law_207 : decode cL_law 207 = .ok (.invokevirtual 17, 3) := by decide +kernel
theorem dL_law_210 : decode cL_law 210 = .ok (.if_icmp .eq 963, 3) := by decide +kernel
theorem dL_law_213 : decode cL_law 213 = .ok (.iconst 0, 1) := by decide +kernel
theorem dL_law_214 : decode cL_law 214 = .ok (.ireturn, 1) := by decide +kernel
theorem dL_law_215 : decode cL_law 215 = .ok (.aload_n 1, 1) := by decide +kernel
theorem dL_law_216 : decode cL_law 216 = .ok (.aload_n 0, 1) := by decide +kernel
theorem dL_law_217 : decode cL_law 217 = .ok (.iload_n 3, 1) := by decide +kernel
theorem dL_law_218 : decode cL_law 218 = .ok (.iconst 1, 1) := by decide +kernel
theorem dL_law_219 : decode cL_law 219 = .ok (.iadd, 1) := by decide +kernel
theorem dL_law_220 : decode cL_law 220 = .ok (.iaload, 1) := by decide +kernel
theorem dL_law_221 : decode cL_law 221 = .ok (.aload_n 0, 1) := by decide +kernel
theorem dL_law_222 : decode cL_law 222 = .ok (.iload_n 3, 1) := by decide +kernel
theorem dL_law_223 : decode cL_law 223 = .ok (.iconst 2, 1) := by decide +kernel
theorem dL_law_224 : decode cL_law 224 = .ok (.iadd, 1) := by decide +kernel
theorem dL_law_225 : decode cL_law 225 = .ok (.iaload, 1) := by decide +kernel
theorem dL_law_226 : decode cL_law 226 = .ok (.invokevirtual 18, 3) := by decide +kernel
theorem dL_law_229 : decode cL_law 229 = .ok (.aload_n 2, 1) := by decide +kernel
theorem dL_law_230 : decode cL_law 230 = .ok (.aload_n 0, 1) := by decide +kernel
theorem dL_law_231 : decode cL_law 231 = .ok (.iload_n 3, 1) := by decide +kernel
theorem dL_law_232 : decode cL_law 232 = .ok (.iconst 1, 1) := by decide +kernel
theorem dL_law_233 : decode cL_law 233 = .ok (.iadd, 1) := by decide +kernel
theorem dL_law_234 : decode cL_law 234 = .ok (.iaload, 1) := by decide +kernel
theorem dL_law_235 : decode cL_law 235 = .ok (.aload_n 0, 1) := by decide +kernel
theorem dL_law_236 : decode cL_law 236 = .ok (.iload_n 3, 1) := by decide +kernel
theorem dL_law_237 : decode cL_law 237 = .ok (.iconst 2, 1) := by decide +kernel
theorem dL_law_238 : decode cL_law 238 = .ok (.iadd, 1) := by decide +kernel
theorem dL_law_239 : decode cL_law 239 = .ok (.iaload, 1) := by decide +kernel
theorem dL_law_240 : decode cL_law 240 = .ok (.invokevirtual 22, 3) := by decide +kernel
theorem dL_law_243 : decode cL_law 243 = .ok (.if_icmp .eq 930, 3) := by decide +kernel
theorem dL_law_246 : decode cL_law 246 = .ok (.iconst 0, 1) := by decide +kernel
theorem dL_law_247 : decode cL_law 247 = .ok (.ireturn, 1) := by decide +kernel
theorem dL_law_248 : decode cL_law 248 = .ok (.aload_n 1, 1) := by decide +kernel
theorem dL_law_249 : decode cL_law 249 = .ok (.aload_n 0, 1) := by decide +kernel
theorem dL_law_250 : decode cL_law 250 = .ok (.iload_n 3, 1) := by decide +kernel
theorem dL_law_251 : decode cL_law 251 = .ok (.iconst 1, 1) := by decide +kernel
theorem dL_law_252 : decode cL_law 252 = .ok (.iadd, 1) := by decide +kernel
theorem dL_law_253 : decode cL_law 253 = .ok (.iaload, 1) := by decide +kernel
theorem dL_law_254 : decode cL_law 254 = .ok (.invokevirtual 23, 3) := by decide +kernel
theorem dL_law_257 : decode cL_law 257 = .ok (.aload_n 2, 1) := by decide +kernel
theorem dL_law_258 : decode cL_law 258 = .ok (.aload_n 0, 1) := by decide +kernel
theorem dL_law_259 : decode cL_law 259 = .ok (.iload_n 3, 1) := by decide +kernel
theorem dL_law_260 : decode cL_law 260 = .ok (.iconst 1, 1) := by decide +kernel
theorem dL_law_261 : decode cL_law 261 = .ok (.iadd, 1) := by decide +kernel
theorem dL_law_262 : decode cL_law 262 = .ok (.iaload, 1) := by decide +kernel
theorem dL_law_263 : decode cL_law 263 = .ok (.invokevirtual 26, 3) := by decide +kernel
theorem dL_law_266 : decode cL_law 266 = .ok (.if_icmp .eq 907, 3) := by decide +kernel
theorem dL_law_269 : decode cL_law 269 = .ok (.iconst 0, 1) := by decide +kernel
theorem dL_law_270 : decode cL_law 270 = .ok (.ireturn, 1) := by decide +kernel
theorem dL_law_271 : decode cL_law 271 = .ok (.aload_n 1, 1) := by decide +kernel
theorem dL_law_272 : decode cL_law 272 = .ok (.aload_n 0, 1) := by decide +kernel
theorem dL_law_273 : decode cL_law 273 = .ok (.iload_n 3, 1) := by decide +kernel
theorem dL_law_274 : decode cL_law 274 = .ok (.iconst 1, 1) := by decide +kernel
theorem dL_law_275 : decode cL_law 275 = .ok (.iadd, 1) := by decide +kernel
theorem dL_law_276 : decode cL_law 276 = .ok (.iaload, 1) := by decide +kernel
theorem dL_law_277 : decode cL_law 277 = .ok (.aload_n 0, 1) := by decide +kernel
theorem dL_law_278 : decode cL_law 278 = .ok (.iload_n 3, 1) := by decide +kernel
theorem dL_law_279 : decode cL_law 279 = .ok (.iconst 2, 1) := by decide +kernel
theorem dL_law_280 : decode cL_law 280 = .ok (.iadd, 1) := by decide +kernel
theorem dL_law_281 : decode cL_law 281 = .ok (.iaload, 1) := by decide +kernel
theorem dL_law_282 : decode cL_law 282 = .ok (.invokevirtual 27, 3) := by decide +kernel
theorem dL_law_285 : decode cL_law 285 = .ok (.aload_n 2, 1) := by decide +kernel
theorem dL_law_286 : decode cL_law 286 = .ok (.aload_n 0, 1) := by decide +kernel
theorem dL_law_287 : decode cL_law 287 = .ok (.iload_n 3, 1) := by decide +kernel
theorem dL_law_288 : decode cL_law 288 = .ok (.iconst 1, 1) := by decide +kernel
theorem dL_law_289 : decode cL_law 289 = .ok (.iadd, 1) := by decide +kernel
theorem dL_law_290 : decode cL_law 290 = .ok (.iaload, 1) := by decide +kernel
theorem dL_law_291 : decode cL_law 291 = .ok (.aload_n 0, 1) := by decide +kernel
theorem dL_law_292 : decode cL_law 292 = .ok (.iload_n 3, 1) := by decide +kernel
theorem dL_law_293 : decode cL_law 293 = .ok (.iconst 2, 1) := by decide +kernel
theorem dL_law_294 : decode cL_law 294 = .ok (.iadd, 1) := by decide +kernel
theorem dL_law_295 : decode cL_law 295 = .ok (.iaload, 1) := by decide +kernel
theorem dL_law_296 : decode cL_law 296 = .ok (.invokevirtual 30, 3) := by decide +kernel
theorem dL_law_299 : decode cL_law 299 = .ok (.if_icmp .eq 874, 3) := by decide +kernel
theorem dL_law_302 : decode cL_law 302 = .ok (.iconst 0, 1) := by decide +kernel
theorem dL_law_303 : decode cL_law 303 = .ok (.ireturn, 1) := by decide +kernel
theorem dL_law_304 : decode cL_law 304 = .ok (.aload_n 1, 1) := by decide +kernel
theorem dL_law_305 : decode cL_law 305 = .ok (.aload_n 0, 1) := by decide +kernel
theorem dL_law_306 : decode cL_law 306 = .ok (.iload_n 3, 1) := by decide +kernel
theorem dL_law_307 : decode cL_law 307 = .ok (.iconst 1, 1) := by decide +kernel
theorem dL_law_308 : decode cL_law 308 = .ok (.iadd, 1) := by decide +kernel
theorem dL_law_309 : decode cL_law 309 = .ok (.iaload, 1) := by decide +kernel
theorem dL_law_310 : decode cL_law 310 = .ok (.invokevirtual 31, 3) := by decide +kernel
theorem dL_law_313 : decode cL_law 313 = .ok (.aload_n 2, 1) := by decide +kernel
theorem dL_law_314 : decode cL_law 314 = .ok (.aload_n 0, 1) := by decide +kernel
theorem dL_law_315 : decode cL_law 315 = .ok (.iload_n 3, 1) := by decide +kernel
theorem dL_law_316 : decode cL_law 316 = .ok (.iconst 1, 1) := by decide +kernel
theorem dL_law_317 : decode cL_law 317 = .ok (.iadd, 1) := by decide +kernel
theorem dL_law_318 : decode cL_law 318 = .ok (.iaload, 1) := by decide +kernel
theorem dL_law_319 : decode cL_law 319 = .ok (.invokevirtual 34, 3) := by decide +kernel
theorem dL_law_322 : decode cL_law 322 = .ok (.if_icmp .eq 851, 3) := by decide +kernel
theorem dL_law_325 : decode cL_law 325 = .ok (.iconst 0, 1) := by decide +kernel
theorem dL_law_326 : decode cL_law 326 = .ok (.ireturn, 1) := by decide +kernel
theorem dL_law_327 : decode cL_law 327 = .ok (.aload_n 1, 1) := by decide +kernel
theorem dL_law_328 : decode cL_law 328 = .ok (.invokevirtual 35, 3) := by decide +kernel
theorem dL_law_331 : decode cL_law 331 = .ok (.aload_n 2, 1) := by decide +kernel
theorem dL_law_332 : decode cL_law 332 = .ok (.invokevirtual 39, 3) := by decide +kernel
theorem dL_law_335 : decode cL_law 335 = .ok (.if_icmp .eq 838, 3) := by decide +kernel
theorem dL_law_338 : decode cL_law 338 = .ok (.iconst 0, 1) := by decide +kernel
theorem dL_law_339 : decode cL_law 339 = .ok (.ireturn, 1) := by decide +kernel
theorem dL_law_340 : decode cL_law 340 = .ok (.aload_n 1, 1) := by decide +kernel
theorem dL_law_341 : decode cL_law 341 = .ok (.aload_n 0, 1) := by decide +kernel
theorem dL_law_342 : decode cL_law 342 = .ok (.iload_n 3, 1) := by decide +kernel
theorem dL_law_343 : decode cL_law 343 = .ok (.iconst 1, 1) := by decide +kernel
theorem dL_law_344 : decode cL_law 344 = .ok (.iadd, 1) := by decide +kernel
theorem dL_law_345 : decode cL_law 345 = .ok (.iaload, 1) := by decide +kernel
theorem dL_law_346 : decode cL_law 346 = .ok (.invokevirtual 40, 3) := by decide +kernel
theorem dL_law_349 : decode cL_law 349 = .ok (.aload_n 2, 1) := by decide +kernel
theorem dL_law_350 : decode cL_law 350 = .ok (.aload_n 0, 1) := by decide +kernel
theorem dL_law_351 : decode cL_law 351 = .ok (.iload_n 3, 1) := by decide +kernel
theorem dL_law_352 : decode cL_law 352 = .ok (.iconst 1, 1) := by decide +kernel
theorem dL_law_353 : decode cL_law 353 = .ok (.iadd, 1) := by decide +kernel
theorem dL_law_354 : decode cL_law 354 = .ok (.iaload, 1) := by decide +kernel
theorem dL_law_355 : decode cL_law 355 = .ok (.invokevirtual 43, 3) := by decide +kernel
theorem dL_law_358 : decode cL_law 358 = .ok (.if_icmp .eq 815, 3) := by decide +kernel
theorem dL_law_361 : decode cL_law 361 = .ok (.iconst 0, 1) := by decide +kernel
theorem dL_law_362 : decode cL_law 362 = .ok (.ireturn, 1) := by decide +kernel
theorem dL_law_363 : decode cL_law 363 = .ok (.aload_n 1, 1) := by decide +kernel
theorem dL_law_364 : decode cL_law 364 = .ok (.aload_n 0, 1) := by decide +kernel
theorem dL_law_365 : decode cL_law 365 = .ok (.iload_n 3, 1) := by decide +kernel
theorem dL_law_366 : decode cL_law 366 = .ok (.iconst 1, 1) := by decide +kernel
theorem dL_law_367 : decode cL_law 367 = .ok (.iadd, 1) := by decide +kernel
theorem dL_law_368 : decode cL_law 368 = .ok (.iaload, 1) := by decide +kernel
theorem dL_law_369 : decode cL_law 369 = .ok (.invokevirtual 44, 3) := by decide +kernel
theorem dL_law_372 : decode cL_law 372 = .ok (.aload_n 2, 1) := by decide +kernel
theorem dL_law_373 : decode cL_law 373 = .ok (.aload_n 0, 1) := by decide +kernel
theorem dL_law_374 : decode cL_law 374 = .ok (.iload_n 3, 1) := by decide +kernel
theorem dL_law_375 : decode cL_law 375 = .ok (.iconst 1, 1) := by decide +kernel
theorem dL_law_376 : decode cL_law 376 = .ok (.iadd, 1) := by decide +kernel
theorem dL_law_377 : decode cL_law 377 = .ok (.iaload, 1) := by decide +kernel
theorem dL_law_378 : decode cL_law 378 = .ok (.invokevirtual 47, 3) := by decide +kernel
theorem dL_law_381 : decode cL_law 381 = .ok (.if_icmp .eq 792, 3) := by decide +kernel
theorem dL_law_384 : decode cL_law 384 = .ok (.iconst 0, 1) := by decide +kernel
theorem dL_law_385 : decode cL_law 385 = .ok (.ireturn, 1) := by decide +kernel
theorem dL_law_386 : decode cL_law 386 = .ok (.aload_n 1, 1) := by decide +kernel
theorem dL_law_387 : decode cL_law 387 = .ok (.aload_n 0, 1) := by decide +kernel
theorem dL_law_388 : decode cL_law 388 = .ok (.iload_n 3, 1) := by decide +kernel
theorem dL_law_389 : decode cL_law 389 = .ok (.iconst 1, 1) := by decide +kernel
theorem dL_law_390 : decode cL_law 390 = .ok (.iadd, 1) := by decide +kernel
theorem dL_law_391 : decode cL_law 391 = .ok (.iaload, 1) := by decide +kernel
theorem dL_law_392 : decode cL_law 392 = .ok (.aload_n 0, 1) := by decide +kernel
theorem dL_law_393 : decode cL_law 393 = .ok (.iload_n 3, 1) := by decide +kernel
theorem dL_law_394 : decode cL_law 394 = .ok (.iconst 2, 1) := by decide +kernel
theorem dL_law_395 : decode cL_law 395 = .ok (.iadd, 1) := by decide +kernel
theorem dL_law_396 : decode cL_law 396 = .ok (.iaload, 1) := by decide +kernel
theorem dL_law_397 : decode cL_law 397 = .ok (.invokevirtual 48, 3) := by decide +kernel
theorem dL_law_400 : decode cL_law 400 = .ok (.aload_n 2, 1) := by decide +kernel
theorem dL_law_401 : decode cL_law 401 = .ok (.aload_n 0, 1) := by decide +kernel
theorem dL_law_402 : decode cL_law 402 = .ok (.iload_n 3, 1) := by decide +kernel
theorem dL_law_403 : decode cL_law 403 = .ok (.iconst 1, 1) := by decide +kernel
theorem dL_law_404 : decode cL_law 404 = .ok (.iadd, 1) := by decide +kernel
theorem dL_law_405 : decode cL_law 405 = .ok (.iaload, 1) := by decide +kernel
theorem dL_law_406 : decode cL_law 406 = .ok (.aload_n 0, 1) := by decide +kernel
theorem dL_law_407 : decode cL_law 407 = .ok (.iload_n 3, 1) := by decide +kernel
theorem dL_law_408 : decode cL_law 408 = .ok (.iconst 2, 1) := by decide +kernel
theorem dL_law_409 : decode cL_law 409 = .ok (.iadd, 1) := by decide +kernel
theorem dL_law_410 : decode cL_law 410 = .ok (.iaload, 1) := by decide +kernel
theorem dL_law_411 : decode cL_law 411 = .ok (.invokevirtual 51, 3) := by decide +kernel
theorem dL_law_414 : decode cL_law 414 = .ok (.if_icmp .eq 759, 3) := by decide +kernel
theorem dL_law_417 : decode cL_law 417 = .ok (.iconst 0, 1) := by decide +kernel
theorem dL_law_418 : decode cL_law 418 = .ok (.ireturn, 1) := by decide +kernel
theorem dL_law_419 : decode cL_law 419 = .ok (.aload_n 1, 1) := by decide +kernel
theorem dL_law_420 : decode cL_law 420 = .ok (.invokevirtual 52, 3) := by decide +kernel
theorem dL_law_423 : decode cL_law 423 = .ok (.aload_n 2, 1) := by decide +kernel
theorem dL_law_424 : decode cL_law 424 = .ok (.invokevirtual 55, 3) := by decide +kernel
theorem dL_law_427 : decode cL_law 427 = .ok (.if_icmp .eq 746, 3) := by decide +kernel
theorem dL_law_430 : decode cL_law 430 = .ok (.iconst 0, 1) := by decide +kernel
theorem dL_law_431 : decode cL_law 431 = .ok (.ireturn, 1) := by decide +kernel
theorem dL_law_432 : decode cL_law 432 = .ok (.aload_n 1, 1) := by decide +kernel
theorem dL_law_433 : decode cL_law 433 = .ok (.aload_n 0, 1) := by decide +kernel
theorem dL_law_434 : decode cL_law 434 = .ok (.iload_n 3, 1) := by decide +kernel
theorem dL_law_435 : decode cL_law 435 = .ok (.iconst 1, 1) := by decide +kernel
theorem dL_law_436 : decode cL_law 436 = .ok (.iadd, 1) := by decide +kernel
theorem dL_law_437 : decode cL_law 437 = .ok (.iaload, 1) := by decide +kernel
theorem dL_law_438 : decode cL_law 438 = .ok (.invokevirtual 56, 3) := by decide +kernel
theorem dL_law_441 : decode cL_law 441 = .ok (.aload_n 2, 1) := by decide +kernel
theorem dL_law_442 : decode cL_law 442 = .ok (.aload_n 0, 1) := by decide +kernel
theorem dL_law_443 : decode cL_law 443 = .ok (.iload_n 3, 1) := by decide +kernel
theorem dL_law_444 : decode cL_law 444 = .ok (.iconst 1, 1) := by decide +kernel
theorem dL_law_445 : decode cL_law 445 = .ok (.iadd, 1) := by decide +kernel
theorem dL_law_446 : decode cL_law 446 = .ok (.iaload, 1) := by decide +kernel
theorem dL_law_447 : decode cL_law 447 = .ok (.invokevirtual 59, 3) := by decide +kernel
theorem dL_law_450 : decode cL_law 450 = .ok (.if_icmp .eq 723, 3) := by decide +kernel
theorem dL_law_453 : decode cL_law 453 = .ok (.iconst 0, 1) := by decide +kernel
theorem dL_law_454 : decode cL_law 454 = .ok (.ireturn, 1) := by decide +kernel
theorem dL_law_455 : decode cL_law 455 = .ok (.aload_n 1, 1) := by decide +kernel
theorem dL_law_456 : decode cL_law 456 = .ok (.invokevirtual 60, 3) := by decide +kernel
theorem dL_law_459 : decode cL_law 459 = .ok (.aload_n 2, 1) := by decide +kernel
theorem dL_law_460 : decode cL_law 460 = .ok (.invokevirtual 63, 3) := by decide +kernel
theorem dL_law_463 : decode cL_law 463 = .ok (.if_icmp .eq 710, 3) := by decide +kernel
theorem dL_law_466 : decode cL_law 466 = .ok (.iconst 0, 1) := by decide +kernel
theorem dL_law_467 : decode cL_law 467 = .ok (.ireturn, 1) := by decide +kernel
theorem dL_law_468 : decode cL_law 468 = .ok (.aload_n 1, 1) := by decide +kernel
theorem dL_law_469 : decode cL_law 469 = .ok (.aload_n 0, 1) := by decide +kernel
theorem dL_law_470 : decode cL_law 470 = .ok (.iload_n 3, 1) := by decide +kernel
theorem dL_law_471 : decode cL_law 471 = .ok (.iconst 1, 1) := by decide +kernel
theorem dL_law_472 : decode cL_law 472 = .ok (.iadd, 1) := by decide +kernel
theorem dL_law_473 : decode cL_law 473 = .ok (.iaload, 1) := by decide +kernel
theorem dL_law_474 : decode cL_law 474 = .ok (.aload_n 0, 1) := by decide +kernel
theorem dL_law_475 : decode cL_law 475 = .ok (.iload_n 3, 1) := by decide +kernel
theorem dL_law_476 : decode cL_law 476 = .ok (.iconst 2, 1) := by decide +kernel
theorem dL_law_477 : decode cL_law 477 = .ok (.iadd, 1) := by decide +kernel
theorem dL_law_478 : decode cL_law 478 = .ok (.iaload, 1) := by decide +kernel
theorem dL_law_479 : decode cL_law 479 = .ok (.invokevirtual 64, 3) := by decide +kernel
theorem dL_law_482 : decode cL_law 482 = .ok (.aload_n 2, 1) := by decide +kernel
theorem dL_law_483 : decode cL_law 483 = .ok (.aload_n 0, 1) := by decide +kernel
theorem dL_law_484 : decode cL_law 484 = .ok (.iload_n 3, 1) := by decide +kernel
theorem dL_law_485 : decode cL_law 485 = .ok (.iconst 1, 1) := by decide +kernel
theorem dL_law_486 : decode cL_law 486 = .ok (.iadd, 1) := by decide +kernel
theorem dL_law_487 : decode cL_law 487 = .ok (.iaload, 1) := by decide +kernel
theorem dL_law_488 : decode cL_law 488 = .ok (.aload_n 0, 1) := by decide +kernel
theorem dL_law_489 : decode cL_law 489 = .ok (.iload_n 3, 1) := by decide +kernel
theorem dL_law_490 : decode cL_law 490 = .ok (.iconst 2, 1) := by decide +kernel
theorem dL_law_491 : decode cL_law 491 = .ok (.iadd, 1) := by decide +kernel
theorem dL_law_492 : decode cL_law 492 = .ok (.iaload, 1) := by decide +kernel
theorem dL_law_493 : decode cL_law 493 = .ok (.invokevirtual 67, 3) := by decide +kernel
theorem dL_law_496 : decode cL_law 496 = .ok (.if_icmp .eq 677, 3) := by decide +kernel
theorem dL_law_499 : decode cL_law 499 = .ok (.iconst 0, 1) := by decide +kernel
theorem dL_law_500 : decode cL_law 500 = .ok (.ireturn, 1) := by decide +kernel
theorem dL_law_501 : decode cL_law 501 = .ok (.aload_n 1, 1) := by decide +kernel
theorem dL_law_502 : decode cL_law 502 = .ok (.aload_n 0, 1) := by decide +kernel
theorem dL_law_503 : decode cL_law 503 = .ok (.iload_n 3, 1) := by decide +kernel
theorem dL_law_504 : decode cL_law 504 = .ok (.iconst 1, 1) := by decide +kernel
theorem dL_law_505 : decode cL_law 505 = .ok (.iadd, 1) := by decide +kernel
theorem dL_law_506 : decode cL_law 506 = .ok (.iaload, 1) := by decide +kernel
theorem dL_law_507 : decode cL_law 507 = .ok (.invokevirtual 68, 3) := by decide +kernel
theorem dL_law_510 : decode cL_law 510 = .ok (.aload_n 2, 1) := by decide +kernel
theorem dL_law_511 : decode cL_law 511 = .ok (.aload_n 0, 1) := by decide +kernel
theorem dL_law_512 : decode cL_law 512 = .ok (.iload_n 3, 1) := by decide +kernel
theorem dL_law_513 : decode cL_law 513 = .ok (.iconst 1, 1) := by decide +kernel
theorem dL_law_514 : decode cL_law 514 = .ok (.iadd, 1) := by decide +kernel
theorem dL_law_515 : decode cL_law 515 = .ok (.iaload, 1) := by decide +kernel
theorem dL_law_516 : decode cL_law 516 = .ok (.invokevirtual 71, 3) := by decide +kernel
theorem dL_law_519 : decode cL_law 519 = .ok (.if_icmp .eq 654, 3) := by decide +kernel
theorem dL_law_522 : decode cL_law 522 = .ok (.iconst 0, 1) := by decide +kernel
theorem dL_law_523 : decode cL_law 523 = .ok (.ireturn, 1) := by decide +kernel
theorem dL_law_524 : decode cL_law 524 = .ok (.aload_n 1, 1) := by decide +kernel
theorem dL_law_525 : decode cL_law 525 = .ok (.aload_n 0, 1) := by decide +kernel
theorem dL_law_526 : decode cL_law 526 = .ok (.iload_n 3, 1) := by decide +kernel
theorem dL_law_527 : decode cL_law 527 = .ok (.iconst 1, 1) := by decide +kernel
theorem dL_law_528 : decode cL_law 528 = .ok (.iadd, 1) := by decide +kernel
theorem dL_law_529 : decode cL_law 529 = .ok (.iaload, 1) := by decide +kernel
theorem dL_law_530 : decode cL_law 530 = .ok (.aload_n 0, 1) := by decide +kernel
theorem dL_law_531 : decode cL_law 531 = .ok (.iload_n 3, 1) := by decide +kernel
theorem dL_law_532 : decode cL_law 532 = .ok (.iconst 2, 1) := by decide +kernel
theorem dL_law_533 : decode cL_law 533 = .ok (.iadd, 1) := by decide +kernel
theorem dL_law_534 : decode cL_law 534 = .ok (.iaload, 1) := by decide +kernel
theorem dL_law_535 : decode cL_law 535 = .ok (.invokevirtual 72, 3) := by decide +kernel
theorem dL_law_538 : decode cL_law 538 = .ok (.aload_n 2, 1) := by decide +kernel
theorem dL_law_539 : decode cL_law 539 = .ok (.aload_n 0, 1) := by decide +kernel
theorem dL_law_540 : decode cL_law 540 = .ok (.iload_n 3, 1) := by decide +kernel
theorem dL_law_541 : decode cL_law 541 = .ok (.iconst 1, 1) := by decide +kernel
theorem dL_law_542 : decode cL_law 542 = .ok (.iadd, 1) := by decide +kernel
theorem dL_law_543 : decode cL_law 543 = .ok (.iaload, 1) := by decide +kernel
theorem dL_law_544 : decode cL_law 544 = .ok (.aload_n 0, 1) := by decide +kernel
theorem dL_law_545 : decode cL_law 545 = .ok (.iload_n 3, 1) := by decide +kernel
theorem dL_law_546 : decode cL_law 546 = .ok (.iconst 2, 1) := by decide +kernel
theorem dL_law_547 : decode cL_law 547 = .ok (.iadd, 1) := by decide +kernel
theorem dL_law_548 : decode cL_law 548 = .ok (.iaload, 1) := by decide +kernel
theorem dL_law_549 : decode cL_law 549 = .ok (.invokevirtual 75, 3) := by decide +kernel
theorem dL_law_552 : decode cL_law 552 = .ok (.if_icmp .eq 621, 3) := by decide +kernel
theorem dL_law_555 : decode cL_law 555 = .ok (.iconst 0, 1) := by decide +kernel
theorem dL_law_556 : decode cL_law 556 = .ok (.ireturn, 1) := by decide +kernel
theorem dL_law_557 : decode cL_law 557 = .ok (.aload_n 1, 1) := by decide +kernel
theorem dL_law_558 : decode cL_law 558 = .ok (.invokevirtual 76, 3) := by decide +kernel
theorem dL_law_561 : decode cL_law 561 = .ok (.aload_n 2, 1) := by decide +kernel
theorem dL_law_562 : decode cL_law 562 = .ok (.invokevirtual 79, 3) := by decide +kernel
theorem dL_law_565 : decode cL_law 565 = .ok (.if_icmp .eq 608, 3) := by decide +kernel
theorem dL_law_568 : decode cL_law 568 = .ok (.iconst 0, 1) := by decide +kernel
theorem dL_law_569 : decode cL_law 569 = .ok (.ireturn, 1) := by decide +kernel
theorem dL_law_570 : decode cL_law 570 = .ok (.aload_n 1, 1) := by decide +kernel
theorem dL_law_571 : decode cL_law 571 = .ok (.aload_n 0, 1) := by decide +kernel
theorem dL_law_572 : decode cL_law 572 = .ok (.iload_n 3, 1) := by decide +kernel
theorem dL_law_573 : decode cL_law 573 = .ok (.iconst 1, 1) := by decide +kernel
theorem dL_law_574 : decode cL_law 574 = .ok (.iadd, 1) := by decide +kernel
theorem dL_law_575 : decode cL_law 575 = .ok (.iaload, 1) := by decide +kernel
theorem dL_law_576 : decode cL_law 576 = .ok (.invokevirtual 80, 3) := by decide +kernel
theorem dL_law_579 : decode cL_law 579 = .ok (.aload_n 2, 1) := by decide +kernel
theorem dL_law_580 : decode cL_law 580 = .ok (.aload_n 0, 1) := by decide +kernel
theorem dL_law_581 : decode cL_law 581 = .ok (.iload_n 3, 1) := by decide +kernel
theorem dL_law_582 : decode cL_law 582 = .ok (.iconst 1, 1) := by decide +kernel
theorem dL_law_583 : decode cL_law 583 = .ok (.iadd, 1) := by decide +kernel
theorem dL_law_584 : decode cL_law 584 = .ok (.iaload, 1) := by decide +kernel
theorem dL_law_585 : decode cL_law 585 = .ok (.invokevirtual 83, 3) := by decide +kernel
theorem dL_law_588 : decode cL_law 588 = .ok (.if_icmp .eq 585, 3) := by decide +kernel
theorem dL_law_591 : decode cL_law 591 = .ok (.iconst 0, 1) := by decide +kernel
theorem dL_law_592 : decode cL_law 592 = .ok (.ireturn, 1) := by decide +kernel
theorem dL_law_593 : decode cL_law 593 = .ok (.aload_n 1, 1) := by decide +kernel
theorem dL_law_594 : decode cL_law 594 = .ok (.aload_n 0, 1) := by decide +kernel
theorem dL_law_595 : decode cL_law 595 = .ok (.iload_n 3, 1) := by decide +kernel
theorem dL_law_596 : decode cL_law 596 = .ok (.iconst 1, 1) := by decide +kernel
theorem dL_law_597 : decode cL_law 597 = .ok (.iadd, 1) := by decide +kernel
theorem dL_law_598 : decode cL_law 598 = .ok (.iaload, 1) := by decide +kernel
theorem dL_law_599 : decode cL_law 599 = .ok (.invokevirtual 84, 3) := by decide +kernel
theorem dL_law_602 : decode cL_law 602 = .ok (.aload_n 2, 1) := by decide +kernel
theorem dL_law_603 : decode cL_law 603 = .ok (.aload_n 0, 1) := by decide +kernel
theorem dL_law_604 : decode cL_law 604 = .ok (.iload_n 3, 1) := by decide +kernel
theorem dL_law_605 : decode cL_law 605 = .ok (.iconst 1, 1) := by decide +kernel
theorem dL_law_606 : decode cL_law 606 = .ok (.iadd, 1) := by decide +kernel
theorem dL_law_607 : decode cL_law 607 = .ok (.iaload, 1) := by decide +kernel
theorem dL_law_608 : decode cL_law 608 = .ok (.invokevirtual 87, 3) := by decide +kernel
theorem dL_law_611 : decode cL_law 611 = .ok (.if_icmp .eq 562, 3) := by decide +kernel
theorem dL_law_614 : decode cL_law 614 = .ok (.iconst 0, 1) := by decide +kernel
theorem dL_law_615 : decode cL_law 615 = .ok (.ireturn, 1) := by decide +kernel
theorem dL_law_616 : decode cL_law 616 = .ok (.aload_n 1, 1) := by decide +kernel
theorem dL_law_617 : decode cL_law 617 = .ok (.aload_n 0, 1) := by decide +kernel
theorem dL_law_618 : decode cL_law 618 = .ok (.iload_n 3, 1) := by decide +kernel
theorem dL_law_619 : decode cL_law 619 = .ok (.iconst 1, 1) := by decide +kernel
theorem dL_law_620 : decode cL_law 620 = .ok (.iadd, 1) := by decide +kernel
theorem dL_law_621 : decode cL_law 621 = .ok (.iaload, 1) := by decide +kernel
theorem dL_law_622 : decode cL_law 622 = .ok (.invokevirtual 88, 3) := by decide +kernel
theorem dL_law_625 : decode cL_law 625 = .ok (.aload_n 2, 1) := by decide +kernel
theorem dL_law_626 : decode cL_law 626 = .ok (.aload_n 0, 1) := by decide +kernel
theorem dL_law_627 : decode cL_law 627 = .ok (.iload_n 3, 1) := by decide +kernel
theorem dL_law_628 : decode cL_law 628 = .ok (.iconst 1, 1) := by decide +kernel
theorem dL_law_629 : decode cL_law 629 = .ok (.iadd, 1) := by decide +kernel
theorem dL_law_630 : decode cL_law 630 = .ok (.iaload, 1) := by decide +kernel
theorem dL_law_631 : decode cL_law 631 = .ok (.invokevirtual 91, 3) := by decide +kernel
theorem dL_law_634 : decode cL_law 634 = .ok (.if_icmp .eq 539, 3) := by decide +kernel
theorem dL_law_637 : decode cL_law 637 = .ok (.iconst 0, 1) := by decide +kernel
theorem dL_law_638 : decode cL_law 638 = .ok (.ireturn, 1) := by decide +kernel
theorem dL_law_639 : decode cL_law 639 = .ok (.aload_n 1, 1) := by decide +kernel
theorem dL_law_640 : decode cL_law 640 = .ok (.aload_n 0, 1) := by decide +kernel
theorem dL_law_641 : decode cL_law 641 = .ok (.iload_n 3, 1) := by decide +kernel
theorem dL_law_642 : decode cL_law 642 = .ok (.iconst 1, 1) := by decide +kernel
theorem dL_law_643 : decode cL_law 643 = .ok (.iadd, 1) := by decide +kernel
theorem dL_law_644 : decode cL_law 644 = .ok (.iaload, 1) := by decide +kernel
theorem dL_law_645 : decode cL_law 645 = .ok (.invokevirtual 92, 3) := by decide +kernel
theorem dL_law_648 : decode cL_law 648 = .ok (.aload_n 2, 1) := by decide +kernel
theorem dL_law_649 : decode cL_law 649 = .ok (.aload_n 0, 1) := by decide +kernel
theorem dL_law_650 : decode cL_law 650 = .ok (.iload_n 3, 1) := by decide +kernel
theorem dL_law_651 : decode cL_law 651 = .ok (.iconst 1, 1) := by decide +kernel
theorem dL_law_652 : decode cL_law 652 = .ok (.iadd, 1) := by decide +kernel
theorem dL_law_653 : decode cL_law 653 = .ok (.iaload, 1) := by decide +kernel
theorem dL_law_654 : decode cL_law 654 = .ok (.invokevirtual 95, 3) := by decide +kernel
theorem dL_law_657 : decode cL_law 657 = .ok (.if_icmp .eq 516, 3) := by decide +kernel
theorem dL_law_660 : decode cL_law 660 = .ok (.iconst 0, 1) := by decide +kernel
theorem dL_law_661 : decode cL_law 661 = .ok (.ireturn, 1) := by decide +kernel
theorem dL_law_662 : decode cL_law 662 = .ok (.aload_n 1, 1) := by decide +kernel
theorem dL_law_663 : decode cL_law 663 = .ok (.aload_n 0, 1) := by decide +kernel
theorem dL_law_664 : decode cL_law 664 = .ok (.iload_n 3, 1) := by decide +kernel
theorem dL_law_665 : decode cL_law 665 = .ok (.iconst 1, 1) := by decide +kernel
theorem dL_law_666 : decode cL_law 666 = .ok (.iadd, 1) := by decide +kernel
theorem dL_law_667 : decode cL_law 667 = .ok (.iaload, 1) := by decide +kernel
theorem dL_law_668 : decode cL_law 668 = .ok (.aload_n 0, 1) := by decide +kernel
theorem dL_law_669 : decode cL_law 669 = .ok (.iload_n 3, 1) := by decide +kernel
theorem dL_law_670 : decode cL_law 670 = .ok (.iconst 2, 1) := by decide +kernel
theorem dL_law_671 : decode cL_law 671 = .ok (.iadd, 1) := by decide +kernel
theorem dL_law_672 : decode cL_law 672 = .ok (.iaload, 1) := by decide +kernel
theorem dL_law_673 : decode cL_law 673 = .ok (.invokevirtual 96, 3) := by decide +kernel
theorem dL_law_676 : decode cL_law 676 = .ok (.aload_n 2, 1) := by decide +kernel
theorem dL_law_677 : decode cL_law 677 = .ok (.aload_n 0, 1) := by decide +kernel
theorem dL_law_678 : decode cL_law 678 = .ok (.iload_n 3, 1) := by decide +kernel
theorem dL_law_679 : decode cL_law 679 = .ok (.iconst 1, 1) := by decide +kernel
theorem dL_law_680 : decode cL_law 680 = .ok (.iadd, 1) := by decide +kernel
theorem dL_law_681 : decode cL_law 681 = .ok (.iaload, 1) := by decide +kernel
theorem dL_law_682 : decode cL_law 682 = .ok (.aload_n 0, 1) := by decide +kernel
theorem dL_law_683 : decode cL_law 683 = .ok (.iload_n 3, 1) := by decide +kernel
theorem dL_law_684 : decode cL_law 684 = .ok (.iconst 2, 1) := by decide +kernel
theorem dL_law_685 : decode cL_law 685 = .ok (.iadd, 1) := by decide +kernel
theorem dL_law_686 : decode cL_law 686 = .ok (.iaload, 1) := by decide +kernel
theorem dL_law_687 : decode cL_law 687 = .ok (.invokevirtual 99, 3) := by decide +kernel
theorem dL_law_690 : decode cL_law 690 = .ok (.if_icmp .eq 483, 3) := by decide +kernel
theorem dL_law_693 : decode cL_law 693 = .ok (.iconst 0, 1) := by decide +kernel
theorem dL_law_694 : decode cL_law 694 = .ok (.ireturn, 1) := by decide +kernel
theorem dL_law_695 : decode cL_law 695 = .ok (.aload_n 1, 1) := by decide +kernel
theorem dL_law_696 : decode cL_law 696 = .ok (.aload_n 0, 1) := by decide +kernel
theorem dL_law_697 : decode cL_law 697 = .ok (.iload_n 3, 1) := by decide +kernel
theorem dL_law_698 : decode cL_law 698 = .ok (.iconst 1, 1) := by decide +kernel
theorem dL_law_699 : decode cL_law 699 = .ok (.iadd, 1) := by decide +kernel
theorem dL_law_700 : decode cL_law 700 = .ok (.iaload, 1) := by decide +kernel
theorem dL_law_701 : decode cL_law 701 = .ok (.invokevirtual 100, 3) := by decide +kernel
theorem dL_law_704 : decode cL_law 704 = .ok (.aload_n 2, 1) := by decide +kernel
theorem dL_law_705 : decode cL_law 705 = .ok (.aload_n 0, 1) := by decide +kernel
theorem dL_law_706 : decode cL_law 706 = .ok (.iload_n 3, 1) := by decide +kernel
theorem dL_law_707 : decode cL_law 707 = .ok (.iconst 1, 1) := by decide +kernel
theorem dL_law_708 : decode cL_law 708 = .ok (.iadd, 1) := by decide +kernel
theorem dL_law_709 : decode cL_law 709 = .ok (.iaload, 1) := by decide +kernel
theorem dL_law_710 : decode cL_law 710 = .ok (.invokevirtual 103, 3) := by decide +kernel
theorem dL_law_713 : decode cL_law 713 = .ok (.if_icmp .eq 460, 3) := by decide +kernel
theorem dL_law_716 : decode cL_law 716 = .ok (.iconst 0, 1) := by decide +kernel
theorem dL_law_717 : decode cL_law 717 = .ok (.ireturn, 1) := by decide +kernel
theorem dL_law_718 : decode cL_law 718 = .ok (.aload_n 1, 1) := by decide +kernel
theorem dL_law_719 : decode cL_law 719 = .ok (.aload_n 0, 1) := by decide +kernel
theorem dL_law_720 : decode cL_law 720 = .ok (.iload_n 3, 1) := by decide +kernel
theorem dL_law_721 : decode cL_law 721 = .ok (.iconst 1, 1) := by decide +kernel
theorem dL_law_722 : decode cL_law 722 = .ok (.iadd, 1) := by decide +kernel
theorem dL_law_723 : decode cL_law 723 = .ok (.iaload, 1) := by decide +kernel
theorem dL_law_724 : decode cL_law 724 = .ok (.aload_n 0, 1) := by decide +kernel
theorem dL_law_725 : decode cL_law 725 = .ok (.iload_n 3, 1) := by decide +kernel
theorem dL_law_726 : decode cL_law 726 = .ok (.iconst 2, 1) := by decide +kernel
theorem dL_law_727 : decode cL_law 727 = .ok (.iadd, 1) := by decide +kernel
theorem dL_law_728 : decode cL_law 728 = .ok (.iaload, 1) := by decide +kernel
theorem dL_law_729 : decode cL_law 729 = .ok (.invokevirtual 104, 3) := by decide +kernel
theorem dL_law_732 : decode cL_law 732 = .ok (.aload_n 2, 1) := by decide +kernel
theorem dL_law_733 : decode cL_law 733 = .ok (.aload_n 0, 1) := by decide +kernel
theorem dL_law_734 : decode cL_law 734 = .ok (.iload_n 3, 1) := by decide +kernel
theorem dL_law_735 : decode cL_law 735 = .ok (.iconst 1, 1) := by decide +kernel
theorem dL_law_736 : decode cL_law 736 = .ok (.iadd, 1) := by decide +kernel
theorem dL_law_737 : decode cL_law 737 = .ok (.iaload, 1) := by decide +kernel
theorem dL_law_738 : decode cL_law 738 = .ok (.aload_n 0, 1) := by decide +kernel
theorem dL_law_739 : decode cL_law 739 = .ok (.iload_n 3, 1) := by decide +kernel
theorem dL_law_740 : decode cL_law 740 = .ok (.iconst 2, 1) := by decide +kernel
theorem dL_law_741 : decode cL_law 741 = .ok (.iadd, 1) := by decide +kernel
theorem dL_law_742 : decode cL_law 742 = .ok (.iaload, 1) := by decide +kernel
theorem dL_law_743 : decode cL_law 743 = .ok (.invokevirtual 108, 3) := by decide +kernel
theorem dL_law_746 : decode cL_law 746 = .ok (.lcmp, 1) := by decide +kernel
theorem dL_law_747 : decode cL_law 747 = .ok (.ifCond .eq 426, 3) := by decide +kernel
theorem dL_law_750 : decode cL_law 750 = .ok (.iconst 0, 1) := by decide +kernel
theorem dL_law_751 : decode cL_law 751 = .ok (.ireturn, 1) := by decide +kernel
theorem dL_law_752 : decode cL_law 752 = .ok (.aload_n 1, 1) := by decide +kernel
theorem dL_law_753 : decode cL_law 753 = .ok (.aload_n 0, 1) := by decide +kernel
theorem dL_law_754 : decode cL_law 754 = .ok (.iload_n 3, 1) := by decide +kernel
theorem dL_law_755 : decode cL_law 755 = .ok (.iconst 1, 1) := by decide +kernel
theorem dL_law_756 : decode cL_law 756 = .ok (.iadd, 1) := by decide +kernel
theorem dL_law_757 : decode cL_law 757 = .ok (.iaload, 1) := by decide +kernel
theorem dL_law_758 : decode cL_law 758 = .ok (.invokevirtual 109, 3) := by decide +kernel
theorem dL_law_761 : decode cL_law 761 = .ok (.aload_n 2, 1) := by decide +kernel
theorem dL_law_762 : decode cL_law 762 = .ok (.aload_n 0, 1) := by decide +kernel
theorem dL_law_763 : decode cL_law 763 = .ok (.iload_n 3, 1) := by decide +kernel
theorem dL_law_764 : decode cL_law 764 = .ok (.iconst 1, 1) := by decide +kernel
theorem dL_law_765 : decode cL_law 765 = .ok (.iadd, 1) := by decide +kernel
theorem dL_law_766 : decode cL_law 766 = .ok (.iaload, 1) := by decide +kernel
theorem dL_law_767 : decode cL_law 767 = .ok (.invokevirtual 113, 3) := by decide +kernel
theorem dL_law_770 : decode cL_law 770 = .ok (.lcmp, 1) := by decide +kernel
theorem dL_law_771 : decode cL_law 771 = .ok (.ifCond .eq 402, 3) := by decide +kernel
theorem dL_law_774 : decode cL_law 774 = .ok (.iconst 0, 1) := by decide +kernel
theorem dL_law_775 : decode cL_law 775 = .ok (.ireturn, 1) := by decide +kernel
theorem dL_law_776 : decode cL_law 776 = .ok (.aload_n 1, 1) := by decide +kernel
theorem dL_law_777 : decode cL_law 777 = .ok (.aload_n 0, 1) := by decide +kernel
theorem dL_law_778 : decode cL_law 778 = .ok (.iload_n 3, 1) := by decide +kernel
theorem dL_law_779 : decode cL_law 779 = .ok (.iconst 1, 1) := by decide +kernel
theorem dL_law_780 : decode cL_law 780 = .ok (.iadd, 1) := by decide +kernel
theorem dL_law_781 : decode cL_law 781 = .ok (.iaload, 1) := by decide +kernel
theorem dL_law_782 : decode cL_law 782 = .ok (.aload_n 0, 1) := by decide +kernel
theorem dL_law_783 : decode cL_law 783 = .ok (.iload_n 3, 1) := by decide +kernel
theorem dL_law_784 : decode cL_law 784 = .ok (.iconst 2, 1) := by decide +kernel
theorem dL_law_785 : decode cL_law 785 = .ok (.iadd, 1) := by decide +kernel
theorem dL_law_786 : decode cL_law 786 = .ok (.iaload, 1) := by decide +kernel
theorem dL_law_787 : decode cL_law 787 = .ok (.invokevirtual 114, 3) := by decide +kernel
theorem dL_law_790 : decode cL_law 790 = .ok (.aload_n 2, 1) := by decide +kernel
theorem dL_law_791 : decode cL_law 791 = .ok (.aload_n 0, 1) := by decide +kernel
theorem dL_law_792 : decode cL_law 792 = .ok (.iload_n 3, 1) := by decide +kernel
theorem dL_law_793 : decode cL_law 793 = .ok (.iconst 1, 1) := by decide +kernel
theorem dL_law_794 : decode cL_law 794 = .ok (.iadd, 1) := by decide +kernel
theorem dL_law_795 : decode cL_law 795 = .ok (.iaload, 1) := by decide +kernel
theorem dL_law_796 : decode cL_law 796 = .ok (.aload_n 0, 1) := by decide +kernel
theorem dL_law_797 : decode cL_law 797 = .ok (.iload_n 3, 1) := by decide +kernel
theorem dL_law_798 : decode cL_law 798 = .ok (.iconst 2, 1) := by decide +kernel
theorem dL_law_799 : decode cL_law 799 = .ok (.iadd, 1) := by decide +kernel
theorem dL_law_800 : decode cL_law 800 = .ok (.iaload, 1) := by decide +kernel
theorem dL_law_801 : decode cL_law 801 = .ok (.invokevirtual 117, 3) := by decide +kernel
theorem dL_law_804 : decode cL_law 804 = .ok (.if_icmp .eq 369, 3) := by decide +kernel
theorem dL_law_807 : decode cL_law 807 = .ok (.iconst 0, 1) := by decide +kernel
theorem dL_law_808 : decode cL_law 808 = .ok (.ireturn, 1) := by decide +kernel
theorem dL_law_809 : decode cL_law 809 = .ok (.aload_n 1, 1) := by decide +kernel
theorem dL_law_810 : decode cL_law 810 = .ok (.aload_n 0, 1) := by decide +kernel
theorem dL_law_811 : decode cL_law 811 = .ok (.iload_n 3, 1) := by decide +kernel
theorem dL_law_812 : decode cL_law 812 = .ok (.iconst 1, 1) := by decide +kernel
theorem dL_law_813 : decode cL_law 813 = .ok (.iadd, 1) := by decide +kernel
theorem dL_law_814 : decode cL_law 814 = .ok (.iaload, 1) := by decide +kernel
theorem dL_law_815 : decode cL_law 815 = .ok (.invokevirtual 118, 3) := by decide +kernel
theorem dL_law_818 : decode cL_law 818 = .ok (.aload_n 2, 1) := by decide +kernel
theorem dL_law_819 : decode cL_law 819 = .ok (.aload_n 0, 1) := by decide +kernel
theorem dL_law_820 : decode cL_law 820 = .ok (.iload_n 3, 1) := by decide +kernel
theorem dL_law_821 : decode cL_law 821 = .ok (.iconst 1, 1) := by decide +kernel
theorem dL_law_822 : decode cL_law 822 = .ok (.iadd, 1) := by decide +kernel
theorem dL_law_823 : decode cL_law 823 = .ok (.iaload, 1) := by decide +kernel
theorem dL_law_824 : decode cL_law 824 = .ok (.invokevirtual 121, 3) := by decide +kernel
theorem dL_law_827 : decode cL_law 827 = .ok (.if_icmp .eq 346, 3) := by decide +kernel
theorem dL_law_830 : decode cL_law 830 = .ok (.iconst 0, 1) := by decide +kernel
theorem dL_law_831 : decode cL_law 831 = .ok (.ireturn, 1) := by decide +kernel
theorem dL_law_832 : decode cL_law 832 = .ok (.aload_n 1, 1) := by decide +kernel
theorem dL_law_833 : decode cL_law 833 = .ok (.aload_n 0, 1) := by decide +kernel
theorem dL_law_834 : decode cL_law 834 = .ok (.iload_n 3, 1) := by decide +kernel
theorem dL_law_835 : decode cL_law 835 = .ok (.iconst 1, 1) := by decide +kernel
theorem dL_law_836 : decode cL_law 836 = .ok (.iadd, 1) := by decide +kernel
theorem dL_law_837 : decode cL_law 837 = .ok (.iaload, 1) := by decide +kernel
theorem dL_law_838 : decode cL_law 838 = .ok (.aload_n 0, 1) := by decide +kernel
theorem dL_law_839 : decode cL_law 839 = .ok (.iload_n 3, 1) := by decide +kernel
theorem dL_law_840 : decode cL_law 840 = .ok (.iconst 2, 1) := by decide +kernel
theorem dL_law_841 : decode cL_law 841 = .ok (.iadd, 1) := by decide +kernel
theorem dL_law_842 : decode cL_law 842 = .ok (.iaload, 1) := by decide +kernel
theorem dL_law_843 : decode cL_law 843 = .ok (.invokevirtual 122, 3) := by decide +kernel
theorem dL_law_846 : decode cL_law 846 = .ok (.aload_n 2, 1) := by decide +kernel
theorem dL_law_847 : decode cL_law 847 = .ok (.aload_n 0, 1) := by decide +kernel
theorem dL_law_848 : decode cL_law 848 = .ok (.iload_n 3, 1) := by decide +kernel
theorem dL_law_849 : decode cL_law 849 = .ok (.iconst 1, 1) := by decide +kernel
theorem dL_law_850 : decode cL_law 850 = .ok (.iadd, 1) := by decide +kernel
theorem dL_law_851 : decode cL_law 851 = .ok (.iaload, 1) := by decide +kernel
theorem dL_law_852 : decode cL_law 852 = .ok (.aload_n 0, 1) := by decide +kernel
theorem dL_law_853 : decode cL_law 853 = .ok (.iload_n 3, 1) := by decide +kernel
theorem dL_law_854 : decode cL_law 854 = .ok (.iconst 2, 1) := by decide +kernel
theorem dL_law_855 : decode cL_law 855 = .ok (.iadd, 1) := by decide +kernel
theorem dL_law_856 : decode cL_law 856 = .ok (.iaload, 1) := by decide +kernel
theorem dL_law_857 : decode cL_law 857 = .ok (.invokevirtual 125, 3) := by decide +kernel
theorem dL_law_860 : decode cL_law 860 = .ok (.if_icmp .eq 313, 3) := by decide +kernel
theorem dL_law_863 : decode cL_law 863 = .ok (.iconst 0, 1) := by decide +kernel
theorem dL_law_864 : decode cL_law 864 = .ok (.ireturn, 1) := by decide +kernel
theorem dL_law_865 : decode cL_law 865 = .ok (.aload_n 1, 1) := by decide +kernel
theorem dL_law_866 : decode cL_law 866 = .ok (.invokevirtual 126, 3) := by decide +kernel
theorem dL_law_869 : decode cL_law 869 = .ok (.aload_n 2, 1) := by decide +kernel
theorem dL_law_870 : decode cL_law 870 = .ok (.invokevirtual 129, 3) := by decide +kernel
theorem dL_law_873 : decode cL_law 873 = .ok (.if_icmp .eq 300, 3) := by decide +kernel
theorem dL_law_876 : decode cL_law 876 = .ok (.iconst 0, 1) := by decide +kernel
theorem dL_law_877 : decode cL_law 877 = .ok (.ireturn, 1) := by decide +kernel
theorem dL_law_878 : decode cL_law 878 = .ok (.aload_n 1, 1) := by decide +kernel
theorem dL_law_879 : decode cL_law 879 = .ok (.aload_n 0, 1) := by decide +kernel
theorem dL_law_880 : decode cL_law 880 = .ok (.iload_n 3, 1) := by decide +kernel
theorem dL_law_881 : decode cL_law 881 = .ok (.iconst 1, 1) := by decide +kernel
theorem dL_law_882 : decode cL_law 882 = .ok (.iadd, 1) := by decide +kernel
theorem dL_law_883 : decode cL_law 883 = .ok (.iaload, 1) := by decide +kernel
theorem dL_law_884 : decode cL_law 884 = .ok (.aload_n 0, 1) := by decide +kernel
theorem dL_law_885 : decode cL_law 885 = .ok (.iload_n 3, 1) := by decide +kernel
theorem dL_law_886 : decode cL_law 886 = .ok (.iconst 2, 1) := by decide +kernel
theorem dL_law_887 : decode cL_law 887 = .ok (.iadd, 1) := by decide +kernel
theorem dL_law_888 : decode cL_law 888 = .ok (.iaload, 1) := by decide +kernel
theorem dL_law_889 : decode cL_law 889 = .ok (.invokevirtual 130, 3) := by decide +kernel
theorem dL_law_892 : decode cL_law 892 = .ok (.aload_n 2, 1) := by decide +kernel
theorem dL_law_893 : decode cL_law 893 = .ok (.aload_n 0, 1) := by decide +kernel
theorem dL_law_894 : decode cL_law 894 = .ok (.iload_n 3, 1) := by decide +kernel
theorem dL_law_895 : decode cL_law 895 = .ok (.iconst 1, 1) := by decide +kernel
theorem dL_law_896 : decode cL_law 896 = .ok (.iadd, 1) := by decide +kernel
theorem dL_law_897 : decode cL_law 897 = .ok (.iaload, 1) := by decide +kernel
theorem dL_law_898 : decode cL_law 898 = .ok (.aload_n 0, 1) := by decide +kernel
theorem dL_law_899 : decode cL_law 899 = .ok (.iload_n 3, 1) := by decide +kernel
theorem dL_law_900 : decode cL_law 900 = .ok (.iconst 2, 1) := by decide +kernel
theorem dL_law_901 : decode cL_law 901 = .ok (.iadd, 1) := by decide +kernel
theorem dL_law_902 : decode cL_law 902 = .ok (.iaload, 1) := by decide +kernel
theorem dL_law_903 : decode cL_law 903 = .ok (.invokevirtual 133, 3) := by decide +kernel
theorem dL_law_906 : decode cL_law 906 = .ok (.if_icmp .eq 267, 3) := by decide +kernel
theorem dL_law_909 : decode cL_law 909 = .ok (.iconst 0, 1) := by decide +kernel
theorem dL_law_910 : decode cL_law 910 = .ok (.ireturn, 1) := by decide +kernel
theorem dL_law_911 : decode cL_law 911 = .ok (.aload_n 1, 1) := by decide +kernel
theorem dL_law_912 : decode cL_law 912 = .ok (.invokevirtual 134, 3) := by decide +kernel
theorem dL_law_915 : decode cL_law 915 = .ok (.aload_n 2, 1) := by decide +kernel
theorem dL_law_916 : decode cL_law 916 = .ok (.invokevirtual 137, 3) := by decide +kernel
theorem dL_law_919 : decode cL_law 919 = .ok (.if_icmp .eq 254, 3) := by decide +kernel
theorem dL_law_922 : decode cL_law 922 = .ok (.iconst 0, 1) := by decide +kernel
theorem dL_law_923 : decode cL_law 923 = .ok (.ireturn, 1) := by decide +kernel
theorem dL_law_924 : decode cL_law 924 = .ok (.aload_n 1, 1) := by decide +kernel
theorem dL_law_925 : decode cL_law 925 = .ok (.invokevirtual 138, 3) := by decide +kernel
theorem dL_law_928 : decode cL_law 928 = .ok (.aload_n 2, 1) := by decide +kernel
theorem dL_law_929 : decode cL_law 929 = .ok (.invokevirtual 141, 3) := by decide +kernel
theorem dL_law_932 : decode cL_law 932 = .ok (.if_icmp .eq 241, 3) := by decide +kernel
theorem dL_law_935 : decode cL_law 935 = .ok (.iconst 0, 1) := by decide +kernel
theorem dL_law_936 : decode cL_law 936 = .ok (.ireturn, 1) := by decide +kernel
theorem dL_law_937 : decode cL_law 937 = .ok (.aload_n 1, 1) := by decide +kernel
theorem dL_law_938 : decode cL_law 938 = .ok (.aload_n 0, 1) := by decide +kernel
theorem dL_law_939 : decode cL_law 939 = .ok (.iload_n 3, 1) := by decide +kernel
theorem dL_law_940 : decode cL_law 940 = .ok (.iconst 1, 1) := by decide +kernel
theorem dL_law_941 : decode cL_law 941 = .ok (.iadd, 1) := by decide +kernel
theorem dL_law_942 : decode cL_law 942 = .ok (.iaload, 1) := by decide +kernel
theorem dL_law_943 : decode cL_law 943 = .ok (.invokevirtual 142, 3) := by decide +kernel
theorem dL_law_946 : decode cL_law 946 = .ok (.aload_n 2, 1) := by decide +kernel
theorem dL_law_947 : decode cL_law 947 = .ok (.aload_n 0, 1) := by decide +kernel
theorem dL_law_948 : decode cL_law 948 = .ok (.iload_n 3, 1) := by decide +kernel
theorem dL_law_949 : decode cL_law 949 = .ok (.iconst 1, 1) := by decide +kernel
theorem dL_law_950 : decode cL_law 950 = .ok (.iadd, 1) := by decide +kernel
theorem dL_law_951 : decode cL_law 951 = .ok (.iaload, 1) := by decide +kernel
theorem dL_law_952 : decode cL_law 952 = .ok (.invokevirtual 145, 3) := by decide +kernel
theorem dL_law_955 : decode cL_law 955 = .ok (.if_icmp .eq 218, 3) := by decide +kernel
theorem dL_law_958 : decode cL_law 958 = .ok (.iconst 0, 1) := by decide +kernel
theorem dL_law_959 : decode cL_law 959 = .ok (.ireturn, 1) := by decide +kernel
theorem dL_law_960 : decode cL_law 960 = .ok (.aload_n 1, 1) := by decide +kernel
theorem dL_law_961 : decode cL_law 961 = .ok (.aload_n 0, 1) := by decide +kernel
theorem dL_law_962 : decode cL_law 962 = .ok (.iload_n 3, 1) := by decide +kernel
theorem dL_law_963 : decode cL_law 963 = .ok (.iconst 1, 1) := by decide +kernel
theorem dL_law_964 : decode cL_law 964 = .ok (.iadd, 1) := by decide +kernel
theorem dL_law_965 : decode cL_law 965 = .ok (.iaload, 1) := by decide +kernel
theorem dL_law_966 : decode cL_law 966 = .ok (.aload_n 0, 1) := by decide +kernel
theorem dL_law_967 : decode cL_law 967 = .ok (.iload_n 3, 1) := by decide +kernel
theorem dL_law_968 : decode cL_law 968 = .ok (.iconst 2, 1) := by decide +kernel
theorem dL_law_969 : decode cL_law 969 = .ok (.iadd, 1) := by decide +kernel
theorem dL_law_970 : decode cL_law 970 = .ok (.iaload, 1) := by decide +kernel
theorem dL_law_971 : decode cL_law 971 = .ok (.aload_n 0, 1) := by decide +kernel
theorem dL_law_972 : decode cL_law 972 = .ok (.iload_n 3, 1) := by decide +kernel
theorem dL_law_973 : decode cL_law 973 = .ok (.iconst 3, 1) := by decide +kernel
theorem dL_law_974 : decode cL_law 974 = .ok (.iadd, 1) := by decide +kernel
theorem dL_law_975 : decode cL_law 975 = .ok (.iaload, 1) := by decide +kernel
theorem dL_law_976 : decode cL_law 976 = .ok (.invokevirtual 146, 3) := by decide +kernel
theorem dL_law_979 : decode cL_law 979 = .ok (.aload_n 2, 1) := by decide +kernel
theorem dL_law_980 : decode cL_law 980 = .ok (.aload_n 0, 1) := by decide +kernel
theorem dL_law_981 : decode cL_law 981 = .ok (.iload_n 3, 1) := by decide +kernel
theorem dL_law_982 : decode cL_law 982 = .ok (.iconst 1, 1) := by decide +kernel
theorem dL_law_983 : decode cL_law 983 = .ok (.iadd, 1) := by decide +kernel
theorem dL_law_984 : decode cL_law 984 = .ok (.iaload, 1) := by decide +kernel
theorem dL_law_985 : decode cL_law 985 = .ok (.aload_n 0, 1) := by decide +kernel
theorem dL_law_986 : decode cL_law 986 = .ok (.iload_n 3, 1) := by decide +kernel
theorem dL_law_987 : decode cL_law 987 = .ok (.iconst 2, 1) := by decide +kernel
theorem dL_law_988 : decode cL_law 988 = .ok (.iadd, 1) := by decide +kernel
theorem dL_law_989 : decode cL_law 989 = .ok (.iaload, 1) := by decide +kernel
theorem dL_law_990 : decode cL_law 990 = .ok (.aload_n 0, 1) := by decide +kernel
theorem dL_law_991 : decode cL_law 991 = .ok (.iload_n 3, 1) := by decide +kernel
theorem dL_law_992 : decode cL_law 992 = .ok (.iconst 3, 1) := by decide +kernel
theorem dL_law_993 : decode cL_law 993 = .ok (.iadd, 1) := by decide +kernel
theorem dL_law_994 : decode cL_law 994 = .ok (.iaload, 1) := by decide +kernel
theorem dL_law_995 : decode cL_law 995 = .ok (.invokevirtual 150, 3) := by decide +kernel
theorem dL_law_998 : decode cL_law 998 = .ok (.if_icmp .eq 175, 3) := by decide +kernel
theorem dL_law_1001 : decode cL_law 1001 = .ok (.iconst 0, 1) := by decide +kernel
theorem dL_law_1002 : decode cL_law 1002 = .ok (.ireturn, 1) := by decide +kernel
theorem dL_law_1003 : decode cL_law 1003 = .ok (.aload_n 1, 1) := by decide +kernel
theorem dL_law_1004 : decode cL_law 1004 = .ok (.aload_n 0, 1) := by decide +kernel
theorem dL_law_1005 : decode cL_law 1005 = .ok (.iload_n 3, 1) := by decide +kernel
theorem dL_law_1006 : decode cL_law 1006 = .ok (.iconst 1, 1) := by decide +kernel
theorem dL_law_1007 : decode cL_law 1007 = .ok (.iadd, 1) := by decide +kernel
theorem dL_law_1008 : decode cL_law 1008 = .ok (.iaload, 1) := by decide +kernel
theorem dL_law_1009 : decode cL_law 1009 = .ok (.aload_n 0, 1) := by decide +kernel
theorem dL_law_1010 : decode cL_law 1010 = .ok (.iload_n 3, 1) := by decide +kernel
theorem dL_law_1011 : decode cL_law 1011 = .ok (.iconst 2, 1) := by decide +kernel
theorem dL_law_1012 : decode cL_law 1012 = .ok (.iadd, 1) := by decide +kernel
theorem dL_law_1013 : decode cL_law 1013 = .ok (.iaload, 1) := by decide +kernel
theorem dL_law_1014 : decode cL_law 1014 = .ok (.aload_n 0, 1) := by decide +kernel
theorem dL_law_1015 : decode cL_law 1015 = .ok (.iload_n 3, 1) := by decide +kernel
theorem dL_law_1016 : decode cL_law 1016 = .ok (.iconst 3, 1) := by decide +kernel
theorem dL_law_1017 : decode cL_law 1017 = .ok (.iadd, 1) := by decide +kernel
theorem dL_law_1018 : decode cL_law 1018 = .ok (.iaload, 1) := by decide +kernel
theorem dL_law_1019 : decode cL_law 1019 = .ok (.i2l, 1) := by decide +kernel
theorem dL_law_1020 : decode cL_law 1020 = .ok (.bipush 32, 2) := by decide +kernel
theorem dL_law_1022 : decode cL_law 1022 = .ok (.lshl, 1) := by decide +kernel
theorem dL_law_1023 : decode cL_law 1023 = .ok (.aload_n 0, 1) := by decide +kernel
theorem dL_law_1024 : decode cL_law 1024 = .ok (.iload_n 3, 1) := by decide +kernel
theorem dL_law_1025 : decode cL_law 1025 = .ok (.iconst 4, 1) := by decide +kernel
theorem dL_law_1026 : decode cL_law 1026 = .ok (.iadd, 1) := by decide +kernel
theorem dL_law_1027 : decode cL_law 1027 = .ok (.iaload, 1) := by decide +kernel
theorem dL_law_1028 : decode cL_law 1028 = .ok (.i2l, 1) := by decide +kernel
theorem dL_law_1029 : decode cL_law 1029 = .ok (.ldc2_w 151, 3) := by decide +kernel
theorem dL_law_1032 : decode cL_law 1032 = .ok (.land, 1) := by decide +kernel
theorem dL_law_1033 : decode cL_law 1033 = .ok (.lor, 1) := by decide +kernel
theorem dL_law_1034 : decode cL_law 1034 = .ok (.invokevirtual 153, 3) := by decide +kernel
theorem dL_law_1037 : decode cL_law 1037 = .ok (.aload_n 2, 1) := by decide +kernel
theorem dL_law_1038 : decode cL_law 1038 = .ok (.aload_n 0, 1) := by decide +kernel
theorem dL_law_1039 : decode cL_law 1039 = .ok (.iload_n 3, 1) := by decide +kernel
theorem dL_law_1040 : decode cL_law 1040 = .ok (.iconst 1, 1) := by decide +kernel
theorem dL_law_1041 : decode cL_law 1041 = .ok (.iadd, 1) := by decide +kernel
theorem dL_law_1042 : decode cL_law 1042 = .ok (.iaload, 1) := by decide +kernel
theorem dL_law_1043 : decode cL_law 1043 = .ok (.aload_n 0, 1) := by decide +kernel
theorem dL_law_1044 : decode cL_law 1044 = .ok (.iload_n 3, 1) := by decide +kernel
theorem dL_law_1045 : decode cL_law 1045 = .ok (.iconst 2, 1) := by decide +kernel
theorem dL_law_1046 : decode cL_law 1046 = .ok (.iadd, 1) := by decide +kernel
theorem dL_law_1047 : decode cL_law 1047 = .ok (.iaload, 1) := by decide +kernel
theorem dL_law_1048 : decode cL_law 1048 = .ok (.aload_n 0, 1) := by decide +kernel
theorem dL_law_1049 : decode cL_law 1049 = .ok (.iload_n 3, 1) := by decide +kernel
theorem dL_law_1050 : decode cL_law 1050 = .ok (.iconst 3, 1) := by decide +kernel
theorem dL_law_1051 : decode cL_law 1051 = .ok (.iadd, 1) := by decide +kernel
theorem dL_law_1052 : decode cL_law 1052 = .ok (.iaload, 1) := by decide +kernel
theorem dL_law_1053 : decode cL_law 1053 = .ok (.i2l, 1) := by decide +kernel
theorem dL_law_1054 : decode cL_law 1054 = .ok (.bipush 32, 2) := by decide +kernel
theorem dL_law_1056 : decode cL_law 1056 = .ok (.lshl, 1) := by decide +kernel
theorem dL_law_1057 : decode cL_law 1057 = .ok (.aload_n 0, 1) := by decide +kernel
theorem dL_law_1058 : decode cL_law 1058 = .ok (.iload_n 3, 1) := by decide +kernel
theorem dL_law_1059 : decode cL_law 1059 = .ok (.iconst 4, 1) := by decide +kernel
theorem dL_law_1060 : decode cL_law 1060 = .ok (.iadd, 1) := by decide +kernel
theorem dL_law_1061 : decode cL_law 1061 = .ok (.iaload, 1) := by decide +kernel
theorem dL_law_1062 : decode cL_law 1062 = .ok (.i2l, 1) := by decide +kernel
theorem dL_law_1063 : decode cL_law 1063 = .ok (.ldc2_w 151, 3) := by decide +kernel
theorem dL_law_1066 : decode cL_law 1066 = .ok (.land, 1) := by decide +kernel
theorem dL_law_1067 : decode cL_law 1067 = .ok (.lor, 1) := by decide +kernel
theorem dL_law_1068 : decode cL_law 1068 = .ok (.invokevirtual 157, 3) := by decide +kernel
theorem dL_law_1071 : decode cL_law 1071 = .ok (.if_icmp .eq 102, 3) := by decide +kernel
theorem dL_law_1074 : decode cL_law 1074 = .ok (.iconst 0, 1) := by decide +kernel
theorem dL_law_1075 : decode cL_law 1075 = .ok (.ireturn, 1) := by decide +kernel
theorem dL_law_1076 : decode cL_law 1076 = .ok (.aload_n 1, 1) := by decide +kernel
theorem dL_law_1077 : decode cL_law 1077 = .ok (.aload_n 0, 1) := by decide +kernel
theorem dL_law_1078 : decode cL_law 1078 = .ok (.iload_n 3, 1) := by decide +kernel
theorem dL_law_1079 : decode cL_law 1079 = .ok (.iconst 1, 1) := by decide +kernel
theorem dL_law_1080 : decode cL_law 1080 = .ok (.iadd, 1) := by decide +kernel
theorem dL_law_1081 : decode cL_law 1081 = .ok (.iaload, 1) := by decide +kernel
theorem dL_law_1082 : decode cL_law 1082 = .ok (.aload_n 0, 1) := by decide +kernel
theorem dL_law_1083 : decode cL_law 1083 = .ok (.iload_n 3, 1) := by decide +kernel
theorem dL_law_1084 : decode cL_law 1084 = .ok (.iconst 2, 1) := by decide +kernel
theorem dL_law_1085 : decode cL_law 1085 = .ok (.iadd, 1) := by decide +kernel
theorem dL_law_1086 : decode cL_law 1086 = .ok (.iaload, 1) := by decide +kernel
theorem dL_law_1087 : decode cL_law 1087 = .ok (.invokevirtual 158, 3) := by decide +kernel
theorem dL_law_1090 : decode cL_law 1090 = .ok (.aload_n 2, 1) := by decide +kernel
theorem dL_law_1091 : decode cL_law 1091 = .ok (.aload_n 0, 1) := by decide +kernel
theorem dL_law_1092 : decode cL_law 1092 = .ok (.iload_n 3, 1) := by decide +kernel
theorem dL_law_1093 : decode cL_law 1093 = .ok (.iconst 1, 1) := by decide +kernel
theorem dL_law_1094 : decode cL_law 1094 = .ok (.iadd, 1) := by decide +kernel
theorem dL_law_1095 : decode cL_law 1095 = .ok (.iaload, 1) := by decide +kernel
theorem dL_law_1096 : decode cL_law 1096 = .ok (.aload_n 0, 1) := by decide +kernel
theorem dL_law_1097 : decode cL_law 1097 = .ok (.iload_n 3, 1) := by decide +kernel
theorem dL_law_1098 : decode cL_law 1098 = .ok (.iconst 2, 1) := by decide +kernel
theorem dL_law_1099 : decode cL_law 1099 = .ok (.iadd, 1) := by decide +kernel
theorem dL_law_1100 : decode cL_law 1100 = .ok (.iaload, 1) := by decide +kernel
theorem dL_law_1101 : decode cL_law 1101 = .ok (.invokevirtual 161, 3) := by decide +kernel
theorem dL_law_1104 : decode cL_law 1104 = .ok (.lcmp, 1) := by decide +kernel
theorem dL_law_1105 : decode cL_law 1105 = .ok (.ifCond .eq 68, 3) := by decide +kernel
theorem dL_law_1108 : decode cL_law 1108 = .ok (.iconst 0, 1) := by decide +kernel
theorem dL_law_1109 : decode cL_law 1109 = .ok (.ireturn, 1) := by decide +kernel
theorem dL_law_1110 : decode cL_law 1110 = .ok (.aload_n 1, 1) := by decide +kernel
theorem dL_law_1111 : decode cL_law 1111 = .ok (.aload_n 0, 1) := by decide +kernel
theorem dL_law_1112 : decode cL_law 1112 = .ok (.iload_n 3, 1) := by decide +kernel
theorem dL_law_1113 : decode cL_law 1113 = .ok (.iconst 1, 1) := by decide +kernel
theorem dL_law_1114 : decode cL_law 1114 = .ok (.iadd, 1) := by decide +kernel
theorem dL_law_1115 : decode cL_law 1115 = .ok (.iaload, 1) := by decide +kernel
theorem dL_law_1116 : decode cL_law 1116 = .ok (.aload_n 0, 1) := by decide +kernel
theorem dL_law_1117 : decode cL_law 1117 = .ok (.iload_n 3, 1) := by decide +kernel
theorem dL_law_1118 : decode cL_law 1118 = .ok (.iconst 2, 1) := by decide +kernel
theorem dL_law_1119 : decode cL_law 1119 = .ok (.iadd, 1) := by decide +kernel
theorem dL_law_1120 : decode cL_law 1120 = .ok (.iaload, 1) := by decide +kernel
theorem dL_law_1121 : decode cL_law 1121 = .ok (.aload_n 0, 1) := by decide +kernel
theorem dL_law_1122 : decode cL_law 1122 = .ok (.iload_n 3, 1) := by decide +kernel
theorem dL_law_1123 : decode cL_law 1123 = .ok (.iconst 3, 1) := by decide +kernel
theorem dL_law_1124 : decode cL_law 1124 = .ok (.iadd, 1) := by decide +kernel
theorem dL_law_1125 : decode cL_law 1125 = .ok (.iaload, 1) := by decide +kernel
theorem dL_law_1126 : decode cL_law 1126 = .ok (.aload_n 0, 1) := by decide +kernel
theorem dL_law_1127 : decode cL_law 1127 = .ok (.iload_n 3, 1) := by decide +kernel
theorem dL_law_1128 : decode cL_law 1128 = .ok (.iconst 4, 1) := by decide +kernel
theorem dL_law_1129 : decode cL_law 1129 = .ok (.iadd, 1) := by decide +kernel
theorem dL_law_1130 : decode cL_law 1130 = .ok (.iaload, 1) := by decide +kernel
theorem dL_law_1131 : decode cL_law 1131 = .ok (.aload_n 0, 1) := by decide +kernel
theorem dL_law_1132 : decode cL_law 1132 = .ok (.iload_n 3, 1) := by decide +kernel
theorem dL_law_1133 : decode cL_law 1133 = .ok (.iconst 5, 1) := by decide +kernel
theorem dL_law_1134 : decode cL_law 1134 = .ok (.iadd, 1) := by decide +kernel
theorem dL_law_1135 : decode cL_law 1135 = .ok (.iaload, 1) := by decide +kernel
theorem dL_law_1136 : decode cL_law 1136 = .ok (.invokevirtual 162, 3) := by decide +kernel
theorem dL_law_1139 : decode cL_law 1139 = .ok (.aload_n 2, 1) := by decide +kernel
theorem dL_law_1140 : decode cL_law 1140 = .ok (.aload_n 0, 1) := by decide +kernel
theorem dL_law_1141 : decode cL_law 1141 = .ok (.iload_n 3, 1) := by decide +kernel
theorem dL_law_1142 : decode cL_law 1142 = .ok (.iconst 1, 1) := by decide +kernel
theorem dL_law_1143 : decode cL_law 1143 = .ok (.iadd, 1) := by decide +kernel
theorem dL_law_1144 : decode cL_law 1144 = .ok (.iaload, 1) := by decide +kernel
theorem dL_law_1145 : decode cL_law 1145 = .ok (.aload_n 0, 1) := by decide +kernel
theorem dL_law_1146 : decode cL_law 1146 = .ok (.iload_n 3, 1) := by decide +kernel
theorem dL_law_1147 : decode cL_law 1147 = .ok (.iconst 2, 1) := by decide +kernel
theorem dL_law_1148 : decode cL_law 1148 = .ok (.iadd, 1) := by decide +kernel
theorem dL_law_1149 : decode cL_law 1149 = .ok (.iaload, 1) := by decide +kernel
theorem dL_law_1150 : decode cL_law 1150 = .ok (.aload_n 0, 1) := by decide +kernel
theorem dL_law_1151 : decode cL_law 1151 = .ok (.iload_n 3, 1) := by decide +kernel
theorem dL_law_1152 : decode cL_law 1152 = .ok (.iconst 3, 1) := by decide +kernel
theorem dL_law_1153 : decode cL_law 1153 = .ok (.iadd, 1) := by decide +kernel
theorem dL_law_1154 : decode cL_law 1154 = .ok (.iaload, 1) := by decide +kernel
theorem dL_law_1155 : decode cL_law 1155 = .ok (.aload_n 0, 1) := by decide +kernel
theorem dL_law_1156 : decode cL_law 1156 = .ok (.iload_n 3, 1) := by decide +kernel
theorem dL_law_1157 : decode cL_law 1157 = .ok (.iconst 4, 1) := by decide +kernel
theorem dL_law_1158 : decode cL_law 1158 = .ok (.iadd, 1) := by decide +kernel
theorem dL_law_1159 : decode cL_law 1159 = .ok (.iaload, 1) := by decide +kernel
theorem dL_law_1160 : decode cL_law 1160 = .ok (.aload_n 0, 1) := by decide +kernel
theorem dL_law_1161 : decode cL_law 1161 = .ok (.iload_n 3, 1) := by decide +kernel
theorem dL_law_1162 : decode cL_law 1162 = .ok (.iconst 5, 1) := by decide +kernel
theorem dL_law_1163 : decode cL_law 1163 = .ok (.iadd, 1) := by decide +kernel
theorem dL_law_1164 : decode cL_law 1164 = .ok (.iaload, 1) := by decide +kernel
theorem dL_law_1165 : decode cL_law 1165 = .ok (.invokevirtual 166, 3) := by decide +kernel
theorem dL_law_1168 : decode cL_law 1168 = .ok (.if_icmp .eq 5, 3) := by decide +kernel
theorem dL_law_1171 : decode cL_law 1171 = .ok (.iconst 0, 1) := by decide +kernel
theorem dL_law_1172 : decode cL_law 1172 = .ok (.ireturn, 1) := by decide +kernel
theorem dL_law_1173 : decode cL_law 1173 = .ok (.iinc 3 6, 3) := by decide +kernel
theorem dL_law_1176 : decode cL_law 1176 = .ok (.goto (-1158), 3) := by decide +kernel
theorem dL_law_1179 : decode cL_law 1179 = .ok (.iconst 1, 1) := by decide +kernel
theorem dL_law_1180 : decode cL_law 1180 = .ok (.ireturn, 1) := by decide +kernel
end
section
def tbU : List Cond := lw_tbl.filter goodWord
theorem tbm {w : Cond} (i : Nat) (h : lw_tbl[i]? = some w) (hg : goodWord w = true) : w ∈ tbU := List.mem_filter.mpr ⟨List.mem_of_getElem? h, hg⟩
/-! The store of this system behind its constructors: 73 cells of a fixed shape; what changes is M (ints) and L (longs). -/
abbrev MI : Type := Nat → Nat → Int32
abbrev ML : Type := Nat → Nat → Int64
abbrev GC : Type := Launch × va_G × (ClassId × ClassId × ClassId × ClassId) × (Nat → Nat) × Nat
abbrev gL (g : GC) : Launch := g.1
abbrev gD (g : GC) : va_G := g.2.1
abbrev gI (g : GC) : ClassId := g.2.2.1.1
abbrev gJ (g : GC) : ClassId := g.2.2.1.2.1
abbrev gT (g : GC) : ClassId := g.2.2.1.2.2.1
abbrev gR (g : GC) : ClassId := g.2.2.1.2.2.2
def ga (g : GC) (i : Nat) : Nat := g.2.2.2.1 i
abbrev gW (g : GC) : Nat := g.2.2.2.2
abbrev rf (g : GC) (i : Nat) : Value := .ref (ga g i)
abbrev gTys (g : GC) : List (ClassId × FieldType) := [(gI g, .int), (gJ g, .long), (gT g, .object "WeighedLots$Tape"), (gR g, .array .long)]
/-- an object: its class among vwCl, its fields (none: an int; some j: the cell j); an array: its kind (0 ints, 1 longs, 2 tapes, 3 rows of longs), its length, its cells -/
abbrev Sh : Type := (Nat × List (Option Nat)) ⊕ (Nat × Nat × List Nat)
def shL : List Sh := [.inl (8, [some 1, some 12, none, some 23, some 28, some 41, some 46, some 50, some 52]), .inl (3, [none, none, none, some 2, none, some 3, some 6, some 9]), .inr (0, 4, []), .inl (1, [some 4, some 5, none]), .inr (0, 6, []), .inr (0, 6, []), .inl (1, [some 7, some 8, none]), .inr (0, 8, []), .inr (0, 8, []), .inl (1, [some 10, some 11, none]), .inr (0, 8, []), .inr (0, 8, []), .inl (3, [none, none, none, some 13, none, some 14, some 17, some 20]), .inr (0, 4, []), .inl (1, [some 15, some 16, none]), .inr (0, 6, []), .inr (0, 6, []), .inl (1, [some 18, some 19, none]), .inr (0, 8, []), .inr (0, 8, []), .inl (1, [some 21, some 22, none]), .inr (0, 8, []), .inr (0, 8, []), .inl (4, [some 24, none, none, some 25, some 26, some 27, none]), .inr (0, 100, []), .inr (0, 12, []), .inr (0, 12, []), .inr (0, 12, []), .inr (2, 6, [29, 31, 33, 35, 37, 39]), .inl (5, [none, none, some 30]), .inr (1, 60, []), .inl (5, [none, none, some 32]), .inr (1, 60, []), .inl (5, [none, none, some 34]), .inr (1, 60, []), .inl (5, [none, none, some 36]), .inr (1, 60, []), .inl (5, [none, none, some 38]), .inr (1, 60, []), .inl (5, [none, none, some 40]), .inr (1, 60, []), .inl (2, [some 42, none, some 43, some 44, some 45, none, none, none]), .inr (0, 4, []), .inr (0, 4, []), .inr (0, 4, []), .inr (0, 4, []), .inl (0, [some 47, some 48, some 49, none]), .inr (0, 2048, []), .inr (0, 768, []), .inr (0, 768, []), .inl (6, [none, some 51]), .inr (0, 4, []), .inl (7, [some 53]), .inr (0, 729, []), .inl (9, [some 55, some 56, none, some 57, some 58, none, some 59, some 60, some 61, none, none, some 62, none, none, some 63, some 64, some 65, some 66]), .inr (0, 55, []), .inr (0, 55, []), .inr (0, 4, []), .inr (0, 4, []), .inr (0, 65536, []), .inr (0, 65536, []), .inr (0, 100, []), .inr (0, 4, []), .inr (0, 6, []), .inr (0, 6, []), .inr (3, 6, [67, 68, 69, 70, 71, 72]), .inr (1, 60, []), .inr (1, 60, []), .inr (1, 60, []), .inr (1, 60, []), .inr (1, 60, []), .inr (1, 60, []), .inr (1, 60, [])]
def shp (i : Nat) : Option Sh := shL[i]?
def fldV (g : GC) (m : Nat → Int32) : Nat → List (Option Nat) → List Value
  | _, [] => []
  | k, none :: r => .int (m k) :: fldV g m (k + 1) r
  | k, some j :: r => .ref (ga g j) :: fldV g m (k + 1) r
def cellE (g : GC) (M : MI) (L : ML) (i : Nat) : Sh → va_E
  | .inl (ci, fl) => .inr (ci, fldV g (M i) 0 fl)
  | .inr (0, n, _) => .inl (gI g, n, .inl (M i))
  | .inr (1, n, _) => .inl (gJ g, n, .inr (.inl (L i)))
  | .inr (2, n, tg) => .inl (gT g, n, .inr (.inr (.inr (.inr (fun k => (tg[k]?).map (ga g))))))
  | .inr (_, n, tg) => .inl (gR g, n, .inr (.inr (.inr (.inr (fun k => (tg[k]?).map (ga g))))))
def wldF (g : GC) (M : MI) (L : ML) : Nat → List Sh → va_W
  | _, [] => []
  | i, s :: r => (ga g i, cellE g M L i s) :: wldF g M L (i + 1) r
def wld (g : GC) (M : MI) (L : ML) : va_W := wldF g M L 0 shL
def Aad (g : GC) : Nat → Prop := fun q => ∃ i, i < 73 ∧ ga g i = q
def adOK (g : GC) : Prop := ∀ i j, i < 73 → j < 73 → ga g i = ga g j → i = j
/-- a row of ints (longs) put in another's place -/
def sr (M : MI) (i : Nat) (f : Nat → Int32) : MI := fun j => if j = i then f else M j
def srL (L : ML) (i : Nat) (f : Nat → Int64) : ML := fun j => if j = i then f else L j
theorem sr_eq (M : MI) (i : Nat) (f : Nat → Int32) : sr M i f i = f := if_pos rfl
theorem sr_ne {M : MI} {i j : Nat} {f : Nat → Int32} (h : j ≠ i) : sr M i f j = M j := if_neg h
theorem srL_eq (L : ML) (i : Nat) (f : Nat → Int64) : srL L i f i = f := if_pos rfl
theorem srL_ne {L : ML} {i j : Nat} {f : Nat → Int64} (h : j ≠ i) : srL L i f j = L j := if_neg h
/-- one place of a row -/
def s1 (M : MI) (i k : Nat) (x : Int32) : MI := sr M i (upd (M i) k x)
def s1L (L : ML) (i k : Nat) (x : Int64) : ML := srL L i (vp_updL (L i) k x)
theorem s1_at (M : MI) (i k : Nat) (x : Int32) (j q : Nat) : s1 M i k x j q = if j = i ∧ q = k then x else M j q := by
  unfold s1 sr upd
  by_cases h : j = i
  · subst h
    by_cases h2 : q = k <;> simp [h2]
  · simp [h]
theorem s1L_at (L : ML) (i k : Nat) (x : Int64) (j q : Nat) : s1L L i k x j q = if j = i ∧ q = k then x else L j q := by
  unfold s1L srL vp_updL
  by_cases h : j = i
  · subst h
    by_cases h2 : q = k <;> simp [h2]
  · simp [h]
theorem wldF_get (g : GC) (M : MI) (L : ML) : ∀ (l : List Sh) (b k : Nat), (wldF g M L b l)[k]? = (l[k]?).map (fun s => (ga g (b + k), cellE g M L (b + k) s))
  | [], b, k => by simp [wldF]
  | s :: r, b, 0 => by simp [wldF]
  | s :: r, b, k + 1 => by
    have h := wldF_get g M L r (b + 1) k
    have e : b + 1 + k = b + (k + 1) := by omega
    simp only [wldF, List.getElem?_cons_succ]
    rw [h, e]
theorem wld_get {g : GC} {M : MI} {L : ML} {i : Nat} {s : Sh} (h : shp i = some s) : (wld g M L)[i]? = some (ga g i, cellE g M L i s) := by
  have h1 := wldF_get g M L shL 0 i
  unfold shp at h
  rw [h] at h1
  simpa [wld] using h1
theorem shp_lt {i : Nat} {s : Sh} (h : shp i = some s) : i < 73 := by
  have h2 := (List.getElem?_eq_some_iff.mp h).1
  have e : shL.length = 73 := rfl
  omega
theorem wld_inv {g : GC} {M : MI} {L : ML} {i : Nat} {q : Nat × va_E} (h : (wld g M L)[i]? = some q) : i < 73 ∧ q.1 = ga g i ∧ ∃ s, shp i = some s ∧ q.2 = cellE g M L i s := by
  have h1 := wldF_get g M L shL 0 i
  unfold wld at h
  rw [h] at h1
  cases hs : shL[i]? with
  | none => rw [hs] at h1; simp at h1
  | some s =>
    rw [hs] at h1
    simp at h1
    subst h1
    exact ⟨shp_lt hs, rfl, s, hs, rfl⟩
theorem wld_D {g : GC} (h : adOK g) (M : MI) (L : ML) : va_D (Aad g) (wld g M L) := by
  refine ⟨fun i j p q hi hj e => ?_, fun k q hk => ?_⟩
  · obtain ⟨a1, a2, -⟩ := wld_inv hi
    obtain ⟨b1, b2, -⟩ := wld_inv hj
    exact h i j a1 b1 (by rw [← a2, ← b2]; exact e)
  · obtain ⟨a1, a2, -⟩ := wld_inv hk
    exact ⟨k, a1, a2.symm⟩
theorem cellE_congr {g : GC} {M M' : MI} {L L' : ML} {i : Nat} (h : M i = M' i) (h2 : L i = L' i) (s : Sh) : cellE g M L i s = cellE g M' L' i s := by
  rcases s with ⟨ci, fl⟩ | ⟨k, n, tg⟩
  · simp only [cellE, h]
  · unfold cellE
    split <;> simp_all
theorem wld_set {g : GC} {M : MI} {L : ML} {i : Nat} {s : Sh} (f : Nat → Int32) (h : shp i = some s) : (wld g M L).set i (ga g i, cellE g (sr M i f) L i s) = wld g (sr M i f) L := by
  apply List.ext_getElem?
  intro j
  rw [List.getElem?_set]
  by_cases e : i = j
  · subst e
    have hl : i < (wld g M L).length := (List.getElem?_eq_some_iff.mp (wld_get h)).1
    rw [if_pos rfl, if_pos hl, wld_get h]
  · rw [if_neg e]
    unfold wld
    rw [wldF_get, wldF_get]
    cases shL[j]? with
    | none => rfl
    | some s' =>
      simp only [Option.map_some, Nat.zero_add]
      rw [cellE_congr (M := M) (M' := sr M i f) (sr_ne (fun q => e q.symm)).symm rfl]
theorem wld_setL {g : GC} {M : MI} {L : ML} {i : Nat} {s : Sh} (f : Nat → Int64) (h : shp i = some s) : (wld g M L).set i (ga g i, cellE g M (srL L i f) i s) = wld g M (srL L i f) := by
  apply List.ext_getElem?
  intro j
  rw [List.getElem?_set]
  by_cases e : i = j
  · subst e
    have hl : i < (wld g M L).length := (List.getElem?_eq_some_iff.mp (wld_get h)).1
    rw [if_pos rfl, if_pos hl, wld_get h]
  · rw [if_neg e]
    unfold wld
    rw [wldF_get, wldF_get]
    cases shL[j]? with
    | none => rfl
    | some s' =>
      simp only [Option.map_some, Nat.zero_add]
      rw [cellE_congr (L := L) (L' := srL L i f) rfl (srL_ne (fun q => e q.symm)).symm]
theorem fldV_get (g : GC) (m : Nat → Int32) : ∀ (fl : List (Option Nat)) (b k : Nat), (fldV g m b fl)[k]? = (fl[k]?).map (fun f => match f with | none => .int (m (b + k)) | some j => .ref (ga g j))
  | [], b, k => by simp [fldV]
  | none :: r, b, 0 => by simp [fldV]
  | some j :: r, b, 0 => by simp [fldV]
  | none :: r, b, k + 1 => by
    have h := fldV_get g m r (b + 1) k
    have e : b + 1 + k = b + (k + 1) := by omega
    simp only [fldV, List.getElem?_cons_succ]
    rw [h, e]
  | some j :: r, b, k + 1 => by
    have h := fldV_get g m r (b + 1) k
    have e : b + 1 + k = b + (k + 1) := by omega
    simp only [fldV, List.getElem?_cons_succ]
    rw [h, e]
theorem fldV_len (g : GC) (m : Nat → Int32) : ∀ (fl : List (Option Nat)) (b : Nat), (fldV g m b fl).length = fl.length
  | [], b => rfl
  | none :: r, b => by simp [fldV, fldV_len g m r (b + 1)]
  | some j :: r, b => by simp [fldV, fldV_len g m r (b + 1)]
theorem fldV_congr (g : GC) {m m' : Nat → Int32} : ∀ (fl : List (Option Nat)) (b : Nat), (∀ k, b ≤ k → m k = m' k) → fldV g m b fl = fldV g m' b fl
  | [], b, _ => rfl
  | none :: r, b, h => by simp [fldV, h b (Nat.le_refl b), fldV_congr g r (b + 1) (fun k hk => h k (by omega))]
  | some j :: r, b, h => by simp [fldV, fldV_congr g r (b + 1) (fun k hk => h k (by omega))]
theorem fldV_set (g : GC) (m : Nat → Int32) (x : Int32) : ∀ (fl : List (Option Nat)) (b k : Nat), fl[k]? = some none → (fldV g m b fl).set k (.int x) = fldV g (upd m (b + k) x) b fl
  | [], b, k, h => by simp at h
  | none :: r, b, 0, _ => by
    have h := fldV_congr g (m := m) (m' := upd m b x) r (b + 1) (fun k hk => by unfold upd; rw [if_neg (by omega)])
    have e : upd m b x b = x := if_pos rfl
    simp only [fldV, List.set_cons_zero, Nat.add_zero, e]
    rw [h]
  | some j :: r, b, 0, h => by simp at h
  | none :: r, b, k + 1, h => by
    have h1 := fldV_set g m x r (b + 1) k (by simpa using h)
    have e : b + 1 + k = b + (k + 1) := by omega
    have e2 : upd m (b + (k + 1)) x b = m b := if_neg (by omega)
    simp only [fldV, List.set_cons_succ, e2]
    rw [h1, e]
  | some j :: r, b, k + 1, h => by
    have h1 := fldV_set g m x r (b + 1) k (by simpa using h)
    have e : b + 1 + k = b + (k + 1) := by omega
    simp only [fldV, List.set_cons_succ]
    rw [h1, e]
/-! the locals, by their places -/
def PL (ls : Array Slot) (nL : Nat) (l : List (Option Value)) : Prop := ls.size = nL ∧ lv_wf ls ∧ ∀ (i : Nat) (v : Value), l[i]? = some (some v) → ls[i]? = some (.val v)
def alF : Nat → List (Option Value) → List (Nat × Value)
  | _, [] => []
  | i, none :: r => alF (i + 1) r
  | i, some v :: r => (i, v) :: alF (i + 1) r
theorem alF_mem : ∀ (l : List (Option Value)) (b j : Nat) (v : Value), (j, v) ∈ alF b l ↔ b ≤ j ∧ l[j - b]? = some (some v)
  | [], b, j, v => by simp [alF]
  | none :: r, b, j, v => by
    have h := alF_mem r (b + 1) j v
    simp only [alF, h]
    constructor
    · rintro ⟨h1, h2⟩
      have e : j - b = (j - (b + 1)) + 1 := by omega
      exact ⟨by omega, by rw [e, List.getElem?_cons_succ]; exact h2⟩
    · rintro ⟨h1, h2⟩
      rcases Nat.eq_or_lt_of_le h1 with q | q
      · subst q
        simp at h2
      · have e : j - b = (j - (b + 1)) + 1 := by omega
        rw [e, List.getElem?_cons_succ] at h2
        exact ⟨q, h2⟩
  | some w :: r, b, j, v => by
    have h := alF_mem r (b + 1) j v
    simp only [alF, List.mem_cons, Prod.mk.injEq, h]
    constructor
    · rintro (⟨h1, h2⟩ | ⟨h1, h2⟩)
      · subst h1; subst h2
        simp
      · have e : j - b = (j - (b + 1)) + 1 := by omega
        exact ⟨by omega, by rw [e, List.getElem?_cons_succ]; exact h2⟩
    · rintro ⟨h1, h2⟩
      rcases Nat.eq_or_lt_of_le h1 with q | q
      · subst q
        simp at h2
        exact Or.inl ⟨rfl, h2.symm⟩
      · have e : j - b = (j - (b + 1)) + 1 := by omega
        rw [e, List.getElem?_cons_succ] at h2
        exact Or.inr ⟨q, h2⟩
theorem PL.has {ls : Array Slot} {nL : Nat} {l : List (Option Value)} (h : PL ls nL l) : lv_has ls nL (alF 0 l) := by
  refine ⟨h.1, h.2.1, fun q hq => ?_⟩
  have h1 := (alF_mem l 0 q.1 q.2).mp hq
  exact h.2.2 q.1 q.2 (by simpa using h1.2)
/-- what a store of one slot at i leaves of the locals -/
def keepsAt (l l' : List (Option Value)) (i : Nat) (v : Value) : Prop := ∀ (j : Nat) (w : Value), l'[j]? = some (some w) → (j = i ∧ w = v) ∨ (j ≠ i ∧ l[j]? = some (some w) ∧ ¬ (j + 1 = i ∧ w.category = 2))
def keepsAt2 (l l' : List (Option Value)) (i : Nat) (v : Value) : Prop := ∀ (j : Nat) (w : Value), l'[j]? = some (some w) → (j = i ∧ w = v) ∨ (j ≠ i ∧ j ≠ i + 1 ∧ l[j]? = some (some w) ∧ ¬ (j + 1 = i ∧ w.category = 2))
theorem PL.put {ls : Array Slot} {nL : Nat} {l l' : List (Option Value)} {i : Nat} {v : Value} (hk : keepsAt l l' i v) (h : lv_has ls nL ((i, v) :: (alF 0 l).filter (fun q => !(q.1 == i) && !(q.1 + 1 == i && q.2.category == 2)))) : PL ls nL l' := by
  refine ⟨h.1, h.2.1, fun j w hj => ?_⟩
  rcases hk j w hj with ⟨rfl, rfl⟩ | ⟨h1, h2, h3⟩
  · exact h.2.2 (j, w) List.mem_cons_self
  · refine h.2.2 (j, w) (List.mem_cons_of_mem _ (List.mem_filter.mpr ⟨(alF_mem l 0 j w).mpr ⟨Nat.zero_le j, by simpa using h2⟩, ?_⟩))
    by_cases q : j + 1 = i
    · have : ¬ w.category = 2 := fun z => h3 ⟨q, z⟩
      simp [h1, q, this]
    · simp [h1, q]
theorem PL.put2 {ls : Array Slot} {nL : Nat} {l l' : List (Option Value)} {i : Nat} {v : Value} (hk : keepsAt2 l l' i v) (h : lv_has ls nL ((i, v) :: (alF 0 l).filter (fun q => !(q.1 == i) && (!(q.1 == i + 1) && !(q.1 + 1 == i && q.2.category == 2))))) : PL ls nL l' := by
  refine ⟨h.1, h.2.1, fun j w hj => ?_⟩
  rcases hk j w hj with ⟨rfl, rfl⟩ | ⟨h1, h1', h2, h3⟩
  · exact h.2.2 (j, w) List.mem_cons_self
  · refine h.2.2 (j, w) (List.mem_cons_of_mem _ (List.mem_filter.mpr ⟨(alF_mem l 0 j w).mpr ⟨Nat.zero_le j, by simpa using h2⟩, ?_⟩))
    by_cases q : j + 1 = i
    · have : ¬ w.category = 2 := fun z => h3 ⟨q, z⟩
      simp [h1, h1', q, this]
    · simp [h1, h1', q]
/-- is this slot no long -/
def n2 : Option Value → Bool
  | none => true
  | some w => !(w.category == 2)
theorem n2_not {w : Value} (h : n2 (some w) = true) : ¬ w.category = 2 := by
  intro q
  simp [n2, q] at h
theorem keeps_set {l : List (Option Value)} {i : Nat} {v : Value} (hp : ∀ j w, j + 1 = i → l[j]? = some (some w) → ¬ w.category = 2) : keepsAt l (l.set i (some v)) i v := by
  intro j w hj
  rw [List.getElem?_set] at hj
  by_cases e : i = j
  · subst e
    rw [if_pos rfl] at hj
    split at hj
    · simp at hj
      exact Or.inl ⟨rfl, hj.symm⟩
    · simp at hj
  · rw [if_neg e] at hj
    exact Or.inr ⟨fun q => e q.symm, hj, fun ⟨q1, q2⟩ => hp j w q1 hj q2⟩
theorem keeps_set2 {l : List (Option Value)} {i : Nat} {v : Value} (hp : ∀ j w, j + 1 = i → l[j]? = some (some w) → ¬ w.category = 2) : keepsAt2 l ((l.set (i + 1) none).set i (some v)) i v := by
  intro j w hj
  rw [List.getElem?_set] at hj
  by_cases e : i = j
  · subst e
    rw [if_pos rfl] at hj
    split at hj
    · simp at hj
      exact Or.inl ⟨rfl, hj.symm⟩
    · simp at hj
  · rw [if_neg e, List.getElem?_set] at hj
    by_cases e2 : i + 1 = j
    · rw [if_pos e2] at hj
      split at hj <;> simp at hj
    · rw [if_neg e2] at hj
      exact Or.inr ⟨fun q => e q.symm, fun q => e2 q.symm, hj, fun ⟨q1, q2⟩ => hp j w q1 hj q2⟩
/-- knowing more of the locals is no harm -/
def wkL : List (Option Value) → List (Option Value) → Prop
  | [], _ => True
  | none :: r, [] => wkL r []
  | some _ :: _, [] => False
  | none :: r, _ :: r' => wkL r r'
  | some v :: r, b :: r' => b = some v ∧ wkL r r'
theorem wkL_nil : ∀ {l : List (Option Value)}, wkL l [] → ∀ (i : Nat) (v : Value), ¬ l[i]? = some (some v)
  | [], _, i, v => by simp
  | none :: r, h, 0, v => by simp
  | none :: r, h, i + 1, v => by
    have h1 := wkL_nil (l := r) h i v
    simpa using h1
  | some _ :: _, h, i, v => absurd h id
theorem wkL_at : ∀ {l l' : List (Option Value)}, wkL l l' → ∀ (i : Nat) (v : Value), l[i]? = some (some v) → l'[i]? = some (some v)
  | [], l', _, i, v, h => by simp at h
  | a :: r, [], h, i, v, q => absurd q (wkL_nil h i v)
  | none :: r, b :: r', h, 0, v, q => by simp at q
  | none :: r, b :: r', h, i + 1, v, q => by
    have h1 := wkL_at (l := r) (l' := r') h i v (by simpa using q)
    simpa using h1
  | some w :: r, b :: r', h, 0, v, q => by
    simp at q
    subst q
    simp [h.1]
  | some w :: r, b :: r', h, i + 1, v, q => by
    have h1 := wkL_at (l := r) (l' := r') h.2 i v (by simpa using q)
    simpa using h1
theorem PL.wk {ls : Array Slot} {nL : Nat} {l l' : List (Option Value)} (hk : wkL l l') (h : PL ls nL l') : PL ls nL l := ⟨h.1, h.2.1, fun i v q => h.2.2 i v (wkL_at hk i v q)⟩
def enF : List Value → List (Option Value)
  | [] => []
  | v :: r => if v.category = 2 then some v :: none :: enF r else some v :: enF r
theorem enF_at : ∀ (vs : List Value) (b i : Nat) (v : Value), (enF vs)[i]? = some (some v) → (b + i, v) ∈ lv_args b vs
  | [], b, i, v, h => by simp [enF] at h
  | w :: r, b, i, v, h => by
    unfold enF at h
    by_cases c : w.category = 2
    · rw [if_pos c] at h
      match i, h with
      | 0, h =>
        simp at h
        subst h
        simp [lv_args]
      | 1, h => simp at h
      | i + 2, h =>
        have h1 := enF_at r (b + 2) i v (by simpa using h)
        have e : b + 2 + i = b + (i + 2) := by omega
        rw [e] at h1
        simp only [lv_args, if_pos c]
        exact List.mem_cons_of_mem _ h1
    · rw [if_neg c] at h
      match i, h with
      | 0, h =>
        simp at h
        subst h
        simp [lv_args]
      | i + 1, h =>
        have h1 := enF_at r (b + 1) i v (by simpa using h)
        have e : b + 1 + i = b + (i + 1) := by omega
        rw [e] at h1
        simp only [lv_args, if_neg c]
        exact List.mem_cons_of_mem _ h1
theorem PL.entry (vs : List Value) {n : Nat} (h : (lg_sl vs).length ≤ n) (k : Nat) : PL ((lg_sl vs ++ List.replicate (n - (lg_sl vs).length) Slot.unset).toArray) n (enF vs ++ List.replicate k none) := by
  have h1 := lv_entry vs h
  refine ⟨h1.1, h1.2.1, fun i v q => ?_⟩
  have h2 : (enF vs)[i]? = some (some v) := by
    by_cases z : i < (enF vs).length
    · rwa [List.getElem?_append_left z] at q
    · rw [List.getElem?_append_right (by omega)] at q
      have := List.eq_of_mem_replicate (List.mem_of_getElem? q)
      cases this
  have h3 := enF_at vs 0 i v h2
  rw [Nat.zero_add] at h3
  exact h1.2.2 (i, v) h3
/-! the judgement -/
def wv (j : Nat) : Int32 := nI ([43690, 52428, 61680, 65280].getD j 0)
def rmD (d : Nat) : Room := { frames := d, cells := 0, slots := 0, locals := 40 * d }
def StG (g : GC) (U : State) : Prop := va_K (gD g) vwCl (gTys g) U ∧ va_Z "WeighedLots$Lots" "WITH" "[I" (.ref (gW g)) (Aad g) U U.heap ∧ va_T .int (gW g) 4 (fun j => .int (wv j)) (Aad g) U U.heap ∧ adOK g
def Cx (g : GC) (own : String) (cc : ByteArray) (nL : Nat) (ret : Option FieldType) (p : Program) (s : State) (m : MethodId) (args : Array Value) (meth : Method) (c : Code) : Prop :=
  p.tables.exec = Jvm.exec ∧ c.code = cc ∧ meth.sig.returnType = ret ∧ c.maxLocals = nL ∧ s.vm.findClass own = some m.cls ∧ (∀ w ∈ tbU, w.before args s = true) ∧ meth.locks = false ∧ StG g s
abbrev QC : Type := Array Value → State → Outcome → State → Prop
def Tm (g : GC) (d : Nat) (own : String) (cc : ByteArray) (nL : Nat) (ret : Option FieldType) (Qc : QC) (pc : Nat) (l : List (Option Value)) (st : List Value) (M : MI) (L : ML) : Prop :=
  ∀ (p : Program) (e : Env) (s : State) (m : MethodId) (args : Array Value) (below : List Frame) (meth : Method) (c : Code) (H : Heap) (locs : List Loc) (ls : Array Slot), Cx g own cc nL ret p s m args meth c → PL ls nL l → va_P (gD g) vwCl (wld g M L) H → va_S (Aad g) s.heap H locs →
    W p (gL g) e (rmD d) s m args below meth c H locs 0 0 (MQ below Qc args s 0 0 (Aad g)) (F0 m pc ls st)
def PcG (g : GC) (av : List Value) (M : MI) (L : ML) : Array Value → State → Prop := va_Pc av (fun U => va_P (gD g) vwCl (wld g M L) U.heap ∧ StG g U)
def BG (g : GC) (u : MI × ML) (t : State) : Prop := va_P (gD g) vwCl (wld g u.1 u.2) t.heap
def QI (g : GC) (F : Int32) (M : MI) (L : ML) : QC := va_Qi (fun r (u : MI × ML) => r = F ∧ u = (M, L)) (BG g) (Aad g)
def QL (g : GC) (F : Int64) (M : MI) (L : ML) : QC := va_Ql (fun r (u : MI × ML) => r = F ∧ u = (M, L)) (BG g) (Aad g)
def QV (g : GC) (M : MI) (L : ML) : QC := va_Qv (fun (u : MI × ML) => u = (M, L)) (BG g) (Aad g)
abbrev wsU (y : MethodName) (cc : ByteArray) (nL : Nat) (ret : Option FieldType) : List Cond := Cond.code y cc nL ret :: tbU
/-- the contract of a method that answers an int (a long, nothing): its answer, the ints, the longs behind it -/
def CfI (g : GC) (d : Nat) (y : MethodName) (cc : ByteArray) (nL : Nat) (ty : FieldType) (av : List Value) (M : MI) (L : ML) (F : Int32) (M' : MI) (L' : ML) : Prop := Met (gL g) y (wsU y cc nL (some ty)) (rmD d) (PcG g av M L) (QI g F M' L') 0 0 (Aad g)
def CfL (g : GC) (d : Nat) (y : MethodName) (cc : ByteArray) (nL : Nat) (av : List Value) (M : MI) (L : ML) (F : Int64) (M' : MI) (L' : ML) : Prop := Met (gL g) y (wsU y cc nL (some .long)) (rmD d) (PcG g av M L) (QL g F M' L') 0 0 (Aad g)
def CfV (g : GC) (d : Nat) (y : MethodName) (cc : ByteArray) (nL : Nat) (av : List Value) (M : MI) (L : ML) (M' : MI) (L' : ML) : Prop := Met (gL g) y (wsU y cc nL none) (rmD d) (PcG g av M L) (QV g M' L') 0 0 (Aad g)
theorem met_of {g : GC} {d : Nat} {y : MethodName} {own : String} {cc : ByteArray} {nL : Nat} {ret : Option FieldType} {Qc : QC} {av : List Value} {M : MI} {L : ML} {l : List (Option Value)} (kk : Nat) (hl : enF av ++ List.replicate kk none = l) (hy : plainName y.cls = true) (ho : y.cls = own) (hn : (lg_sl av).length ≤ nL) (k : Tm g d own cc nL ret Qc 0 l [] M L) :
    Met (gL g) y (wsU y cc nL ret) (rmD d) (PcG g av M L) Qc 0 0 (Aad g) := by
  refine Met.ofW (cc := cc) (maxL := nL) (ret := ret) hy rfl ?_
  intro p e s m args below meth c s₁ B hml hv
  obtain ⟨rfl, hP, hG⟩ := hv
  have hts := atoms_spec (ws := wsU y cc nL ret) B.pre
  have hown : s.vm.findClass own = some m.cls := ho ▸ findClass_of_methodNamed B.named
  rw [lg_entry_eq]
  have hpl := PL.entry av hn kk
  rw [hl] at hpl
  exact k p e s m _ below meth c s.heap [] _ ⟨B.exec, B.bytes, B.returns, hml, hown, fun w hw => hts w (List.mem_cons_of_mem _ hw), B.notSynchronized, hG⟩ hpl hP va_S.rf
theorem cfI_of {g : GC} {d : Nat} {y : MethodName} {own : String} {cc : ByteArray} {nL : Nat} {ty : FieldType} {av : List Value} {M M' : MI} {L L' : ML} {F : Int32} {l : List (Option Value)} (kk : Nat) (hl : enF av ++ List.replicate kk none = l) (hy : plainName y.cls = true) (ho : y.cls = own) (hn : (lg_sl av).length ≤ nL) (k : Tm g d own cc nL (some ty) (QI g F M' L') 0 l [] M L) : CfI g d y cc nL ty av M L F M' L' := met_of kk hl hy ho hn k
theorem cfL_of {g : GC} {d : Nat} {y : MethodName} {own : String} {cc : ByteArray} {nL : Nat} {av : List Value} {M M' : MI} {L L' : ML} {F : Int64} {l : List (Option Value)} (kk : Nat) (hl : enF av ++ List.replicate kk none = l) (hy : plainName y.cls = true) (ho : y.cls = own) (hn : (lg_sl av).length ≤ nL) (k : Tm g d own cc nL (some .long) (QL g F M' L') 0 l [] M L) : CfL g d y cc nL av M L F M' L' := met_of kk hl hy ho hn k
theorem cfV_of {g : GC} {d : Nat} {y : MethodName} {own : String} {cc : ByteArray} {nL : Nat} {av : List Value} {M M' : MI} {L L' : ML} {l : List (Option Value)} (kk : Nat) (hl : enF av ++ List.replicate kk none = l) (hy : plainName y.cls = true) (ho : y.cls = own) (hn : (lg_sl av).length ≤ nL) (k : Tm g d own cc nL none (QV g M' L') 0 l [] M L) : CfV g d y cc nL av M L M' L' := met_of kk hl hy ho hn k
/-! a boolean as the machine has it -/
def bI (b : Bool) : Int32 := if b then 1 else 0
theorem bI_01 (b : Bool) : bI b = 0 ∨ bI b = 1 := by cases b <;> simp [bI]
theorem bI_0 (b : Bool) : bI b = 0 ↔ b = false := by cases b <;> simp [bI]
theorem bI_n0 (b : Bool) : ¬ bI b = 0 ↔ b = true := by cases b <;> simp [bI]
theorem bI_1 (b : Bool) : bI b = 1 ↔ b = true := by cases b <;> simp [bI]
theorem bI_n1 (b : Bool) : ¬ bI b = 1 ↔ b = false := by cases b <;> simp [bI]
/-- an index: x is the place k of a row of n -/
def ixI (x : Int32) (n k : Nat) : Prop := ¬ x < 0 ∧ x.toNatClampNeg = k ∧ k < n
theorem ixI.vp {x : Int32} {n k : Nat} (h : ixI x n k) : vp_in x n := fun q => q.elim h.1 (fun q => by have := h.2.1; have := h.2.2; omega)
theorem ix_nI {k n : Nat} (h : k < n) (hn : n < 2 ^ 31) : ixI (nI k) n k := ⟨nI_pos (by omega), nI_clamp (by omega), h⟩
/-- the kit's facts of a field's link: own's entry idx is the field k of the kind ci -/
def FL (own : String) (idx ci k : Nat) : Prop := ∃ (C : String) (T : u_T) (N : Nat) (ty0 : Nat → FieldType), vwCl[ci]? = some (C, T, N) ∧ (∀ w ∈ u_ws C T N, w ∈ tbU) ∧ k < N ∧ Cond.fieldLink own idx (T k).1 (T k).2.1 (T k).2.2.1 ∈ tbU ∧ (∀ k, k < N → parseFieldDescriptor (T k).2.2.1 = some (ty0 k)) ∧ (∀ a, a < N → ∀ b, b < N → a ≠ b → (T a).2.1 ≠ (T b).2.1)
/-- and it is an int that may be written -/
def FW (ci k : Nat) (ty : FieldType) : Prop := ∀ (C : String) (T : u_T) (N : Nat), vwCl[ci]? = some (C, T, N) → (T k).2.2.2 = false ∧ parseFieldDescriptor (T k).2.2.1 = some ty
/-- the kit's facts of a method: it is there, it is taken as it stands -/
def MV (y : MethodName) (cc : ByteArray) (nL : Nat) (ret : Option FieldType) (n : Nat) : Prop := Cond.instanceMethod y ∈ tbU ∧ Cond.selects y.cls y y ∈ tbU ∧ Cond.initialized y.cls ∈ tbU ∧ Cond.code y cc nL ret ∈ tbU ∧ (y.cls ≠ "java/lang/invoke/MethodHandle" ∧ y.cls ≠ "java/lang/invoke/VarHandle" ∧ (parseMethodDescriptor y.desc).map (fun d => d.parameters.length) = some n) ∧ nL ≤ 21
def MS (y : MethodName) (cc : ByteArray) (nL : Nat) (ret : Option FieldType) (n : Nat) : Prop := Cond.static y ∈ tbU ∧ Cond.initialized y.cls ∈ tbU ∧ Cond.code y cc nL ret ∈ tbU ∧ (y.cls ≠ "java/lang/invoke/MethodHandle" ∧ y.cls ≠ "java/lang/invoke/VarHandle" ∧ (parseMethodDescriptor y.desc).map (fun d => d.parameters.length) = some n) ∧ nL ≤ 21
theorem tb_in {w : Cond} (h : w ∈ tbU) : (w.onTables && w.keeps) = true ∨ ∃ ty, w = .arrayClass ty := good_of_word (List.mem_filter.mp h).2
theorem tb_goodIn {ws : List Cond} (h : ∀ w ∈ ws, w ∈ tbU) : GoodIn tbU ws := fun w hw => ⟨h w hw, tb_in (h w hw)⟩
theorem blindG (g : GC) (av : List Value) (M : MI) (L : ML) : FrameBlind (PcG g av M L) := fun a U gg mk q => by
  obtain ⟨h1, h2, h3, h4, h5, h6⟩ := q
  exact ⟨h1, h2, va_K.moved (u := U) (U := U.calling gg mk a) (Vm.Alike.refl U.vm) h3, va_Z.moved (u := U) (U := U.calling gg mk a) (Vm.Alike.refl U.vm) h4, va_T.moved (u := U) (U := U.calling gg mk a) (Vm.Alike.refl U.vm) h5, h6⟩
theorem StG.move {g : GC} {s U : State} {H : Heap} {locs : List Loc} (h : StG g s) (hS : va_S (Aad g) s.heap H locs) (hU : U.heap = H) (hW : s.WarmedH U.vm) : StG g U := by
  refine ⟨va_K.moved hW.alike h.1, ?_, ?_, h.2.2.2⟩
  · have h1 := (va_Z.moved (U := U) hW.alike h.2.1).kept (H1 := U.heap) (fun a ha hn => by rw [hU]; exact hS.2.1 a ha hn)
    exact h1
  · have h1 := (va_T.moved (U := U) hW.alike h.2.2.1).kept (H1 := U.heap) (fun a ha hn => by rw [hU]; exact hS.2.1 a ha hn)
    exact h1
theorem kac_nat : Cond.native arraycopyName ∈ tbU := tbm 425 (by decide +kernel) (by decide +kernel)
theorem kac_sta : Cond.static arraycopyName ∈ tbU := tbm 424 (by decide +kernel) (by decide +kernel)
theorem kac_ini : Cond.initialized "java/lang/System" ∈ tbU := tbm 68 (by decide +kernel) (by decide +kernel)
section Toy
variable {g : GC} {d : Nat} {own : String} {cc : ByteArray} {nL : Nat} {ret : Option FieldType} {Qc : QC} {pc : Nat} {l : List (Option Value)} {st : List Value} {M : MI} {L : ML}

theorem tm_iconst {z : Int} (v : Int32) (hv : Int32.ofInt z = v) (n : Nat) (hn : pc + 1 = n) (hdg : decode cc pc = .ok (.iconst z, 1)) (k : Tm g d own cc nL ret Qc n l (.int v :: st) M L) : Tm g d own cc nL ret Qc pc l (st) M L := by
  subst hn
  exact fun p e s m args below meth c H locs ls C hl hP hS => lv_iconst C.1 C.2.1 hdg hv (k p e s m args below meth c H locs ls C hl hP hS)
theorem tm_bipush {z : Int} (v : Int32) (hv : (Int8.ofInt z).toInt32 = v) (n : Nat) (hn : pc + 2 = n) (hdg : decode cc pc = .ok (.bipush z, 2)) (k : Tm g d own cc nL ret Qc n l (.int v :: st) M L) : Tm g d own cc nL ret Qc pc l (st) M L := by
  subst hn
  exact fun p e s m args below meth c H locs ls C hl hP hS => lv_bipush C.1 C.2.1 hdg hv (k p e s m args below meth c H locs ls C hl hP hS)
theorem tm_sipush {z : Int} (v : Int32) (hv : (Int16.ofInt z).toInt32 = v) (n : Nat) (hn : pc + 3 = n) (hdg : decode cc pc = .ok (.sipush z, 3)) (k : Tm g d own cc nL ret Qc n l (.int v :: st) M L) : Tm g d own cc nL ret Qc pc l (st) M L := by
  subst hn
  exact fun p e s m args below meth c H locs ls C hl hP hS => lv_sipush C.1 C.2.1 hdg hv (k p e s m args below meth c H locs ls C hl hP hS)
theorem tm_lconst {z : Fin 2} (v : Int64) (hv : Int64.ofNat (z : Nat) = v) (n : Nat) (hn : pc + 1 = n) (hdg : decode cc pc = .ok (.lconst z, 1)) (k : Tm g d own cc nL ret Qc n l (.long v :: st) M L) : Tm g d own cc nL ret Qc pc l (st) M L := by
  subst hn
  exact fun p e s m args below meth c H locs ls C hl hP hS => lv_lconst C.1 C.2.1 hdg hv (k p e s m args below meth c H locs ls C hl hP hS)
theorem tm_ldc {index : Nat} {v : Int32} (hw : Cond.constant own index v ∈ tbU) (n : Nat) (hn : pc + 2 = n) (hdg : decode cc pc = .ok (.ldc index, 2)) (k : Tm g d own cc nL ret Qc n l (.int v :: st) M L) : Tm g d own cc nL ret Qc pc l (st) M L := by
  subst hn
  exact fun p e s m args below meth c H locs ls C hl hP hS => lv_ldc C.1 C.2.1 C.2.2.2.2.1 (C.2.2.2.2.2.1 _ hw) hdg (k p e s m args below meth c H locs ls C hl hP hS)
theorem tm_ldcw {index : Nat} {v : Int32} (hw : Cond.constant own index v ∈ tbU) (n : Nat) (hn : pc + 3 = n) (hdg : decode cc pc = .ok (.ldc_w index, 3)) (k : Tm g d own cc nL ret Qc n l (.int v :: st) M L) : Tm g d own cc nL ret Qc pc l (st) M L := by
  subst hn
  exact fun p e s m args below meth c H locs ls C hl hP hS => lv_ldcw C.1 C.2.1 C.2.2.2.2.1 (C.2.2.2.2.2.1 _ hw) hdg (k p e s m args below meth c H locs ls C hl hP hS)
theorem tm_ldc2 {index : Nat} {v : Int64} (hw : Cond.constantLong own index v ∈ tbU) (n : Nat) (hn : pc + 3 = n) (hdg : decode cc pc = .ok (.ldc2_w index, 3)) (k : Tm g d own cc nL ret Qc n l (.long v :: st) M L) : Tm g d own cc nL ret Qc pc l (st) M L := by
  subst hn
  exact fun p e s m args below meth c H locs ls C hl hP hS => lv_ldc2 C.1 C.2.1 C.2.2.2.2.1 (C.2.2.2.2.2.1 _ hw) hdg (k p e s m args below meth c H locs ls C hl hP hS)
theorem tm_iadd {x y : Int32} (n : Nat) (hn : pc + 1 = n) (hdg : decode cc pc = .ok (.iadd, 1)) (k : Tm g d own cc nL ret Qc n l (.int (x + y) :: st) M L) : Tm g d own cc nL ret Qc pc l (.int y :: .int x :: st) M L := by
  subst hn
  exact fun p e s m args below meth c H locs ls C hl hP hS => lv_iadd C.1 C.2.1 hdg (k p e s m args below meth c H locs ls C hl hP hS)
theorem tm_isub {x y : Int32} (n : Nat) (hn : pc + 1 = n) (hdg : decode cc pc = .ok (.isub, 1)) (k : Tm g d own cc nL ret Qc n l (.int (x - y) :: st) M L) : Tm g d own cc nL ret Qc pc l (.int y :: .int x :: st) M L := by
  subst hn
  exact fun p e s m args below meth c H locs ls C hl hP hS => lv_isub C.1 C.2.1 hdg (k p e s m args below meth c H locs ls C hl hP hS)
theorem tm_imul {x y : Int32} (n : Nat) (hn : pc + 1 = n) (hdg : decode cc pc = .ok (.imul, 1)) (k : Tm g d own cc nL ret Qc n l (.int (x * y) :: st) M L) : Tm g d own cc nL ret Qc pc l (.int y :: .int x :: st) M L := by
  subst hn
  exact fun p e s m args below meth c H locs ls C hl hP hS => lv_imul C.1 C.2.1 hdg (k p e s m args below meth c H locs ls C hl hP hS)
theorem tm_iand {x y : Int32} (n : Nat) (hn : pc + 1 = n) (hdg : decode cc pc = .ok (.iand, 1)) (k : Tm g d own cc nL ret Qc n l (.int (x &&& y) :: st) M L) : Tm g d own cc nL ret Qc pc l (.int y :: .int x :: st) M L := by
  subst hn
  exact fun p e s m args below meth c H locs ls C hl hP hS => lv_iand C.1 C.2.1 hdg (k p e s m args below meth c H locs ls C hl hP hS)
theorem tm_ior {x y : Int32} (n : Nat) (hn : pc + 1 = n) (hdg : decode cc pc = .ok (.ior, 1)) (k : Tm g d own cc nL ret Qc n l (.int (x ||| y) :: st) M L) : Tm g d own cc nL ret Qc pc l (.int y :: .int x :: st) M L := by
  subst hn
  exact fun p e s m args below meth c H locs ls C hl hP hS => lv_ior C.1 C.2.1 hdg (k p e s m args below meth c H locs ls C hl hP hS)
theorem tm_ixor {x y : Int32} (n : Nat) (hn : pc + 1 = n) (hdg : decode cc pc = .ok (.ixor, 1)) (k : Tm g d own cc nL ret Qc n l (.int (x ^^^ y) :: st) M L) : Tm g d own cc nL ret Qc pc l (.int y :: .int x :: st) M L := by
  subst hn
  exact fun p e s m args below meth c H locs ls C hl hP hS => lv_ixor C.1 C.2.1 hdg (k p e s m args below meth c H locs ls C hl hP hS)
theorem tm_ishl {x y : Int32} (n : Nat) (hn : pc + 1 = n) (hdg : decode cc pc = .ok (.ishl, 1)) (k : Tm g d own cc nL ret Qc n l (.int (x <<< (y &&& 31)) :: st) M L) : Tm g d own cc nL ret Qc pc l (.int y :: .int x :: st) M L := by
  subst hn
  exact fun p e s m args below meth c H locs ls C hl hP hS => lv_ishl C.1 C.2.1 hdg (k p e s m args below meth c H locs ls C hl hP hS)
theorem tm_ishr {x y : Int32} (n : Nat) (hn : pc + 1 = n) (hdg : decode cc pc = .ok (.ishr, 1)) (k : Tm g d own cc nL ret Qc n l (.int (x >>> (y &&& 31)) :: st) M L) : Tm g d own cc nL ret Qc pc l (.int y :: .int x :: st) M L := by
  subst hn
  exact fun p e s m args below meth c H locs ls C hl hP hS => lv_ishr C.1 C.2.1 hdg (k p e s m args below meth c H locs ls C hl hP hS)
theorem tm_iushr {x y : Int32} (n : Nat) (hn : pc + 1 = n) (hdg : decode cc pc = .ok (.iushr, 1)) (k : Tm g d own cc nL ret Qc n l (.int ((x.toUInt32 >>> (y.toUInt32 &&& Int32.toUInt32 31)).toInt32) :: st) M L) : Tm g d own cc nL ret Qc pc l (.int y :: .int x :: st) M L := by
  subst hn
  exact fun p e s m args below meth c H locs ls C hl hP hS => lv_iushr C.1 C.2.1 hdg rfl (k p e s m args below meth c H locs ls C hl hP hS)
theorem tm_idiv {x y : Int32} (hne : ¬ y = 0) (n : Nat) (hn : pc + 1 = n) (hdg : decode cc pc = .ok (.idiv, 1)) (k : Tm g d own cc nL ret Qc n l (.int (x / y) :: st) M L) : Tm g d own cc nL ret Qc pc l (.int y :: .int x :: st) M L := by
  subst hn
  exact fun p e s m args below meth c H locs ls C hl hP hS => lv_idiv C.1 C.2.1 hdg hne (k p e s m args below meth c H locs ls C hl hP hS)
theorem tm_irem {x y : Int32} (hne : ¬ y = 0) (n : Nat) (hn : pc + 1 = n) (hdg : decode cc pc = .ok (.irem, 1)) (k : Tm g d own cc nL ret Qc n l (.int (x - x / y * y) :: st) M L) : Tm g d own cc nL ret Qc pc l (.int y :: .int x :: st) M L := by
  subst hn
  exact fun p e s m args below meth c H locs ls C hl hP hS => lv_irem C.1 C.2.1 hdg hne (k p e s m args below meth c H locs ls C hl hP hS)
theorem tm_ineg {x : Int32} (n : Nat) (hn : pc + 1 = n) (hdg : decode cc pc = .ok (.ineg, 1)) (k : Tm g d own cc nL ret Qc n l (.int (-x) :: st) M L) : Tm g d own cc nL ret Qc pc l (.int x :: st) M L := by
  subst hn
  exact fun p e s m args below meth c H locs ls C hl hP hS => lv_ineg C.1 C.2.1 hdg (k p e s m args below meth c H locs ls C hl hP hS)
theorem tm_ladd {x y : Int64} (n : Nat) (hn : pc + 1 = n) (hdg : decode cc pc = .ok (.ladd, 1)) (k : Tm g d own cc nL ret Qc n l (.long (x + y) :: st) M L) : Tm g d own cc nL ret Qc pc l (.long y :: .long x :: st) M L := by
  subst hn
  exact fun p e s m args below meth c H locs ls C hl hP hS => lv_ladd C.1 C.2.1 hdg (k p e s m args below meth c H locs ls C hl hP hS)
theorem tm_land {x y : Int64} (n : Nat) (hn : pc + 1 = n) (hdg : decode cc pc = .ok (.land, 1)) (k : Tm g d own cc nL ret Qc n l (.long (x &&& y) :: st) M L) : Tm g d own cc nL ret Qc pc l (.long y :: .long x :: st) M L := by
  subst hn
  exact fun p e s m args below meth c H locs ls C hl hP hS => lv_land C.1 C.2.1 hdg (k p e s m args below meth c H locs ls C hl hP hS)
theorem tm_lor {x y : Int64} (n : Nat) (hn : pc + 1 = n) (hdg : decode cc pc = .ok (.lor, 1)) (k : Tm g d own cc nL ret Qc n l (.long (x ||| y) :: st) M L) : Tm g d own cc nL ret Qc pc l (.long y :: .long x :: st) M L := by
  subst hn
  exact fun p e s m args below meth c H locs ls C hl hP hS => lv_lor C.1 C.2.1 hdg (k p e s m args below meth c H locs ls C hl hP hS)
theorem tm_ldiv {x y : Int64} (hne : ¬ y = 0) (n : Nat) (hn : pc + 1 = n) (hdg : decode cc pc = .ok (.ldiv, 1)) (k : Tm g d own cc nL ret Qc n l (.long (x / y) :: st) M L) : Tm g d own cc nL ret Qc pc l (.long y :: .long x :: st) M L := by
  subst hn
  exact fun p e s m args below meth c H locs ls C hl hP hS => lv_ldiv C.1 C.2.1 hdg hne (k p e s m args below meth c H locs ls C hl hP hS)
theorem tm_lrem {x y : Int64} (hne : ¬ y = 0) (n : Nat) (hn : pc + 1 = n) (hdg : decode cc pc = .ok (.lrem, 1)) (k : Tm g d own cc nL ret Qc n l (.long (x - x / y * y) :: st) M L) : Tm g d own cc nL ret Qc pc l (.long y :: .long x :: st) M L := by
  subst hn
  exact fun p e s m args below meth c H locs ls C hl hP hS => lv_lrem C.1 C.2.1 hdg hne (k p e s m args below meth c H locs ls C hl hP hS)
theorem tm_lneg {x : Int64} (n : Nat) (hn : pc + 1 = n) (hdg : decode cc pc = .ok (.lneg, 1)) (k : Tm g d own cc nL ret Qc n l (.long (-x) :: st) M L) : Tm g d own cc nL ret Qc pc l (.long x :: st) M L := by
  subst hn
  exact fun p e s m args below meth c H locs ls C hl hP hS => lv_lneg C.1 C.2.1 hdg (k p e s m args below meth c H locs ls C hl hP hS)
theorem tm_lshl {x : Int64} {y : Int32} (n : Nat) (hn : pc + 1 = n) (hdg : decode cc pc = .ok (.lshl, 1)) (k : Tm g d own cc nL ret Qc n l (.long (x <<< (y.toInt64 &&& 63)) :: st) M L) : Tm g d own cc nL ret Qc pc l (.int y :: .long x :: st) M L := by
  subst hn
  exact fun p e s m args below meth c H locs ls C hl hP hS => lv_lshl C.1 C.2.1 hdg rfl (k p e s m args below meth c H locs ls C hl hP hS)
theorem tm_lcmp {x y : Int64} (n : Nat) (hn : pc + 1 = n) (hdg : decode cc pc = .ok (.lcmp, 1)) (k : Tm g d own cc nL ret Qc n l (.int (lg_cmp x y) :: st) M L) : Tm g d own cc nL ret Qc pc l (.long y :: .long x :: st) M L := by
  subst hn
  exact fun p e s m args below meth c H locs ls C hl hP hS => W.lcmp C.1 C.2.1 hdg (k p e s m args below meth c H locs ls C hl hP hS)
theorem tm_i2l {x : Int32} (n : Nat) (hn : pc + 1 = n) (hdg : decode cc pc = .ok (.i2l, 1)) (k : Tm g d own cc nL ret Qc n l (.long (x.toInt64) :: st) M L) : Tm g d own cc nL ret Qc pc l (.int x :: st) M L := by
  subst hn
  exact fun p e s m args below meth c H locs ls C hl hP hS => lv_i2l C.1 C.2.1 hdg rfl (k p e s m args below meth c H locs ls C hl hP hS)
theorem tm_l2i {x : Int64} (n : Nat) (hn : pc + 1 = n) (hdg : decode cc pc = .ok (.l2i, 1)) (k : Tm g d own cc nL ret Qc n l (.int (x.toInt32) :: st) M L) : Tm g d own cc nL ret Qc pc l (.long x :: st) M L := by
  subst hn
  exact fun p e s m args below meth c H locs ls C hl hP hS => lv_l2i C.1 C.2.1 hdg rfl (k p e s m args below meth c H locs ls C hl hP hS)
theorem tm_i2b {x : Int32} (n : Nat) (hn : pc + 1 = n) (hdg : decode cc pc = .ok (.i2b, 1)) (k : Tm g d own cc nL ret Qc n l (.int (x.toInt8.toInt32) :: st) M L) : Tm g d own cc nL ret Qc pc l (.int x :: st) M L := by
  subst hn
  exact fun p e s m args below meth c H locs ls C hl hP hS => lv_i2b C.1 C.2.1 hdg rfl (k p e s m args below meth c H locs ls C hl hP hS)
theorem tm_i2s {x : Int32} (n : Nat) (hn : pc + 1 = n) (hdg : decode cc pc = .ok (.i2s, 1)) (k : Tm g d own cc nL ret Qc n l (.int (x.toInt16.toInt32) :: st) M L) : Tm g d own cc nL ret Qc pc l (.int x :: st) M L := by
  subst hn
  exact fun p e s m args below meth c H locs ls C hl hP hS => lv_i2s C.1 C.2.1 hdg rfl (k p e s m args below meth c H locs ls C hl hP hS)
theorem tm_dup {v : Value} (hv : v.category = 1) (n : Nat) (hn : pc + 1 = n) (hdg : decode cc pc = .ok (.dup, 1)) (k : Tm g d own cc nL ret Qc n l (v :: v :: st) M L) : Tm g d own cc nL ret Qc pc l (v :: st) M L := by
  subst hn
  exact fun p e s m args below meth c H locs ls C hl hP hS => lv_dup C.1 C.2.1 hdg hv (k p e s m args below meth c H locs ls C hl hP hS)
theorem tm_dup2 {v w : Value} (hv : v.category = 1) (hw : w.category = 1) (n : Nat) (hn : pc + 1 = n) (hdg : decode cc pc = .ok (.dup2, 1)) (k : Tm g d own cc nL ret Qc n l (v :: w :: v :: w :: st) M L) : Tm g d own cc nL ret Qc pc l (v :: w :: st) M L := by
  subst hn
  exact fun p e s m args below meth c H locs ls C hl hP hS => lv_dup2_11 C.1 C.2.1 hdg hv hw (k p e s m args below meth c H locs ls C hl hP hS)
theorem tm_pop {v : Value} (hv : v.category = 1) (n : Nat) (hn : pc + 1 = n) (hdg : decode cc pc = .ok (.pop, 1)) (k : Tm g d own cc nL ret Qc n l (st) M L) : Tm g d own cc nL ret Qc pc l (v :: st) M L := by
  subst hn
  exact fun p e s m args below meth c H locs ls C hl hP hS => lv_pop C.1 C.2.1 hdg hv (k p e s m args below meth c H locs ls C hl hP hS)
theorem tm_iload_0 {r : List (Option Value)} {x : Int32} (n : Nat) (hn : pc + 1 = n) (hdg : decode cc pc = .ok (.iload_n 0, 1)) (k : Tm g d own cc nL ret Qc n (some (.int x) :: r) (.int x :: st) M L) : Tm g d own cc nL ret Qc pc (some (.int x) :: r) st M L := by
  subst hn
  exact fun p e s m args below meth c H locs ls C hl hP hS => lv_iload_n C.1 C.2.1 hdg (i := 0) rfl (hl.2.2 0 _ rfl) (k p e s m args below meth c H locs ls C hl hP hS)
theorem tm_lload_0 {r : List (Option Value)} {x : Int64} (n : Nat) (hn : pc + 1 = n) (hdg : decode cc pc = .ok (.lload_n 0, 1)) (k : Tm g d own cc nL ret Qc n (some (.long x) :: r) (.long x :: st) M L) : Tm g d own cc nL ret Qc pc (some (.long x) :: r) st M L := by
  subst hn
  exact fun p e s m args below meth c H locs ls C hl hP hS => lv_lload_n C.1 C.2.1 hdg (i := 0) rfl (hl.2.2 0 _ rfl) (k p e s m args below meth c H locs ls C hl hP hS)
theorem tm_aload_0 {r : List (Option Value)} {x : Nat} (n : Nat) (hn : pc + 1 = n) (hdg : decode cc pc = .ok (.aload_n 0, 1)) (k : Tm g d own cc nL ret Qc n (some (.ref x) :: r) (.ref x :: st) M L) : Tm g d own cc nL ret Qc pc (some (.ref x) :: r) st M L := by
  subst hn
  exact fun p e s m args below meth c H locs ls C hl hP hS => lv_aload_n C.1 C.2.1 hdg (i := 0) rfl (hl.2.2 0 _ rfl) (k p e s m args below meth c H locs ls C hl hP hS)
theorem tm_istore_0 {b : Option Value} {r : List (Option Value)} {x : Int32} (hk : 0 < nL) (n : Nat) (hn : pc + 1 = n) (hdg : decode cc pc = .ok (.istore_n 0, 1)) (k : Tm g d own cc nL ret Qc n (some (.int x) :: r) st M L) : Tm g d own cc nL ret Qc pc (b :: r) (.int x :: st) M L := by
  subst hn
  intro p e s m args below meth c H locs ls C hl hP hS
  refine lv_istore_n C.1 C.2.1 hdg (i := 0) rfl hl.has hk rfl (fun ls' h' => k p e s m args below meth c H locs ls' C (PL.put (keeps_set (l := b :: r) (i := 0) (v := .int x) (fun j w e _ => absurd e (by omega))) h') hP hS)
theorem tm_astore_0 {b : Option Value} {r : List (Option Value)} {x : Nat} (hk : 0 < nL) (n : Nat) (hn : pc + 1 = n) (hdg : decode cc pc = .ok (.astore_n 0, 1)) (k : Tm g d own cc nL ret Qc n (some (.ref x) :: r) st M L) : Tm g d own cc nL ret Qc pc (b :: r) (.ref x :: st) M L := by
  subst hn
  intro p e s m args below meth c H locs ls C hl hP hS
  refine lv_astore_n C.1 C.2.1 hdg (i := 0) rfl hl.has hk rfl (fun ls' h' => k p e s m args below meth c H locs ls' C (PL.put (keeps_set (l := b :: r) (i := 0) (v := .ref x) (fun j w e _ => absurd e (by omega))) h') hP hS)
theorem tm_iinc_0 {r : List (Option Value)} {x : Int32} {z : Int} (v : Int32) (hv : x + Int32.ofInt z = v) (hk : 0 < nL) (n : Nat) (hn : pc + 3 = n) (hdg : decode cc pc = .ok (.iinc 0 z, 3)) (k : Tm g d own cc nL ret Qc n (some (.int v) :: r) st M L) : Tm g d own cc nL ret Qc pc (some (.int x) :: r) st M L := by
  subst hn
  intro p e s m args below meth c H locs ls C hl hP hS
  obtain ⟨kk, hkk⟩ := List.mem_iff_getElem?.mp ((alF_mem (some (.int x) :: r) 0 0 (.int x)).mpr ⟨Nat.zero_le _, rfl⟩)
  refine lv_iinc (v := v) C.1 C.2.1 hdg hl.has hkk hv hk rfl (fun ls' h' => k p e s m args below meth c H locs ls' C (PL.put (keeps_set (l := some (.int x) :: r) (i := 0) (v := .int v) (fun j w e _ => absurd e (by omega))) h') hP hS)
theorem tm_lstore_0 {b b2 : Option Value} {r : List (Option Value)} {x : Int64} (hk : 1 < nL) (n : Nat) (hn : pc + 1 = n) (hdg : decode cc pc = .ok (.lstore_n 0, 1)) (k : Tm g d own cc nL ret Qc n (some (.long x) :: none :: r) st M L) : Tm g d own cc nL ret Qc pc (b :: b2 :: r) (.long x :: st) M L := by
  subst hn
  intro p e s m args below meth c H locs ls C hl hP hS
  refine lv_lstore_n C.1 C.2.1 hdg (i := 0) rfl hl.has hk rfl (fun ls' h' => k p e s m args below meth c H locs ls' C (PL.put2 (keeps_set2 (l := b :: b2 :: r) (i := 0) (v := .long x) (fun j w e _ => absurd e (by omega))) h') hP hS)
theorem tm_iload_1 {a0 : Option Value} {r : List (Option Value)} {x : Int32} (n : Nat) (hn : pc + 1 = n) (hdg : decode cc pc = .ok (.iload_n 1, 1)) (k : Tm g d own cc nL ret Qc n (a0 :: some (.int x) :: r) (.int x :: st) M L) : Tm g d own cc nL ret Qc pc (a0 :: some (.int x) :: r) st M L := by
  subst hn
  exact fun p e s m args below meth c H locs ls C hl hP hS => lv_iload_n C.1 C.2.1 hdg (i := 1) rfl (hl.2.2 1 _ rfl) (k p e s m args below meth c H locs ls C hl hP hS)
theorem tm_lload_1 {a0 : Option Value} {r : List (Option Value)} {x : Int64} (n : Nat) (hn : pc + 1 = n) (hdg : decode cc pc = .ok (.lload_n 1, 1)) (k : Tm g d own cc nL ret Qc n (a0 :: some (.long x) :: r) (.long x :: st) M L) : Tm g d own cc nL ret Qc pc (a0 :: some (.long x) :: r) st M L := by
  subst hn
  exact fun p e s m args below meth c H locs ls C hl hP hS => lv_lload_n C.1 C.2.1 hdg (i := 1) rfl (hl.2.2 1 _ rfl) (k p e s m args below meth c H locs ls C hl hP hS)
theorem tm_aload_1 {a0 : Option Value} {r : List (Option Value)} {x : Nat} (n : Nat) (hn : pc + 1 = n) (hdg : decode cc pc = .ok (.aload_n 1, 1)) (k : Tm g d own cc nL ret Qc n (a0 :: some (.ref x) :: r) (.ref x :: st) M L) : Tm g d own cc nL ret Qc pc (a0 :: some (.ref x) :: r) st M L := by
  subst hn
  exact fun p e s m args below meth c H locs ls C hl hP hS => lv_aload_n C.1 C.2.1 hdg (i := 1) rfl (hl.2.2 1 _ rfl) (k p e s m args below meth c H locs ls C hl hP hS)
theorem tm_istore_1 {a0 : Option Value} {b : Option Value} {r : List (Option Value)} {x : Int32} (hk : 1 < nL) (h2 : n2 a0 = true) (n : Nat) (hn : pc + 1 = n) (hdg : decode cc pc = .ok (.istore_n 1, 1)) (k : Tm g d own cc nL ret Qc n (a0 :: some (.int x) :: r) st M L) : Tm g d own cc nL ret Qc pc (a0 :: b :: r) (.int x :: st) M L := by
  subst hn
  intro p e s m args below meth c H locs ls C hl hP hS
  refine lv_istore_n C.1 C.2.1 hdg (i := 1) rfl hl.has hk rfl (fun ls' h' => k p e s m args below meth c H locs ls' C (PL.put (keeps_set (l := a0 :: b :: r) (i := 1) (v := .int x) (fun j w e q => by
    have : j = 0 := by omega
    subst this
    simp at q
    subst q
    exact n2_not h2)) h') hP hS)
theorem tm_astore_1 {a0 : Option Value} {b : Option Value} {r : List (Option Value)} {x : Nat} (hk : 1 < nL) (h2 : n2 a0 = true) (n : Nat) (hn : pc + 1 = n) (hdg : decode cc pc = .ok (.astore_n 1, 1)) (k : Tm g d own cc nL ret Qc n (a0 :: some (.ref x) :: r) st M L) : Tm g d own cc nL ret Qc pc (a0 :: b :: r) (.ref x :: st) M L := by
  subst hn
  intro p e s m args below meth c H locs ls C hl hP hS
  refine lv_astore_n C.1 C.2.1 hdg (i := 1) rfl hl.has hk rfl (fun ls' h' => k p e s m args below meth c H locs ls' C (PL.put (keeps_set (l := a0 :: b :: r) (i := 1) (v := .ref x) (fun j w e q => by
    have : j = 0 := by omega
    subst this
    simp at q
    subst q
    exact n2_not h2)) h') hP hS)
theorem tm_iinc_1 {a0 : Option Value} {r : List (Option Value)} {x : Int32} {z : Int} (v : Int32) (hv : x + Int32.ofInt z = v) (hk : 1 < nL) (h2 : n2 a0 = true) (n : Nat) (hn : pc + 3 = n) (hdg : decode cc pc = .ok (.iinc 1 z, 3)) (k : Tm g d own cc nL ret Qc n (a0 :: some (.int v) :: r) st M L) : Tm g d own cc nL ret Qc pc (a0 :: some (.int x) :: r) st M L := by
  subst hn
  intro p e s m args below meth c H locs ls C hl hP hS
  obtain ⟨kk, hkk⟩ := List.mem_iff_getElem?.mp ((alF_mem (a0 :: some (.int x) :: r) 0 1 (.int x)).mpr ⟨Nat.zero_le _, rfl⟩)
  refine lv_iinc (v := v) C.1 C.2.1 hdg hl.has hkk hv hk rfl (fun ls' h' => k p e s m args below meth c H locs ls' C (PL.put (keeps_set (l := a0 :: some (.int x) :: r) (i := 1) (v := .int v) (fun j w e q => by
    have : j = 0 := by omega
    subst this
    simp at q
    subst q
    exact n2_not h2)) h') hP hS)
theorem tm_lstore_1 {a0 : Option Value} {b b2 : Option Value} {r : List (Option Value)} {x : Int64} (hk : 2 < nL) (h2 : n2 a0 = true) (n : Nat) (hn : pc + 1 = n) (hdg : decode cc pc = .ok (.lstore_n 1, 1)) (k : Tm g d own cc nL ret Qc n (a0 :: some (.long x) :: none :: r) st M L) : Tm g d own cc nL ret Qc pc (a0 :: b :: b2 :: r) (.long x :: st) M L := by
  subst hn
  intro p e s m args below meth c H locs ls C hl hP hS
  refine lv_lstore_n C.1 C.2.1 hdg (i := 1) rfl hl.has hk rfl (fun ls' h' => k p e s m args below meth c H locs ls' C (PL.put2 (keeps_set2 (l := a0 :: b :: b2 :: r) (i := 1) (v := .long x) (fun j w e q => by
    have : j = 0 := by omega
    subst this
    simp at q
    subst q
    exact n2_not h2)) h') hP hS)
theorem tm_iload_2 {a0 a1 : Option Value} {r : List (Option Value)} {x : Int32} (n : Nat) (hn : pc + 1 = n) (hdg : decode cc pc = .ok (.iload_n 2, 1)) (k : Tm g d own cc nL ret Qc n (a0 :: a1 :: some (.int x) :: r) (.int x :: st) M L) : Tm g d own cc nL ret Qc pc (a0 :: a1 :: some (.int x) :: r) st M L := by
  subst hn
  exact fun p e s m args below meth c H locs ls C hl hP hS => lv_iload_n C.1 C.2.1 hdg (i := 2) rfl (hl.2.2 2 _ rfl) (k p e s m args below meth c H locs ls C hl hP hS)
theorem tm_lload_2 {a0 a1 : Option Value} {r : List (Option Value)} {x : Int64} (n : Nat) (hn : pc + 1 = n) (hdg : decode cc pc = .ok (.lload_n 2, 1)) (k : Tm g d own cc nL ret Qc n (a0 :: a1 :: some (.long x) :: r) (.long x :: st) M L) : Tm g d own cc nL ret Qc pc (a0 :: a1 :: some (.long x) :: r) st M L := by
  subst hn
  exact fun p e s m args below meth c H locs ls C hl hP hS => lv_lload_n C.1 C.2.1 hdg (i := 2) rfl (hl.2.2 2 _ rfl) (k p e s m args below meth c H locs ls C hl hP hS)
theorem tm_aload_2 {a0 a1 : Option Value} {r : List (Option Value)} {x : Nat} (n : Nat) (hn : pc + 1 = n) (hdg : decode cc pc = .ok (.aload_n 2, 1)) (k : Tm g d own cc nL ret Qc n (a0 :: a1 :: some (.ref x) :: r) (.ref x :: st) M L) : Tm g d own cc nL ret Qc pc (a0 :: a1 :: some (.ref x) :: r) st M L := by
  subst hn
  exact fun p e s m args below meth c H locs ls C hl hP hS => lv_aload_n C.1 C.2.1 hdg (i := 2) rfl (hl.2.2 2 _ rfl) (k p e s m args below meth c H locs ls C hl hP hS)
theorem tm_istore_2 {a0 a1 : Option Value} {b : Option Value} {r : List (Option Value)} {x : Int32} (hk : 2 < nL) (h2 : n2 a1 = true) (n : Nat) (hn : pc + 1 = n) (hdg : decode cc pc = .ok (.istore_n 2, 1)) (k : Tm g d own cc nL ret Qc n (a0 :: a1 :: some (.int x) :: r) st M L) : Tm g d own cc nL ret Qc pc (a0 :: a1 :: b :: r) (.int x :: st) M L := by
  subst hn
  intro p e s m args below meth c H locs ls C hl hP hS
  refine lv_istore_n C.1 C.2.1 hdg (i := 2) rfl hl.has hk rfl (fun ls' h' => k p e s m args below meth c H locs ls' C (PL.put (keeps_set (l := a0 :: a1 :: b :: r) (i := 2) (v := .int x) (fun j w e q => by
    have : j = 1 := by omega
    subst this
    simp at q
    subst q
    exact n2_not h2)) h') hP hS)
theorem tm_astore_2 {a0 a1 : Option Value} {b : Option Value} {r : List (Option Value)} {x : Nat} (hk : 2 < nL) (h2 : n2 a1 = true) (n : Nat) (hn : pc + 1 = n) (hdg : decode cc pc = .ok (.astore_n 2, 1)) (k : Tm g d own cc nL ret Qc n (a0 :: a1 :: some (.ref x) :: r) st M L) : Tm g d own cc nL ret Qc pc (a0 :: a1 :: b :: r) (.ref x :: st) M L := by
  subst hn
  intro p e s m args below meth c H locs ls C hl hP hS
  refine lv_astore_n C.1 C.2.1 hdg (i := 2) rfl hl.has hk rfl (fun ls' h' => k p e s m args below meth c H locs ls' C (PL.put (keeps_set (l := a0 :: a1 :: b :: r) (i := 2) (v := .ref x) (fun j w e q => by
    have : j = 1 := by omega
    subst this
    simp at q
    subst q
    exact n2_not h2)) h') hP hS)
theorem tm_iinc_2 {a0 a1 : Option Value} {r : List (Option Value)} {x : Int32} {z : Int} (v : Int32) (hv : x + Int32.ofInt z = v) (hk : 2 < nL) (h2 : n2 a1 = true) (n : Nat) (hn : pc + 3 = n) (hdg : decode cc pc = .ok (.iinc 2 z, 3)) (k : Tm g d own cc nL ret Qc n (a0 :: a1 :: some (.int v) :: r) st M L) : Tm g d own cc nL ret Qc pc (a0 :: a1 :: some (.int x) :: r) st M L := by
  subst hn
  intro p e s m args below meth c H locs ls C hl hP hS
  obtain ⟨kk, hkk⟩ := List.mem_iff_getElem?.mp ((alF_mem (a0 :: a1 :: some (.int x) :: r) 0 2 (.int x)).mpr ⟨Nat.zero_le _, rfl⟩)
  refine lv_iinc (v := v) C.1 C.2.1 hdg hl.has hkk hv hk rfl (fun ls' h' => k p e s m args below meth c H locs ls' C (PL.put (keeps_set (l := a0 :: a1 :: some (.int x) :: r) (i := 2) (v := .int v) (fun j w e q => by
    have : j = 1 := by omega
    subst this
    simp at q
    subst q
    exact n2_not h2)) h') hP hS)
theorem tm_lstore_2 {a0 a1 : Option Value} {b b2 : Option Value} {r : List (Option Value)} {x : Int64} (hk : 3 < nL) (h2 : n2 a1 = true) (n : Nat) (hn : pc + 1 = n) (hdg : decode cc pc = .ok (.lstore_n 2, 1)) (k : Tm g d own cc nL ret Qc n (a0 :: a1 :: some (.long x) :: none :: r) st M L) : Tm g d own cc nL ret Qc pc (a0 :: a1 :: b :: b2 :: r) (.long x :: st) M L := by
  subst hn
  intro p e s m args below meth c H locs ls C hl hP hS
  refine lv_lstore_n C.1 C.2.1 hdg (i := 2) rfl hl.has hk rfl (fun ls' h' => k p e s m args below meth c H locs ls' C (PL.put2 (keeps_set2 (l := a0 :: a1 :: b :: b2 :: r) (i := 2) (v := .long x) (fun j w e q => by
    have : j = 1 := by omega
    subst this
    simp at q
    subst q
    exact n2_not h2)) h') hP hS)
theorem tm_iload_3 {a0 a1 a2 : Option Value} {r : List (Option Value)} {x : Int32} (n : Nat) (hn : pc + 1 = n) (hdg : decode cc pc = .ok (.iload_n 3, 1)) (k : Tm g d own cc nL ret Qc n (a0 :: a1 :: a2 :: some (.int x) :: r) (.int x :: st) M L) : Tm g d own cc nL ret Qc pc (a0 :: a1 :: a2 :: some (.int x) :: r) st M L := by
  subst hn
  exact fun p e s m args below meth c H locs ls C hl hP hS => lv_iload_n C.1 C.2.1 hdg (i := 3) rfl (hl.2.2 3 _ rfl) (k p e s m args below meth c H locs ls C hl hP hS)
theorem tm_lload_3 {a0 a1 a2 : Option Value} {r : List (Option Value)} {x : Int64} (n : Nat) (hn : pc + 1 = n) (hdg : decode cc pc = .ok (.lload_n 3, 1)) (k : Tm g d own cc nL ret Qc n (a0 :: a1 :: a2 :: some (.long x) :: r) (.long x :: st) M L) : Tm g d own cc nL ret Qc pc (a0 :: a1 :: a2 :: some (.long x) :: r) st M L := by
  subst hn
  exact fun p e s m args below meth c H locs ls C hl hP hS => lv_lload_n C.1 C.2.1 hdg (i := 3) rfl (hl.2.2 3 _ rfl) (k p e s m args below meth c H locs ls C hl hP hS)
theorem tm_aload_3 {a0 a1 a2 : Option Value} {r : List (Option Value)} {x : Nat} (n : Nat) (hn : pc + 1 = n) (hdg : decode cc pc = .ok (.aload_n 3, 1)) (k : Tm g d own cc nL ret Qc n (a0 :: a1 :: a2 :: some (.ref x) :: r) (.ref x :: st) M L) : Tm g d own cc nL ret Qc pc (a0 :: a1 :: a2 :: some (.ref x) :: r) st M L := by
  subst hn
  exact fun p e s m args below meth c H locs ls C hl hP hS => lv_aload_n C.1 C.2.1 hdg (i := 3) rfl (hl.2.2 3 _ rfl) (k p e s m args below meth c H locs ls C hl hP hS)
theorem tm_istore_3 {a0 a1 a2 : Option Value} {b : Option Value} {r : List (Option Value)} {x : Int32} (hk : 3 < nL) (h2 : n2 a2 = true) (n : Nat) (hn : pc + 1 = n) (hdg : decode cc pc = .ok (.istore_n 3, 1)) (k : Tm g d own cc nL ret Qc n (a0 :: a1 :: a2 :: some (.int x) :: r) st M L) : Tm g d own cc nL ret Qc pc (a0 :: a1 :: a2 :: b :: r) (.int x :: st) M L := by
  subst hn
  intro p e s m args below meth c H locs ls C hl hP hS
  refine lv_istore_n C.1 C.2.1 hdg (i := 3) rfl hl.has hk rfl (fun ls' h' => k p e s m args below meth c H locs ls' C (PL.put (keeps_set (l := a0 :: a1 :: a2 :: b :: r) (i := 3) (v := .int x) (fun j w e q => by
    have : j = 2 := by omega
    subst this
    simp at q
    subst q
    exact n2_not h2)) h') hP hS)
theorem tm_astore_3 {a0 a1 a2 : Option Value} {b : Option Value} {r : List (Option Value)} {x : Nat} (hk : 3 < nL) (h2 : n2 a2 = true) (n : Nat) (hn : pc + 1 = n) (hdg : decode cc pc = .ok (.astore_n 3, 1)) (k : Tm g d own cc nL ret Qc n (a0 :: a1 :: a2 :: some (.ref x) :: r) st M L) : Tm g d own cc nL ret Qc pc (a0 :: a1 :: a2 :: b :: r) (.ref x :: st) M L := by
  subst hn
  intro p e s m args below meth c H locs ls C hl hP hS
  refine lv_astore_n C.1 C.2.1 hdg (i := 3) rfl hl.has hk rfl (fun ls' h' => k p e s m args below meth c H locs ls' C (PL.put (keeps_set (l := a0 :: a1 :: a2 :: b :: r) (i := 3) (v := .ref x) (fun j w e q => by
    have : j = 2 := by omega
    subst this
    simp at q
    subst q
    exact n2_not h2)) h') hP hS)
theorem tm_iinc_3 {a0 a1 a2 : Option Value} {r : List (Option Value)} {x : Int32} {z : Int} (v : Int32) (hv : x + Int32.ofInt z = v) (hk : 3 < nL) (h2 : n2 a2 = true) (n : Nat) (hn : pc + 3 = n) (hdg : decode cc pc = .ok (.iinc 3 z, 3)) (k : Tm g d own cc nL ret Qc n (a0 :: a1 :: a2 :: some (.int v) :: r) st M L) : Tm g d own cc nL ret Qc pc (a0 :: a1 :: a2 :: some (.int x) :: r) st M L := by
  subst hn
  intro p e s m args below meth c H locs ls C hl hP hS
  obtain ⟨kk, hkk⟩ := List.mem_iff_getElem?.mp ((alF_mem (a0 :: a1 :: a2 :: some (.int x) :: r) 0 3 (.int x)).mpr ⟨Nat.zero_le _, rfl⟩)
  refine lv_iinc (v := v) C.1 C.2.1 hdg hl.has hkk hv hk rfl (fun ls' h' => k p e s m args below meth c H locs ls' C (PL.put (keeps_set (l := a0 :: a1 :: a2 :: some (.int x) :: r) (i := 3) (v := .int v) (fun j w e q => by
    have : j = 2 := by omega
    subst this
    simp at q
    subst q
    exact n2_not h2)) h') hP hS)
theorem tm_lstore_3 {a0 a1 a2 : Option Value} {b b2 : Option Value} {r : List (Option Value)} {x : Int64} (hk : 4 < nL) (h2 : n2 a2 = true) (n : Nat) (hn : pc + 1 = n) (hdg : decode cc pc = .ok (.lstore_n 3, 1)) (k : Tm g d own cc nL ret Qc n (a0 :: a1 :: a2 :: some (.long x) :: none :: r) st M L) : Tm g d own cc nL ret Qc pc (a0 :: a1 :: a2 :: b :: b2 :: r) (.long x :: st) M L := by
  subst hn
  intro p e s m args below meth c H locs ls C hl hP hS
  refine lv_lstore_n C.1 C.2.1 hdg (i := 3) rfl hl.has hk rfl (fun ls' h' => k p e s m args below meth c H locs ls' C (PL.put2 (keeps_set2 (l := a0 :: a1 :: a2 :: b :: b2 :: r) (i := 3) (v := .long x) (fun j w e q => by
    have : j = 2 := by omega
    subst this
    simp at q
    subst q
    exact n2_not h2)) h') hP hS)
theorem tm_iload_4 {a0 a1 a2 a3 : Option Value} {r : List (Option Value)} {x : Int32} (n : Nat) (hn : pc + 2 = n) (hdg : decode cc pc = .ok (.iload 4, 2)) (k : Tm g d own cc nL ret Qc n (a0 :: a1 :: a2 :: a3 :: some (.int x) :: r) (.int x :: st) M L) : Tm g d own cc nL ret Qc pc (a0 :: a1 :: a2 :: a3 :: some (.int x) :: r) st M L := by
  subst hn
  exact fun p e s m args below meth c H locs ls C hl hP hS => lv_iload C.1 C.2.1 hdg (hl.2.2 4 _ rfl) (k p e s m args below meth c H locs ls C hl hP hS)
theorem tm_lload_4 {a0 a1 a2 a3 : Option Value} {r : List (Option Value)} {x : Int64} (n : Nat) (hn : pc + 2 = n) (hdg : decode cc pc = .ok (.lload 4, 2)) (k : Tm g d own cc nL ret Qc n (a0 :: a1 :: a2 :: a3 :: some (.long x) :: r) (.long x :: st) M L) : Tm g d own cc nL ret Qc pc (a0 :: a1 :: a2 :: a3 :: some (.long x) :: r) st M L := by
  subst hn
  exact fun p e s m args below meth c H locs ls C hl hP hS => lv_lload C.1 C.2.1 hdg (hl.2.2 4 _ rfl) (k p e s m args below meth c H locs ls C hl hP hS)
theorem tm_aload_4 {a0 a1 a2 a3 : Option Value} {r : List (Option Value)} {x : Nat} (n : Nat) (hn : pc + 2 = n) (hdg : decode cc pc = .ok (.aload 4, 2)) (k : Tm g d own cc nL ret Qc n (a0 :: a1 :: a2 :: a3 :: some (.ref x) :: r) (.ref x :: st) M L) : Tm g d own cc nL ret Qc pc (a0 :: a1 :: a2 :: a3 :: some (.ref x) :: r) st M L := by
  subst hn
  exact fun p e s m args below meth c H locs ls C hl hP hS => lv_aload C.1 C.2.1 hdg (hl.2.2 4 _ rfl) (k p e s m args below meth c H locs ls C hl hP hS)
theorem tm_istore_4 {a0 a1 a2 a3 : Option Value} {b : Option Value} {r : List (Option Value)} {x : Int32} (hk : 4 < nL) (h2 : n2 a3 = true) (n : Nat) (hn : pc + 2 = n) (hdg : decode cc pc = .ok (.istore 4, 2)) (k : Tm g d own cc nL ret Qc n (a0 :: a1 :: a2 :: a3 :: some (.int x) :: r) st M L) : Tm g d own cc nL ret Qc pc (a0 :: a1 :: a2 :: a3 :: b :: r) (.int x :: st) M L := by
  subst hn
  intro p e s m args below meth c H locs ls C hl hP hS
  refine lv_istore C.1 C.2.1 hdg hl.has hk rfl (fun ls' h' => k p e s m args below meth c H locs ls' C (PL.put (keeps_set (l := a0 :: a1 :: a2 :: a3 :: b :: r) (i := 4) (v := .int x) (fun j w e q => by
    have : j = 3 := by omega
    subst this
    simp at q
    subst q
    exact n2_not h2)) h') hP hS)
theorem tm_astore_4 {a0 a1 a2 a3 : Option Value} {b : Option Value} {r : List (Option Value)} {x : Nat} (hk : 4 < nL) (h2 : n2 a3 = true) (n : Nat) (hn : pc + 2 = n) (hdg : decode cc pc = .ok (.astore 4, 2)) (k : Tm g d own cc nL ret Qc n (a0 :: a1 :: a2 :: a3 :: some (.ref x) :: r) st M L) : Tm g d own cc nL ret Qc pc (a0 :: a1 :: a2 :: a3 :: b :: r) (.ref x :: st) M L := by
  subst hn
  intro p e s m args below meth c H locs ls C hl hP hS
  refine lv_astore C.1 C.2.1 hdg hl.has hk rfl (fun ls' h' => k p e s m args below meth c H locs ls' C (PL.put (keeps_set (l := a0 :: a1 :: a2 :: a3 :: b :: r) (i := 4) (v := .ref x) (fun j w e q => by
    have : j = 3 := by omega
    subst this
    simp at q
    subst q
    exact n2_not h2)) h') hP hS)
theorem tm_iinc_4 {a0 a1 a2 a3 : Option Value} {r : List (Option Value)} {x : Int32} {z : Int} (v : Int32) (hv : x + Int32.ofInt z = v) (hk : 4 < nL) (h2 : n2 a3 = true) (n : Nat) (hn : pc + 3 = n) (hdg : decode cc pc = .ok (.iinc 4 z, 3)) (k : Tm g d own cc nL ret Qc n (a0 :: a1 :: a2 :: a3 :: some (.int v) :: r) st M L) : Tm g d own cc nL ret Qc pc (a0 :: a1 :: a2 :: a3 :: some (.int x) :: r) st M L := by
  subst hn
  intro p e s m args below meth c H locs ls C hl hP hS
  obtain ⟨kk, hkk⟩ := List.mem_iff_getElem?.mp ((alF_mem (a0 :: a1 :: a2 :: a3 :: some (.int x) :: r) 0 4 (.int x)).mpr ⟨Nat.zero_le _, rfl⟩)
  refine lv_iinc (v := v) C.1 C.2.1 hdg hl.has hkk hv hk rfl (fun ls' h' => k p e s m args below meth c H locs ls' C (PL.put (keeps_set (l := a0 :: a1 :: a2 :: a3 :: some (.int x) :: r) (i := 4) (v := .int v) (fun j w e q => by
    have : j = 3 := by omega
    subst this
    simp at q
    subst q
    exact n2_not h2)) h') hP hS)
theorem tm_lstore_4 {a0 a1 a2 a3 : Option Value} {b b2 : Option Value} {r : List (Option Value)} {x : Int64} (hk : 5 < nL) (h2 : n2 a3 = true) (n : Nat) (hn : pc + 2 = n) (hdg : decode cc pc = .ok (.lstore 4, 2)) (k : Tm g d own cc nL ret Qc n (a0 :: a1 :: a2 :: a3 :: some (.long x) :: none :: r) st M L) : Tm g d own cc nL ret Qc pc (a0 :: a1 :: a2 :: a3 :: b :: b2 :: r) (.long x :: st) M L := by
  subst hn
  intro p e s m args below meth c H locs ls C hl hP hS
  refine lv_lstore C.1 C.2.1 hdg hl.has hk rfl (fun ls' h' => k p e s m args below meth c H locs ls' C (PL.put2 (keeps_set2 (l := a0 :: a1 :: a2 :: a3 :: b :: b2 :: r) (i := 4) (v := .long x) (fun j w e q => by
    have : j = 3 := by omega
    subst this
    simp at q
    subst q
    exact n2_not h2)) h') hP hS)
theorem tm_iload_5 {a0 a1 a2 a3 a4 : Option Value} {r : List (Option Value)} {x : Int32} (n : Nat) (hn : pc + 2 = n) (hdg : decode cc pc = .ok (.iload 5, 2)) (k : Tm g d own cc nL ret Qc n (a0 :: a1 :: a2 :: a3 :: a4 :: some (.int x) :: r) (.int x :: st) M L) : Tm g d own cc nL ret Qc pc (a0 :: a1 :: a2 :: a3 :: a4 :: some (.int x) :: r) st M L := by
  subst hn
  exact fun p e s m args below meth c H locs ls C hl hP hS => lv_iload C.1 C.2.1 hdg (hl.2.2 5 _ rfl) (k p e s m args below meth c H locs ls C hl hP hS)
theorem tm_lload_5 {a0 a1 a2 a3 a4 : Option Value} {r : List (Option Value)} {x : Int64} (n : Nat) (hn : pc + 2 = n) (hdg : decode cc pc = .ok (.lload 5, 2)) (k : Tm g d own cc nL ret Qc n (a0 :: a1 :: a2 :: a3 :: a4 :: some (.long x) :: r) (.long x :: st) M L) : Tm g d own cc nL ret Qc pc (a0 :: a1 :: a2 :: a3 :: a4 :: some (.long x) :: r) st M L := by
  subst hn
  exact fun p e s m args below meth c H locs ls C hl hP hS => lv_lload C.1 C.2.1 hdg (hl.2.2 5 _ rfl) (k p e s m args below meth c H locs ls C hl hP hS)
theorem tm_aload_5 {a0 a1 a2 a3 a4 : Option Value} {r : List (Option Value)} {x : Nat} (n : Nat) (hn : pc + 2 = n) (hdg : decode cc pc = .ok (.aload 5, 2)) (k : Tm g d own cc nL ret Qc n (a0 :: a1 :: a2 :: a3 :: a4 :: some (.ref x) :: r) (.ref x :: st) M L) : Tm g d own cc nL ret Qc pc (a0 :: a1 :: a2 :: a3 :: a4 :: some (.ref x) :: r) st M L := by
  subst hn
  exact fun p e s m args below meth c H locs ls C hl hP hS => lv_aload C.1 C.2.1 hdg (hl.2.2 5 _ rfl) (k p e s m args below meth c H locs ls C hl hP hS)
theorem tm_istore_5 {a0 a1 a2 a3 a4 : Option Value} {b : Option Value} {r : List (Option Value)} {x : Int32} (hk : 5 < nL) (h2 : n2 a4 = true) (n : Nat) (hn : pc + 2 = n) (hdg : decode cc pc = .ok (.istore 5, 2)) (k : Tm g d own cc nL ret Qc n (a0 :: a1 :: a2 :: a3 :: a4 :: some (.int x) :: r) st M L) : Tm g d own cc nL ret Qc pc (a0 :: a1 :: a2 :: a3 :: a4 :: b :: r) (.int x :: st) M L := by
  subst hn
  intro p e s m args below meth c H locs ls C hl hP hS
  refine lv_istore C.1 C.2.1 hdg hl.has hk rfl (fun ls' h' => k p e s m args below meth c H locs ls' C (PL.put (keeps_set (l := a0 :: a1 :: a2 :: a3 :: a4 :: b :: r) (i := 5) (v := .int x) (fun j w e q => by
    have : j = 4 := by omega
    subst this
    simp at q
    subst q
    exact n2_not h2)) h') hP hS)
theorem tm_astore_5 {a0 a1 a2 a3 a4 : Option Value} {b : Option Value} {r : List (Option Value)} {x : Nat} (hk : 5 < nL) (h2 : n2 a4 = true) (n : Nat) (hn : pc + 2 = n) (hdg : decode cc pc = .ok (.astore 5, 2)) (k : Tm g d own cc nL ret Qc n (a0 :: a1 :: a2 :: a3 :: a4 :: some (.ref x) :: r) st M L) : Tm g d own cc nL ret Qc pc (a0 :: a1 :: a2 :: a3 :: a4 :: b :: r) (.ref x :: st) M L := by
  subst hn
  intro p e s m args below meth c H locs ls C hl hP hS
  refine lv_astore C.1 C.2.1 hdg hl.has hk rfl (fun ls' h' => k p e s m args below meth c H locs ls' C (PL.put (keeps_set (l := a0 :: a1 :: a2 :: a3 :: a4 :: b :: r) (i := 5) (v := .ref x) (fun j w e q => by
    have : j = 4 := by omega
    subst this
    simp at q
    subst q
    exact n2_not h2)) h') hP hS)
theorem tm_iinc_5 {a0 a1 a2 a3 a4 : Option Value} {r : List (Option Value)} {x : Int32} {z : Int} (v : Int32) (hv : x + Int32.ofInt z = v) (hk : 5 < nL) (h2 : n2 a4 = true) (n : Nat) (hn : pc + 3 = n) (hdg : decode cc pc = .ok (.iinc 5 z, 3)) (k : Tm g d own cc nL ret Qc n (a0 :: a1 :: a2 :: a3 :: a4 :: some (.int v) :: r) st M L) : Tm g d own cc nL ret Qc pc (a0 :: a1 :: a2 :: a3 :: a4 :: some (.int x) :: r) st M L := by
  subst hn
  intro p e s m args below meth c H locs ls C hl hP hS
  obtain ⟨kk, hkk⟩ := List.mem_iff_getElem?.mp ((alF_mem (a0 :: a1 :: a2 :: a3 :: a4 :: some (.int x) :: r) 0 5 (.int x)).mpr ⟨Nat.zero_le _, rfl⟩)
  refine lv_iinc (v := v) C.1 C.2.1 hdg hl.has hkk hv hk rfl (fun ls' h' => k p e s m args below meth c H locs ls' C (PL.put (keeps_set (l := a0 :: a1 :: a2 :: a3 :: a4 :: some (.int x) :: r) (i := 5) (v := .int v) (fun j w e q => by
    have : j = 4 := by omega
    subst this
    simp at q
    subst q
    exact n2_not h2)) h') hP hS)
theorem tm_lstore_5 {a0 a1 a2 a3 a4 : Option Value} {b b2 : Option Value} {r : List (Option Value)} {x : Int64} (hk : 6 < nL) (h2 : n2 a4 = true) (n : Nat) (hn : pc + 2 = n) (hdg : decode cc pc = .ok (.lstore 5, 2)) (k : Tm g d own cc nL ret Qc n (a0 :: a1 :: a2 :: a3 :: a4 :: some (.long x) :: none :: r) st M L) : Tm g d own cc nL ret Qc pc (a0 :: a1 :: a2 :: a3 :: a4 :: b :: b2 :: r) (.long x :: st) M L := by
  subst hn
  intro p e s m args below meth c H locs ls C hl hP hS
  refine lv_lstore C.1 C.2.1 hdg hl.has hk rfl (fun ls' h' => k p e s m args below meth c H locs ls' C (PL.put2 (keeps_set2 (l := a0 :: a1 :: a2 :: a3 :: a4 :: b :: b2 :: r) (i := 5) (v := .long x) (fun j w e q => by
    have : j = 4 := by omega
    subst this
    simp at q
    subst q
    exact n2_not h2)) h') hP hS)
theorem tm_iload_6 {a0 a1 a2 a3 a4 a5 : Option Value} {r : List (Option Value)} {x : Int32} (n : Nat) (hn : pc + 2 = n) (hdg : decode cc pc = .ok (.iload 6, 2)) (k : Tm g d own cc nL ret Qc n (a0 :: a1 :: a2 :: a3 :: a4 :: a5 :: some (.int x) :: r) (.int x :: st) M L) : Tm g d own cc nL ret Qc pc (a0 :: a1 :: a2 :: a3 :: a4 :: a5 :: some (.int x) :: r) st M L := by
  subst hn
  exact fun p e s m args below meth c H locs ls C hl hP hS => lv_iload C.1 C.2.1 hdg (hl.2.2 6 _ rfl) (k p e s m args below meth c H locs ls C hl hP hS)
theorem tm_lload_6 {a0 a1 a2 a3 a4 a5 : Option Value} {r : List (Option Value)} {x : Int64} (n : Nat) (hn : pc + 2 = n) (hdg : decode cc pc = .ok (.lload 6, 2)) (k : Tm g d own cc nL ret Qc n (a0 :: a1 :: a2 :: a3 :: a4 :: a5 :: some (.long x) :: r) (.long x :: st) M L) : Tm g d own cc nL ret Qc pc (a0 :: a1 :: a2 :: a3 :: a4 :: a5 :: some (.long x) :: r) st M L := by
  subst hn
  exact fun p e s m args below meth c H locs ls C hl hP hS => lv_lload C.1 C.2.1 hdg (hl.2.2 6 _ rfl) (k p e s m args below meth c H locs ls C hl hP hS)
theorem tm_aload_6 {a0 a1 a2 a3 a4 a5 : Option Value} {r : List (Option Value)} {x : Nat} (n : Nat) (hn : pc + 2 = n) (hdg : decode cc pc = .ok (.aload 6, 2)) (k : Tm g d own cc nL ret Qc n (a0 :: a1 :: a2 :: a3 :: a4 :: a5 :: some (.ref x) :: r) (.ref x :: st) M L) : Tm g d own cc nL ret Qc pc (a0 :: a1 :: a2 :: a3 :: a4 :: a5 :: some (.ref x) :: r) st M L := by
  subst hn
  exact fun p e s m args below meth c H locs ls C hl hP hS => lv_aload C.1 C.2.1 hdg (hl.2.2 6 _ rfl) (k p e s m args below meth c H locs ls C hl hP hS)
theorem tm_istore_6 {a0 a1 a2 a3 a4 a5 : Option Value} {b : Option Value} {r : List (Option Value)} {x : Int32} (hk : 6 < nL) (h2 : n2 a5 = true) (n : Nat) (hn : pc + 2 = n) (hdg : decode cc pc = .ok (.istore 6, 2)) (k : Tm g d own cc nL ret Qc n (a0 :: a1 :: a2 :: a3 :: a4 :: a5 :: some (.int x) :: r) st M L) : Tm g d own cc nL ret Qc pc (a0 :: a1 :: a2 :: a3 :: a4 :: a5 :: b :: r) (.int x :: st) M L := by
  subst hn
  intro p e s m args below meth c H locs ls C hl hP hS
  refine lv_istore C.1 C.2.1 hdg hl.has hk rfl (fun ls' h' => k p e s m args below meth c H locs ls' C (PL.put (keeps_set (l := a0 :: a1 :: a2 :: a3 :: a4 :: a5 :: b :: r) (i := 6) (v := .int x) (fun j w e q => by
    have : j = 5 := by omega
    subst this
    simp at q
    subst q
    exact n2_not h2)) h') hP hS)
theorem tm_astore_6 {a0 a1 a2 a3 a4 a5 : Option Value} {b : Option Value} {r : List (Option Value)} {x : Nat} (hk : 6 < nL) (h2 : n2 a5 = true) (n : Nat) (hn : pc + 2 = n) (hdg : decode cc pc = .ok (.astore 6, 2)) (k : Tm g d own cc nL ret Qc n (a0 :: a1 :: a2 :: a3 :: a4 :: a5 :: some (.ref x) :: r) st M L) : Tm g d own cc nL ret Qc pc (a0 :: a1 :: a2 :: a3 :: a4 :: a5 :: b :: r) (.ref x :: st) M L := by
  subst hn
  intro p e s m args below meth c H locs ls C hl hP hS
  refine lv_astore C.1 C.2.1 hdg hl.has hk rfl (fun ls' h' => k p e s m args below meth c H locs ls' C (PL.put (keeps_set (l := a0 :: a1 :: a2 :: a3 :: a4 :: a5 :: b :: r) (i := 6) (v := .ref x) (fun j w e q => by
    have : j = 5 := by omega
    subst this
    simp at q
    subst q
    exact n2_not h2)) h') hP hS)
theorem tm_iinc_6 {a0 a1 a2 a3 a4 a5 : Option Value} {r : List (Option Value)} {x : Int32} {z : Int} (v : Int32) (hv : x + Int32.ofInt z = v) (hk : 6 < nL) (h2 : n2 a5 = true) (n : Nat) (hn : pc + 3 = n) (hdg : decode cc pc = .ok (.iinc 6 z, 3)) (k : Tm g d own cc nL ret Qc n (a0 :: a1 :: a2 :: a3 :: a4 :: a5 :: some (.int v) :: r) st M L) : Tm g d own cc nL ret Qc pc (a0 :: a1 :: a2 :: a3 :: a4 :: a5 :: some (.int x) :: r) st M L := by
  subst hn
  intro p e s m args below meth c H locs ls C hl hP hS
  obtain ⟨kk, hkk⟩ := List.mem_iff_getElem?.mp ((alF_mem (a0 :: a1 :: a2 :: a3 :: a4 :: a5 :: some (.int x) :: r) 0 6 (.int x)).mpr ⟨Nat.zero_le _, rfl⟩)
  refine lv_iinc (v := v) C.1 C.2.1 hdg hl.has hkk hv hk rfl (fun ls' h' => k p e s m args below meth c H locs ls' C (PL.put (keeps_set (l := a0 :: a1 :: a2 :: a3 :: a4 :: a5 :: some (.int x) :: r) (i := 6) (v := .int v) (fun j w e q => by
    have : j = 5 := by omega
    subst this
    simp at q
    subst q
    exact n2_not h2)) h') hP hS)
theorem tm_lstore_6 {a0 a1 a2 a3 a4 a5 : Option Value} {b b2 : Option Value} {r : List (Option Value)} {x : Int64} (hk : 7 < nL) (h2 : n2 a5 = true) (n : Nat) (hn : pc + 2 = n) (hdg : decode cc pc = .ok (.lstore 6, 2)) (k : Tm g d own cc nL ret Qc n (a0 :: a1 :: a2 :: a3 :: a4 :: a5 :: some (.long x) :: none :: r) st M L) : Tm g d own cc nL ret Qc pc (a0 :: a1 :: a2 :: a3 :: a4 :: a5 :: b :: b2 :: r) (.long x :: st) M L := by
  subst hn
  intro p e s m args below meth c H locs ls C hl hP hS
  refine lv_lstore C.1 C.2.1 hdg hl.has hk rfl (fun ls' h' => k p e s m args below meth c H locs ls' C (PL.put2 (keeps_set2 (l := a0 :: a1 :: a2 :: a3 :: a4 :: a5 :: b :: b2 :: r) (i := 6) (v := .long x) (fun j w e q => by
    have : j = 5 := by omega
    subst this
    simp at q
    subst q
    exact n2_not h2)) h') hP hS)
theorem tm_iload_7 {a0 a1 a2 a3 a4 a5 a6 : Option Value} {r : List (Option Value)} {x : Int32} (n : Nat) (hn : pc + 2 = n) (hdg : decode cc pc = .ok (.iload 7, 2)) (k : Tm g d own cc nL ret Qc n (a0 :: a1 :: a2 :: a3 :: a4 :: a5 :: a6 :: some (.int x) :: r) (.int x :: st) M L) : Tm g d own cc nL ret Qc pc (a0 :: a1 :: a2 :: a3 :: a4 :: a5 :: a6 :: some (.int x) :: r) st M L := by
  subst hn
  exact fun p e s m args below meth c H locs ls C hl hP hS => lv_iload C.1 C.2.1 hdg (hl.2.2 7 _ rfl) (k p e s m args below meth c H locs ls C hl hP hS)
theorem tm_lload_7 {a0 a1 a2 a3 a4 a5 a6 : Option Value} {r : List (Option Value)} {x : Int64} (n : Nat) (hn : pc + 2 = n) (hdg : decode cc pc = .ok (.lload 7, 2)) (k : Tm g d own cc nL ret Qc n (a0 :: a1 :: a2 :: a3 :: a4 :: a5 :: a6 :: some (.long x) :: r) (.long x :: st) M L) : Tm g d own cc nL ret Qc pc (a0 :: a1 :: a2 :: a3 :: a4 :: a5 :: a6 :: some (.long x) :: r) st M L := by
  subst hn
  exact fun p e s m args below meth c H locs ls C hl hP hS => lv_lload C.1 C.2.1 hdg (hl.2.2 7 _ rfl) (k p e s m args below meth c H locs ls C hl hP hS)
theorem tm_aload_7 {a0 a1 a2 a3 a4 a5 a6 : Option Value} {r : List (Option Value)} {x : Nat} (n : Nat) (hn : pc + 2 = n) (hdg : decode cc pc = .ok (.aload 7, 2)) (k : Tm g d own cc nL ret Qc n (a0 :: a1 :: a2 :: a3 :: a4 :: a5 :: a6 :: some (.ref x) :: r) (.ref x :: st) M L) : Tm g d own cc nL ret Qc pc (a0 :: a1 :: a2 :: a3 :: a4 :: a5 :: a6 :: some (.ref x) :: r) st M L := by
  subst hn
  exact fun p e s m args below meth c H locs ls C hl hP hS => lv_aload C.1 C.2.1 hdg (hl.2.2 7 _ rfl) (k p e s m args below meth c H locs ls C hl hP hS)
theorem tm_istore_7 {a0 a1 a2 a3 a4 a5 a6 : Option Value} {b : Option Value} {r : List (Option Value)} {x : Int32} (hk : 7 < nL) (h2 : n2 a6 = true) (n : Nat) (hn : pc + 2 = n) (hdg : decode cc pc = .ok (.istore 7, 2)) (k : Tm g d own cc nL ret Qc n (a0 :: a1 :: a2 :: a3 :: a4 :: a5 :: a6 :: some (.int x) :: r) st M L) : Tm g d own cc nL ret Qc pc (a0 :: a1 :: a2 :: a3 :: a4 :: a5 :: a6 :: b :: r) (.int x :: st) M L := by
  subst hn
  intro p e s m args below meth c H locs ls C hl hP hS
  refine lv_istore C.1 C.2.1 hdg hl.has hk rfl (fun ls' h' => k p e s m args below meth c H locs ls' C (PL.put (keeps_set (l := a0 :: a1 :: a2 :: a3 :: a4 :: a5 :: a6 :: b :: r) (i := 7) (v := .int x) (fun j w e q => by
    have : j = 6 := by omega
    subst this
    simp at q
    subst q
    exact n2_not h2)) h') hP hS)
theorem tm_astore_7 {a0 a1 a2 a3 a4 a5 a6 : Option Value} {b : Option Value} {r : List (Option Value)} {x : Nat} (hk : 7 < nL) (h2 : n2 a6 = true) (n : Nat) (hn : pc + 2 = n) (hdg : decode cc pc = .ok (.astore 7, 2)) (k : Tm g d own cc nL ret Qc n (a0 :: a1 :: a2 :: a3 :: a4 :: a5 :: a6 :: some (.ref x) :: r) st M L) : Tm g d own cc nL ret Qc pc (a0 :: a1 :: a2 :: a3 :: a4 :: a5 :: a6 :: b :: r) (.ref x :: st) M L := by
  subst hn
  intro p e s m args below meth c H locs ls C hl hP hS
  refine lv_astore C.1 C.2.1 hdg hl.has hk rfl (fun ls' h' => k p e s m args below meth c H locs ls' C (PL.put (keeps_set (l := a0 :: a1 :: a2 :: a3 :: a4 :: a5 :: a6 :: b :: r) (i := 7) (v := .ref x) (fun j w e q => by
    have : j = 6 := by omega
    subst this
    simp at q
    subst q
    exact n2_not h2)) h') hP hS)
theorem tm_iinc_7 {a0 a1 a2 a3 a4 a5 a6 : Option Value} {r : List (Option Value)} {x : Int32} {z : Int} (v : Int32) (hv : x + Int32.ofInt z = v) (hk : 7 < nL) (h2 : n2 a6 = true) (n : Nat) (hn : pc + 3 = n) (hdg : decode cc pc = .ok (.iinc 7 z, 3)) (k : Tm g d own cc nL ret Qc n (a0 :: a1 :: a2 :: a3 :: a4 :: a5 :: a6 :: some (.int v) :: r) st M L) : Tm g d own cc nL ret Qc pc (a0 :: a1 :: a2 :: a3 :: a4 :: a5 :: a6 :: some (.int x) :: r) st M L := by
  subst hn
  intro p e s m args below meth c H locs ls C hl hP hS
  obtain ⟨kk, hkk⟩ := List.mem_iff_getElem?.mp ((alF_mem (a0 :: a1 :: a2 :: a3 :: a4 :: a5 :: a6 :: some (.int x) :: r) 0 7 (.int x)).mpr ⟨Nat.zero_le _, rfl⟩)
  refine lv_iinc (v := v) C.1 C.2.1 hdg hl.has hkk hv hk rfl (fun ls' h' => k p e s m args below meth c H locs ls' C (PL.put (keeps_set (l := a0 :: a1 :: a2 :: a3 :: a4 :: a5 :: a6 :: some (.int x) :: r) (i := 7) (v := .int v) (fun j w e q => by
    have : j = 6 := by omega
    subst this
    simp at q
    subst q
    exact n2_not h2)) h') hP hS)
theorem tm_lstore_7 {a0 a1 a2 a3 a4 a5 a6 : Option Value} {b b2 : Option Value} {r : List (Option Value)} {x : Int64} (hk : 8 < nL) (h2 : n2 a6 = true) (n : Nat) (hn : pc + 2 = n) (hdg : decode cc pc = .ok (.lstore 7, 2)) (k : Tm g d own cc nL ret Qc n (a0 :: a1 :: a2 :: a3 :: a4 :: a5 :: a6 :: some (.long x) :: none :: r) st M L) : Tm g d own cc nL ret Qc pc (a0 :: a1 :: a2 :: a3 :: a4 :: a5 :: a6 :: b :: b2 :: r) (.long x :: st) M L := by
  subst hn
  intro p e s m args below meth c H locs ls C hl hP hS
  refine lv_lstore C.1 C.2.1 hdg hl.has hk rfl (fun ls' h' => k p e s m args below meth c H locs ls' C (PL.put2 (keeps_set2 (l := a0 :: a1 :: a2 :: a3 :: a4 :: a5 :: a6 :: b :: b2 :: r) (i := 7) (v := .long x) (fun j w e q => by
    have : j = 6 := by omega
    subst this
    simp at q
    subst q
    exact n2_not h2)) h') hP hS)
theorem tm_iload_8 {a0 a1 a2 a3 a4 a5 a6 a7 : Option Value} {r : List (Option Value)} {x : Int32} (n : Nat) (hn : pc + 2 = n) (hdg : decode cc pc = .ok (.iload 8, 2)) (k : Tm g d own cc nL ret Qc n (a0 :: a1 :: a2 :: a3 :: a4 :: a5 :: a6 :: a7 :: some (.int x) :: r) (.int x :: st) M L) : Tm g d own cc nL ret Qc pc (a0 :: a1 :: a2 :: a3 :: a4 :: a5 :: a6 :: a7 :: some (.int x) :: r) st M L := by
  subst hn
  exact fun p e s m args below meth c H locs ls C hl hP hS => lv_iload C.1 C.2.1 hdg (hl.2.2 8 _ rfl) (k p e s m args below meth c H locs ls C hl hP hS)
theorem tm_lload_8 {a0 a1 a2 a3 a4 a5 a6 a7 : Option Value} {r : List (Option Value)} {x : Int64} (n : Nat) (hn : pc + 2 = n) (hdg : decode cc pc = .ok (.lload 8, 2)) (k : Tm g d own cc nL ret Qc n (a0 :: a1 :: a2 :: a3 :: a4 :: a5 :: a6 :: a7 :: some (.long x) :: r) (.long x :: st) M L) : Tm g d own cc nL ret Qc pc (a0 :: a1 :: a2 :: a3 :: a4 :: a5 :: a6 :: a7 :: some (.long x) :: r) st M L := by
  subst hn
  exact fun p e s m args below meth c H locs ls C hl hP hS => lv_lload C.1 C.2.1 hdg (hl.2.2 8 _ rfl) (k p e s m args below meth c H locs ls C hl hP hS)
theorem tm_aload_8 {a0 a1 a2 a3 a4 a5 a6 a7 : Option Value} {r : List (Option Value)} {x : Nat} (n : Nat) (hn : pc + 2 = n) (hdg : decode cc pc = .ok (.aload 8, 2)) (k : Tm g d own cc nL ret Qc n (a0 :: a1 :: a2 :: a3 :: a4 :: a5 :: a6 :: a7 :: some (.ref x) :: r) (.ref x :: st) M L) : Tm g d own cc nL ret Qc pc (a0 :: a1 :: a2 :: a3 :: a4 :: a5 :: a6 :: a7 :: some (.ref x) :: r) st M L := by
  subst hn
  exact fun p e s m args below meth c H locs ls C hl hP hS => lv_aload C.1 C.2.1 hdg (hl.2.2 8 _ rfl) (k p e s m args below meth c H locs ls C hl hP hS)
theorem tm_istore_8 {a0 a1 a2 a3 a4 a5 a6 a7 : Option Value} {b : Option Value} {r : List (Option Value)} {x : Int32} (hk : 8 < nL) (h2 : n2 a7 = true) (n : Nat) (hn : pc + 2 = n) (hdg : decode cc pc = .ok (.istore 8, 2)) (k : Tm g d own cc nL ret Qc n (a0 :: a1 :: a2 :: a3 :: a4 :: a5 :: a6 :: a7 :: some (.int x) :: r) st M L) : Tm g d own cc nL ret Qc pc (a0 :: a1 :: a2 :: a3 :: a4 :: a5 :: a6 :: a7 :: b :: r) (.int x :: st) M L := by
  subst hn
  intro p e s m args below meth c H locs ls C hl hP hS
  refine lv_istore C.1 C.2.1 hdg hl.has hk rfl (fun ls' h' => k p e s m args below meth c H locs ls' C (PL.put (keeps_set (l := a0 :: a1 :: a2 :: a3 :: a4 :: a5 :: a6 :: a7 :: b :: r) (i := 8) (v := .int x) (fun j w e q => by
    have : j = 7 := by omega
    subst this
    simp at q
    subst q
    exact n2_not h2)) h') hP hS)
theorem tm_astore_8 {a0 a1 a2 a3 a4 a5 a6 a7 : Option Value} {b : Option Value} {r : List (Option Value)} {x : Nat} (hk : 8 < nL) (h2 : n2 a7 = true) (n : Nat) (hn : pc + 2 = n) (hdg : decode cc pc = .ok (.astore 8, 2)) (k : Tm g d own cc nL ret Qc n (a0 :: a1 :: a2 :: a3 :: a4 :: a5 :: a6 :: a7 :: some (.ref x) :: r) st M L) : Tm g d own cc nL ret Qc pc (a0 :: a1 :: a2 :: a3 :: a4 :: a5 :: a6 :: a7 :: b :: r) (.ref x :: st) M L := by
  subst hn
  intro p e s m args below meth c H locs ls C hl hP hS
  refine lv_astore C.1 C.2.1 hdg hl.has hk rfl (fun ls' h' => k p e s m args below meth c H locs ls' C (PL.put (keeps_set (l := a0 :: a1 :: a2 :: a3 :: a4 :: a5 :: a6 :: a7 :: b :: r) (i := 8) (v := .ref x) (fun j w e q => by
    have : j = 7 := by omega
    subst this
    simp at q
    subst q
    exact n2_not h2)) h') hP hS)
theorem tm_iinc_8 {a0 a1 a2 a3 a4 a5 a6 a7 : Option Value} {r : List (Option Value)} {x : Int32} {z : Int} (v : Int32) (hv : x + Int32.ofInt z = v) (hk : 8 < nL) (h2 : n2 a7 = true) (n : Nat) (hn : pc + 3 = n) (hdg : decode cc pc = .ok (.iinc 8 z, 3)) (k : Tm g d own cc nL ret Qc n (a0 :: a1 :: a2 :: a3 :: a4 :: a5 :: a6 :: a7 :: some (.int v) :: r) st M L) : Tm g d own cc nL ret Qc pc (a0 :: a1 :: a2 :: a3 :: a4 :: a5 :: a6 :: a7 :: some (.int x) :: r) st M L := by
  subst hn
  intro p e s m args below meth c H locs ls C hl hP hS
  obtain ⟨kk, hkk⟩ := List.mem_iff_getElem?.mp ((alF_mem (a0 :: a1 :: a2 :: a3 :: a4 :: a5 :: a6 :: a7 :: some (.int x) :: r) 0 8 (.int x)).mpr ⟨Nat.zero_le _, rfl⟩)
  refine lv_iinc (v := v) C.1 C.2.1 hdg hl.has hkk hv hk rfl (fun ls' h' => k p e s m args below meth c H locs ls' C (PL.put (keeps_set (l := a0 :: a1 :: a2 :: a3 :: a4 :: a5 :: a6 :: a7 :: some (.int x) :: r) (i := 8) (v := .int v) (fun j w e q => by
    have : j = 7 := by omega
    subst this
    simp at q
    subst q
    exact n2_not h2)) h') hP hS)
theorem tm_lstore_8 {a0 a1 a2 a3 a4 a5 a6 a7 : Option Value} {b b2 : Option Value} {r : List (Option Value)} {x : Int64} (hk : 9 < nL) (h2 : n2 a7 = true) (n : Nat) (hn : pc + 2 = n) (hdg : decode cc pc = .ok (.lstore 8, 2)) (k : Tm g d own cc nL ret Qc n (a0 :: a1 :: a2 :: a3 :: a4 :: a5 :: a6 :: a7 :: some (.long x) :: none :: r) st M L) : Tm g d own cc nL ret Qc pc (a0 :: a1 :: a2 :: a3 :: a4 :: a5 :: a6 :: a7 :: b :: b2 :: r) (.long x :: st) M L := by
  subst hn
  intro p e s m args below meth c H locs ls C hl hP hS
  refine lv_lstore C.1 C.2.1 hdg hl.has hk rfl (fun ls' h' => k p e s m args below meth c H locs ls' C (PL.put2 (keeps_set2 (l := a0 :: a1 :: a2 :: a3 :: a4 :: a5 :: a6 :: a7 :: b :: b2 :: r) (i := 8) (v := .long x) (fun j w e q => by
    have : j = 7 := by omega
    subst this
    simp at q
    subst q
    exact n2_not h2)) h') hP hS)
theorem tm_iload_9 {a0 a1 a2 a3 a4 a5 a6 a7 a8 : Option Value} {r : List (Option Value)} {x : Int32} (n : Nat) (hn : pc + 2 = n) (hdg : decode cc pc = .ok (.iload 9, 2)) (k : Tm g d own cc nL ret Qc n (a0 :: a1 :: a2 :: a3 :: a4 :: a5 :: a6 :: a7 :: a8 :: some (.int x) :: r) (.int x :: st) M L) : Tm g d own cc nL ret Qc pc (a0 :: a1 :: a2 :: a3 :: a4 :: a5 :: a6 :: a7 :: a8 :: some (.int x) :: r) st M L := by
  subst hn
  exact fun p e s m args below meth c H locs ls C hl hP hS => lv_iload C.1 C.2.1 hdg (hl.2.2 9 _ rfl) (k p e s m args below meth c H locs ls C hl hP hS)
theorem tm_lload_9 {a0 a1 a2 a3 a4 a5 a6 a7 a8 : Option Value} {r : List (Option Value)} {x : Int64} (n : Nat) (hn : pc + 2 = n) (hdg : decode cc pc = .ok (.lload 9, 2)) (k : Tm g d own cc nL ret Qc n (a0 :: a1 :: a2 :: a3 :: a4 :: a5 :: a6 :: a7 :: a8 :: some (.long x) :: r) (.long x :: st) M L) : Tm g d own cc nL ret Qc pc (a0 :: a1 :: a2 :: a3 :: a4 :: a5 :: a6 :: a7 :: a8 :: some (.long x) :: r) st M L := by
  subst hn
  exact fun p e s m args below meth c H locs ls C hl hP hS => lv_lload C.1 C.2.1 hdg (hl.2.2 9 _ rfl) (k p e s m args below meth c H locs ls C hl hP hS)
theorem tm_aload_9 {a0 a1 a2 a3 a4 a5 a6 a7 a8 : Option Value} {r : List (Option Value)} {x : Nat} (n : Nat) (hn : pc + 2 = n) (hdg : decode cc pc = .ok (.aload 9, 2)) (k : Tm g d own cc nL ret Qc n (a0 :: a1 :: a2 :: a3 :: a4 :: a5 :: a6 :: a7 :: a8 :: some (.ref x) :: r) (.ref x :: st) M L) : Tm g d own cc nL ret Qc pc (a0 :: a1 :: a2 :: a3 :: a4 :: a5 :: a6 :: a7 :: a8 :: some (.ref x) :: r) st M L := by
  subst hn
  exact fun p e s m args below meth c H locs ls C hl hP hS => lv_aload C.1 C.2.1 hdg (hl.2.2 9 _ rfl) (k p e s m args below meth c H locs ls C hl hP hS)
theorem tm_istore_9 {a0 a1 a2 a3 a4 a5 a6 a7 a8 : Option Value} {b : Option Value} {r : List (Option Value)} {x : Int32} (hk : 9 < nL) (h2 : n2 a8 = true) (n : Nat) (hn : pc + 2 = n) (hdg : decode cc pc = .ok (.istore 9, 2)) (k : Tm g d own cc nL ret Qc n (a0 :: a1 :: a2 :: a3 :: a4 :: a5 :: a6 :: a7 :: a8 :: some (.int x) :: r) st M L) : Tm g d own cc nL ret Qc pc (a0 :: a1 :: a2 :: a3 :: a4 :: a5 :: a6 :: a7 :: a8 :: b :: r) (.int x :: st) M L := by
  subst hn
  intro p e s m args below meth c H locs ls C hl hP hS
  refine lv_istore C.1 C.2.1 hdg hl.has hk rfl (fun ls' h' => k p e s m args below meth c H locs ls' C (PL.put (keeps_set (l := a0 :: a1 :: a2 :: a3 :: a4 :: a5 :: a6 :: a7 :: a8 :: b :: r) (i := 9) (v := .int x) (fun j w e q => by
    have : j = 8 := by omega
    subst this
    simp at q
    subst q
    exact n2_not h2)) h') hP hS)
theorem tm_astore_9 {a0 a1 a2 a3 a4 a5 a6 a7 a8 : Option Value} {b : Option Value} {r : List (Option Value)} {x : Nat} (hk : 9 < nL) (h2 : n2 a8 = true) (n : Nat) (hn : pc + 2 = n) (hdg : decode cc pc = .ok (.astore 9, 2)) (k : Tm g d own cc nL ret Qc n (a0 :: a1 :: a2 :: a3 :: a4 :: a5 :: a6 :: a7 :: a8 :: some (.ref x) :: r) st M L) : Tm g d own cc nL ret Qc pc (a0 :: a1 :: a2 :: a3 :: a4 :: a5 :: a6 :: a7 :: a8 :: b :: r) (.ref x :: st) M L := by
  subst hn
  intro p e s m args below meth c H locs ls C hl hP hS
  refine lv_astore C.1 C.2.1 hdg hl.has hk rfl (fun ls' h' => k p e s m args below meth c H locs ls' C (PL.put (keeps_set (l := a0 :: a1 :: a2 :: a3 :: a4 :: a5 :: a6 :: a7 :: a8 :: b :: r) (i := 9) (v := .ref x) (fun j w e q => by
    have : j = 8 := by omega
    subst this
    simp at q
    subst q
    exact n2_not h2)) h') hP hS)
theorem tm_iinc_9 {a0 a1 a2 a3 a4 a5 a6 a7 a8 : Option Value} {r : List (Option Value)} {x : Int32} {z : Int} (v : Int32) (hv : x + Int32.ofInt z = v) (hk : 9 < nL) (h2 : n2 a8 = true) (n : Nat) (hn : pc + 3 = n) (hdg : decode cc pc = .ok (.iinc 9 z, 3)) (k : Tm g d own cc nL ret Qc n (a0 :: a1 :: a2 :: a3 :: a4 :: a5 :: a6 :: a7 :: a8 :: some (.int v) :: r) st M L) : Tm g d own cc nL ret Qc pc (a0 :: a1 :: a2 :: a3 :: a4 :: a5 :: a6 :: a7 :: a8 :: some (.int x) :: r) st M L := by
  subst hn
  intro p e s m args below meth c H locs ls C hl hP hS
  obtain ⟨kk, hkk⟩ := List.mem_iff_getElem?.mp ((alF_mem (a0 :: a1 :: a2 :: a3 :: a4 :: a5 :: a6 :: a7 :: a8 :: some (.int x) :: r) 0 9 (.int x)).mpr ⟨Nat.zero_le _, rfl⟩)
  refine lv_iinc (v := v) C.1 C.2.1 hdg hl.has hkk hv hk rfl (fun ls' h' => k p e s m args below meth c H locs ls' C (PL.put (keeps_set (l := a0 :: a1 :: a2 :: a3 :: a4 :: a5 :: a6 :: a7 :: a8 :: some (.int x) :: r) (i := 9) (v := .int v) (fun j w e q => by
    have : j = 8 := by omega
    subst this
    simp at q
    subst q
    exact n2_not h2)) h') hP hS)
theorem tm_lstore_9 {a0 a1 a2 a3 a4 a5 a6 a7 a8 : Option Value} {b b2 : Option Value} {r : List (Option Value)} {x : Int64} (hk : 10 < nL) (h2 : n2 a8 = true) (n : Nat) (hn : pc + 2 = n) (hdg : decode cc pc = .ok (.lstore 9, 2)) (k : Tm g d own cc nL ret Qc n (a0 :: a1 :: a2 :: a3 :: a4 :: a5 :: a6 :: a7 :: a8 :: some (.long x) :: none :: r) st M L) : Tm g d own cc nL ret Qc pc (a0 :: a1 :: a2 :: a3 :: a4 :: a5 :: a6 :: a7 :: a8 :: b :: b2 :: r) (.long x :: st) M L := by
  subst hn
  intro p e s m args below meth c H locs ls C hl hP hS
  refine lv_lstore C.1 C.2.1 hdg hl.has hk rfl (fun ls' h' => k p e s m args below meth c H locs ls' C (PL.put2 (keeps_set2 (l := a0 :: a1 :: a2 :: a3 :: a4 :: a5 :: a6 :: a7 :: a8 :: b :: b2 :: r) (i := 9) (v := .long x) (fun j w e q => by
    have : j = 8 := by omega
    subst this
    simp at q
    subst q
    exact n2_not h2)) h') hP hS)
theorem tm_if_eq {x : Int32} {off : Int} (tgt n : Nat) (ht : (pc : Int) + off = (tgt : Int)) (hn : pc + 3 = n) (hdg : decode cc pc = .ok (.ifCond .eq off, 3)) (kt : x = 0 → Tm g d own cc nL ret Qc tgt l st M L) (kf : ¬ x = 0 → Tm g d own cc nL ret Qc n l st M L) : Tm g d own cc nL ret Qc pc l (.int x :: st) M L := by
  subst hn
  exact fun p e s m args below meth c H locs ls C hl hP hS => lv_if_eq C.1 C.2.1 hdg ht (fun q => kt q p e s m args below meth c H locs ls C hl hP hS) (fun q => kf q p e s m args below meth c H locs ls C hl hP hS)
theorem tm_if_eq_t {x : Int32} {off : Int} (tgt : Nat) (h : x = 0) (ht : (pc : Int) + off = (tgt : Int)) (hdg : decode cc pc = .ok (.ifCond .eq off, 3)) (kt : Tm g d own cc nL ret Qc tgt l st M L) : Tm g d own cc nL ret Qc pc l (.int x :: st) M L := tm_if_eq tgt _ ht rfl hdg (fun _ => kt) (fun q => absurd h q)
theorem tm_if_eq_f {x : Int32} {off : Int} (n : Nat) {tgt : Nat} (h : ¬ x = 0) (ht : (pc : Int) + off = (tgt : Int)) (hn : pc + 3 = n) (hdg : decode cc pc = .ok (.ifCond .eq off, 3)) (kf : Tm g d own cc nL ret Qc n l st M L) : Tm g d own cc nL ret Qc pc l (.int x :: st) M L := tm_if_eq tgt n ht hn hdg (fun q => absurd q h) (fun _ => kf)
theorem tm_icmp_eq {x y : Int32} {off : Int} (tgt n : Nat) (ht : (pc : Int) + off = (tgt : Int)) (hn : pc + 3 = n) (hdg : decode cc pc = .ok (.if_icmp .eq off, 3)) (kt : x = y → Tm g d own cc nL ret Qc tgt l st M L) (kf : ¬ x = y → Tm g d own cc nL ret Qc n l st M L) : Tm g d own cc nL ret Qc pc l (.int y :: .int x :: st) M L := by
  subst hn
  exact fun p e s m args below meth c H locs ls C hl hP hS => lv_icmp_eq C.1 C.2.1 hdg ht (fun q => kt q p e s m args below meth c H locs ls C hl hP hS) (fun q => kf q p e s m args below meth c H locs ls C hl hP hS)
theorem tm_icmp_eq_t {x y : Int32} {off : Int} (tgt : Nat) (h : x = y) (ht : (pc : Int) + off = (tgt : Int)) (hdg : decode cc pc = .ok (.if_icmp .eq off, 3)) (kt : Tm g d own cc nL ret Qc tgt l st M L) : Tm g d own cc nL ret Qc pc l (.int y :: .int x :: st) M L := tm_icmp_eq tgt _ ht rfl hdg (fun _ => kt) (fun q => absurd h q)
theorem tm_icmp_eq_f {x y : Int32} {off : Int} (n : Nat) {tgt : Nat} (h : ¬ x = y) (ht : (pc : Int) + off = (tgt : Int)) (hn : pc + 3 = n) (hdg : decode cc pc = .ok (.if_icmp .eq off, 3)) (kf : Tm g d own cc nL ret Qc n l st M L) : Tm g d own cc nL ret Qc pc l (.int y :: .int x :: st) M L := tm_icmp_eq tgt n ht hn hdg (fun q => absurd q h) (fun _ => kf)
theorem tm_if_ne {x : Int32} {off : Int} (tgt n : Nat) (ht : (pc : Int) + off = (tgt : Int)) (hn : pc + 3 = n) (hdg : decode cc pc = .ok (.ifCond .ne off, 3)) (kt : ¬ x = 0 → Tm g d own cc nL ret Qc tgt l st M L) (kf : x = 0 → Tm g d own cc nL ret Qc n l st M L) : Tm g d own cc nL ret Qc pc l (.int x :: st) M L := by
  subst hn
  exact fun p e s m args below meth c H locs ls C hl hP hS => lv_if_ne C.1 C.2.1 hdg ht (fun q => kt q p e s m args below meth c H locs ls C hl hP hS) (fun q => kf q p e s m args below meth c H locs ls C hl hP hS)
theorem tm_if_ne_t {x : Int32} {off : Int} (tgt : Nat) (h : ¬ x = 0) (ht : (pc : Int) + off = (tgt : Int)) (hdg : decode cc pc = .ok (.ifCond .ne off, 3)) (kt : Tm g d own cc nL ret Qc tgt l st M L) : Tm g d own cc nL ret Qc pc l (.int x :: st) M L := tm_if_ne tgt _ ht rfl hdg (fun _ => kt) (fun q => absurd q h)
theorem tm_if_ne_f {x : Int32} {off : Int} (n : Nat) {tgt : Nat} (h : x = 0) (ht : (pc : Int) + off = (tgt : Int)) (hn : pc + 3 = n) (hdg : decode cc pc = .ok (.ifCond .ne off, 3)) (kf : Tm g d own cc nL ret Qc n l st M L) : Tm g d own cc nL ret Qc pc l (.int x :: st) M L := tm_if_ne tgt n ht hn hdg (fun q => absurd h q) (fun _ => kf)
theorem tm_icmp_ne {x y : Int32} {off : Int} (tgt n : Nat) (ht : (pc : Int) + off = (tgt : Int)) (hn : pc + 3 = n) (hdg : decode cc pc = .ok (.if_icmp .ne off, 3)) (kt : ¬ x = y → Tm g d own cc nL ret Qc tgt l st M L) (kf : x = y → Tm g d own cc nL ret Qc n l st M L) : Tm g d own cc nL ret Qc pc l (.int y :: .int x :: st) M L := by
  subst hn
  exact fun p e s m args below meth c H locs ls C hl hP hS => lv_icmp_ne C.1 C.2.1 hdg ht (fun q => kt q p e s m args below meth c H locs ls C hl hP hS) (fun q => kf q p e s m args below meth c H locs ls C hl hP hS)
theorem tm_icmp_ne_t {x y : Int32} {off : Int} (tgt : Nat) (h : ¬ x = y) (ht : (pc : Int) + off = (tgt : Int)) (hdg : decode cc pc = .ok (.if_icmp .ne off, 3)) (kt : Tm g d own cc nL ret Qc tgt l st M L) : Tm g d own cc nL ret Qc pc l (.int y :: .int x :: st) M L := tm_icmp_ne tgt _ ht rfl hdg (fun _ => kt) (fun q => absurd q h)
theorem tm_icmp_ne_f {x y : Int32} {off : Int} (n : Nat) {tgt : Nat} (h : x = y) (ht : (pc : Int) + off = (tgt : Int)) (hn : pc + 3 = n) (hdg : decode cc pc = .ok (.if_icmp .ne off, 3)) (kf : Tm g d own cc nL ret Qc n l st M L) : Tm g d own cc nL ret Qc pc l (.int y :: .int x :: st) M L := tm_icmp_ne tgt n ht hn hdg (fun q => absurd h q) (fun _ => kf)
theorem tm_if_lt {x : Int32} {off : Int} (tgt n : Nat) (ht : (pc : Int) + off = (tgt : Int)) (hn : pc + 3 = n) (hdg : decode cc pc = .ok (.ifCond .lt off, 3)) (kt : x < 0 → Tm g d own cc nL ret Qc tgt l st M L) (kf : ¬ x < 0 → Tm g d own cc nL ret Qc n l st M L) : Tm g d own cc nL ret Qc pc l (.int x :: st) M L := by
  subst hn
  exact fun p e s m args below meth c H locs ls C hl hP hS => lv_if_lt C.1 C.2.1 hdg ht (fun q => kt q p e s m args below meth c H locs ls C hl hP hS) (fun q => kf q p e s m args below meth c H locs ls C hl hP hS)
theorem tm_if_lt_t {x : Int32} {off : Int} (tgt : Nat) (h : x < 0) (ht : (pc : Int) + off = (tgt : Int)) (hdg : decode cc pc = .ok (.ifCond .lt off, 3)) (kt : Tm g d own cc nL ret Qc tgt l st M L) : Tm g d own cc nL ret Qc pc l (.int x :: st) M L := tm_if_lt tgt _ ht rfl hdg (fun _ => kt) (fun q => absurd h q)
theorem tm_if_lt_f {x : Int32} {off : Int} (n : Nat) {tgt : Nat} (h : ¬ x < 0) (ht : (pc : Int) + off = (tgt : Int)) (hn : pc + 3 = n) (hdg : decode cc pc = .ok (.ifCond .lt off, 3)) (kf : Tm g d own cc nL ret Qc n l st M L) : Tm g d own cc nL ret Qc pc l (.int x :: st) M L := tm_if_lt tgt n ht hn hdg (fun q => absurd q h) (fun _ => kf)
theorem tm_icmp_lt {x y : Int32} {off : Int} (tgt n : Nat) (ht : (pc : Int) + off = (tgt : Int)) (hn : pc + 3 = n) (hdg : decode cc pc = .ok (.if_icmp .lt off, 3)) (kt : x < y → Tm g d own cc nL ret Qc tgt l st M L) (kf : ¬ x < y → Tm g d own cc nL ret Qc n l st M L) : Tm g d own cc nL ret Qc pc l (.int y :: .int x :: st) M L := by
  subst hn
  exact fun p e s m args below meth c H locs ls C hl hP hS => lv_icmp_lt C.1 C.2.1 hdg ht (fun q => kt q p e s m args below meth c H locs ls C hl hP hS) (fun q => kf q p e s m args below meth c H locs ls C hl hP hS)
theorem tm_icmp_lt_t {x y : Int32} {off : Int} (tgt : Nat) (h : x < y) (ht : (pc : Int) + off = (tgt : Int)) (hdg : decode cc pc = .ok (.if_icmp .lt off, 3)) (kt : Tm g d own cc nL ret Qc tgt l st M L) : Tm g d own cc nL ret Qc pc l (.int y :: .int x :: st) M L := tm_icmp_lt tgt _ ht rfl hdg (fun _ => kt) (fun q => absurd h q)
theorem tm_icmp_lt_f {x y : Int32} {off : Int} (n : Nat) {tgt : Nat} (h : ¬ x < y) (ht : (pc : Int) + off = (tgt : Int)) (hn : pc + 3 = n) (hdg : decode cc pc = .ok (.if_icmp .lt off, 3)) (kf : Tm g d own cc nL ret Qc n l st M L) : Tm g d own cc nL ret Qc pc l (.int y :: .int x :: st) M L := tm_icmp_lt tgt n ht hn hdg (fun q => absurd q h) (fun _ => kf)
theorem tm_if_ge {x : Int32} {off : Int} (tgt n : Nat) (ht : (pc : Int) + off = (tgt : Int)) (hn : pc + 3 = n) (hdg : decode cc pc = .ok (.ifCond .ge off, 3)) (kt : 0 ≤ x → Tm g d own cc nL ret Qc tgt l st M L) (kf : ¬ 0 ≤ x → Tm g d own cc nL ret Qc n l st M L) : Tm g d own cc nL ret Qc pc l (.int x :: st) M L := by
  subst hn
  exact fun p e s m args below meth c H locs ls C hl hP hS => lv_if_ge C.1 C.2.1 hdg ht (fun q => kt q p e s m args below meth c H locs ls C hl hP hS) (fun q => kf q p e s m args below meth c H locs ls C hl hP hS)
theorem tm_if_ge_t {x : Int32} {off : Int} (tgt : Nat) (h : 0 ≤ x) (ht : (pc : Int) + off = (tgt : Int)) (hdg : decode cc pc = .ok (.ifCond .ge off, 3)) (kt : Tm g d own cc nL ret Qc tgt l st M L) : Tm g d own cc nL ret Qc pc l (.int x :: st) M L := tm_if_ge tgt _ ht rfl hdg (fun _ => kt) (fun q => absurd h q)
theorem tm_if_ge_f {x : Int32} {off : Int} (n : Nat) {tgt : Nat} (h : ¬ 0 ≤ x) (ht : (pc : Int) + off = (tgt : Int)) (hn : pc + 3 = n) (hdg : decode cc pc = .ok (.ifCond .ge off, 3)) (kf : Tm g d own cc nL ret Qc n l st M L) : Tm g d own cc nL ret Qc pc l (.int x :: st) M L := tm_if_ge tgt n ht hn hdg (fun q => absurd q h) (fun _ => kf)
theorem tm_icmp_ge {x y : Int32} {off : Int} (tgt n : Nat) (ht : (pc : Int) + off = (tgt : Int)) (hn : pc + 3 = n) (hdg : decode cc pc = .ok (.if_icmp .ge off, 3)) (kt : y ≤ x → Tm g d own cc nL ret Qc tgt l st M L) (kf : ¬ y ≤ x → Tm g d own cc nL ret Qc n l st M L) : Tm g d own cc nL ret Qc pc l (.int y :: .int x :: st) M L := by
  subst hn
  exact fun p e s m args below meth c H locs ls C hl hP hS => lv_icmp_ge C.1 C.2.1 hdg ht (fun q => kt q p e s m args below meth c H locs ls C hl hP hS) (fun q => kf q p e s m args below meth c H locs ls C hl hP hS)
theorem tm_icmp_ge_t {x y : Int32} {off : Int} (tgt : Nat) (h : y ≤ x) (ht : (pc : Int) + off = (tgt : Int)) (hdg : decode cc pc = .ok (.if_icmp .ge off, 3)) (kt : Tm g d own cc nL ret Qc tgt l st M L) : Tm g d own cc nL ret Qc pc l (.int y :: .int x :: st) M L := tm_icmp_ge tgt _ ht rfl hdg (fun _ => kt) (fun q => absurd h q)
theorem tm_icmp_ge_f {x y : Int32} {off : Int} (n : Nat) {tgt : Nat} (h : ¬ y ≤ x) (ht : (pc : Int) + off = (tgt : Int)) (hn : pc + 3 = n) (hdg : decode cc pc = .ok (.if_icmp .ge off, 3)) (kf : Tm g d own cc nL ret Qc n l st M L) : Tm g d own cc nL ret Qc pc l (.int y :: .int x :: st) M L := tm_icmp_ge tgt n ht hn hdg (fun q => absurd q h) (fun _ => kf)
theorem tm_if_gt {x : Int32} {off : Int} (tgt n : Nat) (ht : (pc : Int) + off = (tgt : Int)) (hn : pc + 3 = n) (hdg : decode cc pc = .ok (.ifCond .gt off, 3)) (kt : 0 < x → Tm g d own cc nL ret Qc tgt l st M L) (kf : ¬ 0 < x → Tm g d own cc nL ret Qc n l st M L) : Tm g d own cc nL ret Qc pc l (.int x :: st) M L := by
  subst hn
  exact fun p e s m args below meth c H locs ls C hl hP hS => lv_if_gt C.1 C.2.1 hdg ht (fun q => kt q p e s m args below meth c H locs ls C hl hP hS) (fun q => kf q p e s m args below meth c H locs ls C hl hP hS)
theorem tm_if_gt_t {x : Int32} {off : Int} (tgt : Nat) (h : 0 < x) (ht : (pc : Int) + off = (tgt : Int)) (hdg : decode cc pc = .ok (.ifCond .gt off, 3)) (kt : Tm g d own cc nL ret Qc tgt l st M L) : Tm g d own cc nL ret Qc pc l (.int x :: st) M L := tm_if_gt tgt _ ht rfl hdg (fun _ => kt) (fun q => absurd h q)
theorem tm_if_gt_f {x : Int32} {off : Int} (n : Nat) {tgt : Nat} (h : ¬ 0 < x) (ht : (pc : Int) + off = (tgt : Int)) (hn : pc + 3 = n) (hdg : decode cc pc = .ok (.ifCond .gt off, 3)) (kf : Tm g d own cc nL ret Qc n l st M L) : Tm g d own cc nL ret Qc pc l (.int x :: st) M L := tm_if_gt tgt n ht hn hdg (fun q => absurd q h) (fun _ => kf)
theorem tm_icmp_gt {x y : Int32} {off : Int} (tgt n : Nat) (ht : (pc : Int) + off = (tgt : Int)) (hn : pc + 3 = n) (hdg : decode cc pc = .ok (.if_icmp .gt off, 3)) (kt : y < x → Tm g d own cc nL ret Qc tgt l st M L) (kf : ¬ y < x → Tm g d own cc nL ret Qc n l st M L) : Tm g d own cc nL ret Qc pc l (.int y :: .int x :: st) M L := by
  subst hn
  exact fun p e s m args below meth c H locs ls C hl hP hS => lv_icmp_gt C.1 C.2.1 hdg ht (fun q => kt q p e s m args below meth c H locs ls C hl hP hS) (fun q => kf q p e s m args below meth c H locs ls C hl hP hS)
theorem tm_icmp_gt_t {x y : Int32} {off : Int} (tgt : Nat) (h : y < x) (ht : (pc : Int) + off = (tgt : Int)) (hdg : decode cc pc = .ok (.if_icmp .gt off, 3)) (kt : Tm g d own cc nL ret Qc tgt l st M L) : Tm g d own cc nL ret Qc pc l (.int y :: .int x :: st) M L := tm_icmp_gt tgt _ ht rfl hdg (fun _ => kt) (fun q => absurd h q)
theorem tm_icmp_gt_f {x y : Int32} {off : Int} (n : Nat) {tgt : Nat} (h : ¬ y < x) (ht : (pc : Int) + off = (tgt : Int)) (hn : pc + 3 = n) (hdg : decode cc pc = .ok (.if_icmp .gt off, 3)) (kf : Tm g d own cc nL ret Qc n l st M L) : Tm g d own cc nL ret Qc pc l (.int y :: .int x :: st) M L := tm_icmp_gt tgt n ht hn hdg (fun q => absurd q h) (fun _ => kf)
theorem tm_if_le {x : Int32} {off : Int} (tgt n : Nat) (ht : (pc : Int) + off = (tgt : Int)) (hn : pc + 3 = n) (hdg : decode cc pc = .ok (.ifCond .le off, 3)) (kt : x ≤ 0 → Tm g d own cc nL ret Qc tgt l st M L) (kf : ¬ x ≤ 0 → Tm g d own cc nL ret Qc n l st M L) : Tm g d own cc nL ret Qc pc l (.int x :: st) M L := by
  subst hn
  exact fun p e s m args below meth c H locs ls C hl hP hS => lv_if_le C.1 C.2.1 hdg ht (fun q => kt q p e s m args below meth c H locs ls C hl hP hS) (fun q => kf q p e s m args below meth c H locs ls C hl hP hS)
theorem tm_if_le_t {x : Int32} {off : Int} (tgt : Nat) (h : x ≤ 0) (ht : (pc : Int) + off = (tgt : Int)) (hdg : decode cc pc = .ok (.ifCond .le off, 3)) (kt : Tm g d own cc nL ret Qc tgt l st M L) : Tm g d own cc nL ret Qc pc l (.int x :: st) M L := tm_if_le tgt _ ht rfl hdg (fun _ => kt) (fun q => absurd h q)
theorem tm_if_le_f {x : Int32} {off : Int} (n : Nat) {tgt : Nat} (h : ¬ x ≤ 0) (ht : (pc : Int) + off = (tgt : Int)) (hn : pc + 3 = n) (hdg : decode cc pc = .ok (.ifCond .le off, 3)) (kf : Tm g d own cc nL ret Qc n l st M L) : Tm g d own cc nL ret Qc pc l (.int x :: st) M L := tm_if_le tgt n ht hn hdg (fun q => absurd q h) (fun _ => kf)
theorem tm_icmp_le {x y : Int32} {off : Int} (tgt n : Nat) (ht : (pc : Int) + off = (tgt : Int)) (hn : pc + 3 = n) (hdg : decode cc pc = .ok (.if_icmp .le off, 3)) (kt : x ≤ y → Tm g d own cc nL ret Qc tgt l st M L) (kf : ¬ x ≤ y → Tm g d own cc nL ret Qc n l st M L) : Tm g d own cc nL ret Qc pc l (.int y :: .int x :: st) M L := by
  subst hn
  exact fun p e s m args below meth c H locs ls C hl hP hS => lv_icmp_le C.1 C.2.1 hdg ht (fun q => kt q p e s m args below meth c H locs ls C hl hP hS) (fun q => kf q p e s m args below meth c H locs ls C hl hP hS)
theorem tm_icmp_le_t {x y : Int32} {off : Int} (tgt : Nat) (h : x ≤ y) (ht : (pc : Int) + off = (tgt : Int)) (hdg : decode cc pc = .ok (.if_icmp .le off, 3)) (kt : Tm g d own cc nL ret Qc tgt l st M L) : Tm g d own cc nL ret Qc pc l (.int y :: .int x :: st) M L := tm_icmp_le tgt _ ht rfl hdg (fun _ => kt) (fun q => absurd h q)
theorem tm_icmp_le_f {x y : Int32} {off : Int} (n : Nat) {tgt : Nat} (h : ¬ x ≤ y) (ht : (pc : Int) + off = (tgt : Int)) (hn : pc + 3 = n) (hdg : decode cc pc = .ok (.if_icmp .le off, 3)) (kf : Tm g d own cc nL ret Qc n l st M L) : Tm g d own cc nL ret Qc pc l (.int y :: .int x :: st) M L := tm_icmp_le tgt n ht hn hdg (fun q => absurd q h) (fun _ => kf)
theorem tm_if_eqB {b : Bool} {off : Int} (tgt n : Nat) (ht : (pc : Int) + off = (tgt : Int)) (hn : pc + 3 = n) (hdg : decode cc pc = .ok (.ifCond .eq off, 3)) (kt : b = false → Tm g d own cc nL ret Qc tgt l st M L) (kf : b = true → Tm g d own cc nL ret Qc n l st M L) : Tm g d own cc nL ret Qc pc l (.int (bI b) :: st) M L := tm_if_eq tgt n ht hn hdg (fun q => kt ((bI_0 b).mp q)) (fun q => kf ((bI_n0 b).mp q))
theorem tm_if_neB {b : Bool} {off : Int} (tgt n : Nat) (ht : (pc : Int) + off = (tgt : Int)) (hn : pc + 3 = n) (hdg : decode cc pc = .ok (.ifCond .ne off, 3)) (kt : b = true → Tm g d own cc nL ret Qc tgt l st M L) (kf : b = false → Tm g d own cc nL ret Qc n l st M L) : Tm g d own cc nL ret Qc pc l (.int (bI b) :: st) M L := tm_if_ne tgt n ht hn hdg (fun q => kt ((bI_n0 b).mp q)) (fun q => kf ((bI_0 b).mp q))
theorem tm_goto {off : Int} (tgt : Nat) (ht : (pc : Int) + off = (tgt : Int)) (hdg : decode cc pc = .ok (.goto off, 3)) (k : Tm g d own cc nL ret Qc tgt l st M L) : Tm g d own cc nL ret Qc pc l st M L := fun p e s m args below meth c H locs ls C hl hP hS => lv_goto C.1 C.2.1 hdg ht (k p e s m args below meth c H locs ls C hl hP hS)
theorem tm_swOut {dflt lo hi : Int} {offs : Array Int} {len : Nat} {x : Int32} (tgt : Nat) (h : x.toInt < lo ∨ hi < x.toInt) (ht : (pc : Int) + dflt = (tgt : Int)) (hdg : decode cc pc = .ok (.tableswitch dflt lo hi offs, len)) (k : Tm g d own cc nL ret Qc tgt l st M L) : Tm g d own cc nL ret Qc pc l (.int x :: st) M L := fun p e s m args below meth c H locs ls C hl hP hS => lv_tableOut C.1 C.2.1 hdg h ht (k p e s m args below meth c H locs ls C hl hP hS)
theorem tm_swIn {dflt lo hi : Int} {offs : Array Int} {len : Nat} {x : Int32} {off : Int} (tgt : Nat) (h1 : ¬ x.toInt < lo) (h2 : ¬ hi < x.toInt) (ho : offs[(x.toInt - lo).toNat]? = some off) (ht : (pc : Int) + off = (tgt : Int)) (hdg : decode cc pc = .ok (.tableswitch dflt lo hi offs, len)) (k : Tm g d own cc nL ret Qc tgt l st M L) : Tm g d own cc nL ret Qc pc l (.int x :: st) M L := fun p e s m args below meth c H locs ls C hl hP hS => lv_tableIn C.1 C.2.1 hdg h1 h2 ho ht (k p e s m args below meth c H locs ls C hl hP hS)
theorem tm_look {dflt : Int} {ps : Array (Int × Int)} {len : Nat} {x : Int32} {off : Int} (tgt : Nat) (hp : (ps.toList.zip (ps.toList.drop 1)).all (fun (a, next) => a.1 < next.1) = true) (ho : Op.lookupswitch.offset ps.toList dflt x.toInt = off) (ht : (pc : Int) + off = (tgt : Int)) (hdg : decode cc pc = .ok (.lookupswitch dflt ps, len)) (k : Tm g d own cc nL ret Qc tgt l st M L) : Tm g d own cc nL ret Qc pc l (.int x :: st) M L := fun p e s m args below meth c H locs ls C hl hP hS => lv_lookup C.1 C.2.1 hdg hp ho ht (k p e s m args below meth c H locs ls C hl hP hS)
theorem tm_wk {l' : List (Option Value)} (hk : wkL l l') (k : Tm g d own cc nL ret Qc pc l st M L) : Tm g d own cc nL ret Qc pc l' st M L := fun p e s m args below meth c H locs ls C hl hP hS => k p e s m args below meth c H locs ls C (hl.wk hk) hP hS
theorem tm_eq {pc' : Nat} {l' : List (Option Value)} {st' : List Value} {M' : MI} {L' : ML} (h1 : pc = pc') (h2 : l = l') (h3 : st = st') (h4 : M = M') (h5 : L = L') (k : Tm g d own cc nL ret Qc pc l st M L) : Tm g d own cc nL ret Qc pc' l' st' M' L' := by subst h1; subst h2; subst h3; subst h4; subst h5; exact k
theorem tm_geti {index ci i kf : Nat} {fl : List (Option Nat)} (hf : FL own index ci kf) (hs : shp i = some (.inl (ci, fl))) (hk : fl[kf]? = some none) (n : Nat) (hn : pc + 3 = n) (hdg : decode cc pc = .ok (.getfield index, 3)) (k : Tm g d own cc nL ret Qc n l (.int (M i kf) :: st) M L) : Tm g d own cc nL ret Qc pc l (rf g i :: st) M L := by
  subst hn
  intro p e s m args below meth c H locs ls C hl hP hS
  obtain ⟨Cn, Tn, N, ty0, h1, h2, h3, h4, h5, h6⟩ := hf
  exact va_get C.1 C.2.1 C.2.2.2.2.2.1 h2 C.2.2.2.2.1 C.2.2.2.2.2.2.2.1 hP i (wld_get hs) h1 kf h3 (C.2.2.2.2.2.1 _ h4) (fun _ h9 => h9) (v := .int (M i kf)) (by show (fldV g (M i) 0 fl)[kf]? = _; rw [fldV_get, hk]; simp) hdg (k p e s m args below meth c H locs ls C hl hP hS)
theorem tm_getr {index ci i j kf : Nat} {fl : List (Option Nat)} (hf : FL own index ci kf) (hs : shp i = some (.inl (ci, fl))) (hk : fl[kf]? = some (some j)) (n : Nat) (hn : pc + 3 = n) (hdg : decode cc pc = .ok (.getfield index, 3)) (k : Tm g d own cc nL ret Qc n l (rf g j :: st) M L) : Tm g d own cc nL ret Qc pc l (rf g i :: st) M L := by
  subst hn
  intro p e s m args below meth c H locs ls C hl hP hS
  obtain ⟨Cn, Tn, N, ty0, h1, h2, h3, h4, h5, h6⟩ := hf
  exact va_get C.1 C.2.1 C.2.2.2.2.2.1 h2 C.2.2.2.2.1 C.2.2.2.2.2.2.2.1 hP i (wld_get hs) h1 kf h3 (C.2.2.2.2.2.1 _ h4) (fun _ h9 => h9) (v := rf g j) (by show (fldV g (M i) 0 fl)[kf]? = _; rw [fldV_get, hk]; simp) hdg (k p e s m args below meth c H locs ls C hl hP hS)
theorem tm_puti {index ci i kf : Nat} {fl : List (Option Nat)} {ty : FieldType} {x : Int32} (hf : FL own index ci kf) (hw : FW ci kf ty) (hs : shp i = some (.inl (ci, fl))) (hk : fl[kf]? = some none) (hx : narrow ty (.int x) = .int x) (hx2 : fits ty (.int x) = true) (n : Nat) (hn : pc + 3 = n) (hdg : decode cc pc = .ok (.putfield index, 3)) (k : Tm g d own cc nL ret Qc n l st (s1 M i kf x) L) : Tm g d own cc nL ret Qc pc l (.int x :: rf g i :: st) M L := by
  subst hn
  intro p e s m args below meth c H locs ls C hl hP hS
  obtain ⟨Cn, Tn, N, ty0, h1, h2, h3, h4, h5, h6⟩ := hf
  obtain ⟨w1, w2⟩ := hw Cn Tn N h1
  refine va_put C.1 C.2.1 C.2.2.2.2.2.1 h2 ty0 h5 h6 C.2.2.2.2.1 C.2.2.2.2.2.2.2.1 hP (wld_D C.2.2.2.2.2.2.2.2.2.2 M L) hS i (wld_get hs) h1 kf h3 (C.2.2.2.2.2.1 _ h4) (fun _ h9 => h9) w1 w2 hx hx2 (by show kf < (fldV g (M i) 0 fl).length; rw [fldV_len]; exact (List.getElem?_eq_some_iff.mp hk).1) hdg (fun H1 locs1 hP1 hD1 hS1 => k p e s m args below meth c H1 locs1 ls C hl ?_ hS1)
  rw [fldV_set g (M i) x fl 0 kf hk, Nat.zero_add] at hP1
  have e1 : (Sum.inr (ci, fldV g (upd (M i) kf x) 0 fl) : va_E) = cellE g (sr M i (upd (M i) kf x)) L i (.inl (ci, fl)) := by
    show _ = (Sum.inr (ci, fldV g (sr M i (upd (M i) kf x) i) 0 fl) : va_E)
    rw [sr_eq]
  rw [e1, wld_set _ hs] at hP1
  exact hP1
theorem tm_ald {i nA ix : Nat} {x : Int32} {tg : List Nat} (hs : shp i = some (.inr (0, nA, tg))) (hx : ixI x nA ix) (n : Nat) (hn : pc + 1 = n) (hdg : decode cc pc = .ok (.iaload, 1)) (k : Tm g d own cc nL ret Qc n l (.int (M i ix) :: st) M L) : Tm g d own cc nL ret Qc pc l (.int x :: rf g i :: st) M L := by
  subst hn
  intro p e s m args below meth c H locs ls C hl hP hS
  have kk := k p e s m args below meth c H locs ls C hl hP hS
  rw [← hx.2.1] at kk
  exact va_iald C.1 C.2.1 C.2.2.2.2.2.2.2.1 hP i 0 (f := M i) (wld_get hs) rfl hx.vp hdg kk
theorem tm_ast {i nA ix : Nat} {x v : Int32} {tg : List Nat} (hs : shp i = some (.inr (0, nA, tg))) (hx : ixI x nA ix) (n : Nat) (hn : pc + 1 = n) (hdg : decode cc pc = .ok (.iastore, 1)) (k : Tm g d own cc nL ret Qc n l st (s1 M i ix v) L) : Tm g d own cc nL ret Qc pc l (.int v :: .int x :: rf g i :: st) M L := by
  subst hn
  intro p e s m args below meth c H locs ls C hl hP hS
  refine va_iast C.1 C.2.1 C.2.2.2.2.2.2.2.1 hP (wld_D C.2.2.2.2.2.2.2.2.2.2 M L) hS i 0 (f := M i) (wld_get hs) rfl hx.vp hdg (fun H1 locs1 hP1 hD1 hS1 => k p e s m args below meth c H1 locs1 ls C hl ?_ hS1)
  rw [hx.2.1] at hP1
  have e1 : (Sum.inl (gI g, nA, Sum.inl (upd (M i) ix v)) : va_E) = cellE g (sr M i (upd (M i) ix v)) L i (.inr (0, nA, tg)) := by
    show _ = (Sum.inl (gI g, nA, Sum.inl (sr M i (upd (M i) ix v) i)) : va_E)
    rw [sr_eq]
  rw [e1, wld_set _ hs] at hP1
  exact hP1
theorem tm_lald {i nA ix : Nat} {x : Int32} {tg : List Nat} (hs : shp i = some (.inr (1, nA, tg))) (hx : ixI x nA ix) (n : Nat) (hn : pc + 1 = n) (hdg : decode cc pc = .ok (.laload, 1)) (k : Tm g d own cc nL ret Qc n l (.long (L i ix) :: st) M L) : Tm g d own cc nL ret Qc pc l (.int x :: rf g i :: st) M L := by
  subst hn
  intro p e s m args below meth c H locs ls C hl hP hS
  have kk := k p e s m args below meth c H locs ls C hl hP hS
  rw [← hx.2.1] at kk
  exact va_lald C.1 C.2.1 C.2.2.2.2.2.2.2.1 hP i 1 (f := L i) (wld_get hs) rfl hx.vp hdg kk
theorem tm_last {i nA ix : Nat} {x : Int32} {v : Int64} {tg : List Nat} (hs : shp i = some (.inr (1, nA, tg))) (hx : ixI x nA ix) (n : Nat) (hn : pc + 1 = n) (hdg : decode cc pc = .ok (.lastore, 1)) (k : Tm g d own cc nL ret Qc n l st M (s1L L i ix v)) : Tm g d own cc nL ret Qc pc l (.long v :: .int x :: rf g i :: st) M L := by
  subst hn
  intro p e s m args below meth c H locs ls C hl hP hS
  refine va_last C.1 C.2.1 C.2.2.2.2.2.2.2.1 hP (wld_D C.2.2.2.2.2.2.2.2.2.2 M L) hS i 1 (f := L i) (wld_get hs) rfl hx.vp hdg (fun H1 locs1 hP1 hD1 hS1 => k p e s m args below meth c H1 locs1 ls C hl ?_ hS1)
  rw [hx.2.1] at hP1
  have e1 : (Sum.inl (gJ g, nA, Sum.inr (Sum.inl (vp_updL (L i) ix v))) : va_E) = cellE g M (srL L i (vp_updL (L i) ix v)) i (.inr (1, nA, tg)) := by
    show _ = (Sum.inl (gJ g, nA, Sum.inr (Sum.inl (srL L i (vp_updL (L i) ix v) i))) : va_E)
    rw [srL_eq]
  rw [e1, wld_setL _ hs] at hP1
  exact hP1
theorem tm_aald2 {i nA ix j : Nat} {x : Int32} {tg : List Nat} (hs : shp i = some (.inr (2, nA, tg))) (hx : ixI x nA ix) (hj : tg[ix]? = some j) (n : Nat) (hn : pc + 1 = n) (hdg : decode cc pc = .ok (.aaload, 1)) (k : Tm g d own cc nL ret Qc n l (rf g j :: st) M L) : Tm g d own cc nL ret Qc pc l (.int x :: rf g i :: st) M L := by
  subst hn
  intro p e s m args below meth c H locs ls C hl hP hS
  refine va_aldq C.1 C.2.1 C.2.2.2.2.2.2.2.1 hP i 2 (f := fun k => (tg[k]?).map (ga g)) (wld_get hs) rfl hx.vp hdg ?_
  rw [hx.2.1, hj]
  exact k p e s m args below meth c H locs ls C hl hP hS
theorem tm_aald3 {i nA ix j : Nat} {x : Int32} {tg : List Nat} (hs : shp i = some (.inr (3, nA, tg))) (hx : ixI x nA ix) (hj : tg[ix]? = some j) (n : Nat) (hn : pc + 1 = n) (hdg : decode cc pc = .ok (.aaload, 1)) (k : Tm g d own cc nL ret Qc n l (rf g j :: st) M L) : Tm g d own cc nL ret Qc pc l (.int x :: rf g i :: st) M L := by
  subst hn
  intro p e s m args below meth c H locs ls C hl hP hS
  have hlt : x.toNatClampNeg < nA := by rw [hx.2.1]; exact hx.2.2
  refine W.aald (v := va_rf ((tg[x.toNatClampNeg]?).map (ga g))) (ty := .array .long) C.1 C.2.1 (hP i _ (wld_get hs)) ((C.2.2.2.2.2.2.2.1.2 3 _ rfl).1 nA (fun j => va_rf ((tg[j]?).map (ga g)))) rfl (fun q => by cases q) (by show ¬ (x < 0 ∨ (arrV _ _ _).slots.size ≤ _); rw [arrV_size]; exact hx.vp) (by show (arrV _ _ _).slots[_]? = _; rw [arrV_read _ _ hlt]) rfl rfl hdg ?_
  rw [hx.2.1, hj]
  exact k p e s m args below meth c H locs ls C hl hP hS
theorem tm_alenI {i nA : Nat} {tg : List Nat} (hs : shp i = some (.inr (0, nA, tg))) (n : Nat) (hn : pc + 1 = n) (hdg : decode cc pc = .ok (.arraylength, 1)) (k : Tm g d own cc nL ret Qc n l (.int (nI nA) :: st) M L) : Tm g d own cc nL ret Qc pc l (rf g i :: st) M L := by
  subst hn
  intro p e s m args below meth c H locs ls C hl hP hS
  exact va_alen C.1 C.2.1 C.2.2.2.2.2.2.2.1 hP i 0 (x := (nA, .inl (M i))) (wld_get hs) rfl rfl hdg (k p e s m args below meth c H locs ls C hl hP hS)
theorem tm_with {index : Nat} (hw : Cond.fieldLink own index "WeighedLots$Lots" "WITH" "[I" ∈ tbU) (n : Nat) (hn : pc + 3 = n) (hdg : decode cc pc = .ok (.getstatic index, 3)) (k : Tm g d own cc nL ret Qc n l (.ref (gW g) :: st) M L) : Tm g d own cc nL ret Qc pc l st M L := by
  subst hn
  intro p e s m args below meth c H locs ls C hl hP hS
  exact va_gets C.1 C.2.1 C.2.2.2.2.2.2.2.2.1 hS C.2.2.2.2.1 (C.2.2.2.2.2.1 _ hw) (fun _ h9 => h9) hdg (k p e s m args below meth c H locs ls C hl hP hS)
theorem tm_withAt {ix : Nat} {x : Int32} (hx : ixI x 4 ix) (n : Nat) (hn : pc + 1 = n) (hdg : decode cc pc = .ok (.iaload, 1)) (k : Tm g d own cc nL ret Qc n l (.int (wv ix) :: st) M L) : Tm g d own cc nL ret Qc pc l (.int x :: .ref (gW g) :: st) M L := by
  subst hn
  intro p e s m args below meth c H locs ls C hl hP hS
  exact va_ti C.1 C.2.1 C.2.2.2.2.2.2.2.2.2.1 hS hx.vp (by show Value.int (wv x.toNatClampNeg) = _; rw [hx.2.1]) hdg (k p e s m args below meth c H locs ls C hl hP hS)
theorem tm_iret {F x : Int32} {M' : MI} {L' : ML} (hx : x = F) (hM : M = M') (hL : L = L') (hdg : decode cc pc = .ok (.ireturn, 1)) : Tm g d own cc nL (some .int) (QI g F M' L') pc l [.int x] M L := by
  subst hx; subst hM; subst hL
  exact fun p e s m args below meth c H locs ls C hl hP hS => W.iret (v := x) C.1 C.2.1 C.2.2.1 (fun t ht hW => ⟨⟨x, (M, L), rfl, ⟨rfl, rfl⟩, by show va_P _ _ _ t.heap; rw [ht]; exact hP⟩, hS.F ht⟩) hS.2.2 hdg C.2.2.2.2.2.2.1
theorem tm_zret {F x : Int32} {M' : MI} {L' : ML} (h01 : x = 0 ∨ x = 1) (hx : x = F) (hM : M = M') (hL : L = L') (hdg : decode cc pc = .ok (.ireturn, 1)) : Tm g d own cc nL (some .boolean) (QI g F M' L') pc l [.int x] M L := by
  subst hx; subst hM; subst hL
  exact fun p e s m args below meth c H locs ls C hl hP hS => W.zret (v := x) C.1 C.2.1 C.2.2.1 (by rcases h01 with h | h <;> subst h <;> rfl) (fun t ht hW => ⟨⟨x, (M, L), rfl, ⟨rfl, rfl⟩, by show va_P _ _ _ t.heap; rw [ht]; exact hP⟩, hS.F ht⟩) hS.2.2 hdg C.2.2.2.2.2.2.1
theorem tm_lret {F x : Int64} {M' : MI} {L' : ML} (hx : x = F) (hM : M = M') (hL : L = L') (hdg : decode cc pc = .ok (.lreturn, 1)) : Tm g d own cc nL (some .long) (QL g F M' L') pc l [.long x] M L := by
  subst hx; subst hM; subst hL
  exact fun p e s m args below meth c H locs ls C hl hP hS => W.lret (v := x) C.1 C.2.1 C.2.2.1 (fun t ht hW => ⟨⟨x, (M, L), rfl, ⟨rfl, rfl⟩, by show va_P _ _ _ t.heap; rw [ht]; exact hP⟩, hS.F ht⟩) hS.2.2 hdg C.2.2.2.2.2.2.1
theorem tm_vret {M' : MI} {L' : ML} (hM : M = M') (hL : L = L') (hdg : decode cc pc = .ok (.return_, 1)) : Tm g d own cc nL none (QV g M' L') pc l [] M L := by
  subst hM; subst hL
  exact fun p e s m args below meth c H locs ls C hl hP hS => W.vret C.1 C.2.1 C.2.2.1 (fun t ht hW => ⟨⟨(M, L), rfl, rfl, by show va_P _ _ _ t.heap; rw [ht]; exact hP⟩, hS.F ht⟩) hS.2.2 hdg C.2.2.2.2.2.2.1
theorem tm_callV_I {y : MethodName} {cb : ByteArray} {nB index q ci : Nat} {ty : FieldType} {av : List Value} {F : Int32} {M1 : MI} {L1 : ML} {i : Nat} {As : List Value} {fl : List (Option Nat)} {stk : List Value} (hM : CfI g d y cb nB ty av M L F M1 L1) (hm : MV y cb nB (some ty) q) (hln : Cond.methodLink own index y ∈ tbU) (hav : av = rf g i :: As) (hs : shp i = some (.inl (ci, fl))) (hc : (vwCl[ci]?).map (fun z => z.1) = some y.cls) (hq : As.length = q) (hst : stk = As.reverse ++ rf g i :: st) (hroom : (st.map fun v => v.category).sum ≤ 8) (n : Nat) (hn : pc + 3 = n) (hdg : decode cc pc = .ok (.invokevirtual index, 3)) (k : Tm g (d + 1) own cc nL ret Qc n l (.int F :: st) M1 L1) : Tm g (d + 1) own cc nL ret Qc pc l stk M L := by
  subst hn; subst hst; subst hav
  intro p e s m args below meth c H locs ls C hl hP hS
  obtain ⟨m1, m2, m3, m4, ⟨m5, m6, m7⟩, m8⟩ := hm
  have hg : GoodIn tbU (wsV own index y.cls y (wsU y cb nB (some ty))) := tb_goodIn (fun w hw => by
    rcases List.mem_append.mp hw with hw | hw
    · simp only [List.mem_cons, List.not_mem_nil, or_false] at hw
      rcases hw with rfl | rfl | rfl | rfl
      · exact hln
      · exact m1
      · exact m2
      · exact m3
    · rcases List.mem_cons.mp hw with rfl | hw
      · exact m4
      · exact hw)
  obtain ⟨z, hz1, hz2⟩ : ∃ z, vwCl[ci]? = some z ∧ z.1 = y.cls := by
    cases hzz : vwCl[ci]? with
    | none => rw [hzz] at hc; cases hc
    | some z => rw [hzz] at hc; exact ⟨z, rfl, by simpa using hc⟩
  have hrec := va_recv C.2.2.2.2.2.2.2.1 hP hz1 (wld_get hs)
  rw [hz2] at hrec
  refine va_calli (va_runV (As := As) (rest := st) ⟨C.1, C.2.1, C.2.2.2.1, C.2.2.2.2.1, C.2.2.2.2.2.1⟩ hM (cwV q C.2.2.2.2.2.1 hg rfl rfl rfl ⟨rfl, m5, m6, m7⟩ ⟨Nat.le_refl _, by show 8 + (nB + 11) + 40 * d ≤ 40 * (d + 1); omega⟩) ⟨blindG g _ M L, hrec, fun U hU hW => ⟨rfl, by rw [hU]; exact hP, C.2.2.2.2.2.2.2.move hS hU hW⟩⟩ rfl hq hl.1 rfl (lv_room hroom) hdg ⟨Nat.le_refl _, Nat.le_refl _⟩) hS (fun q _ h => h) (fun q h => h) (fun r u t H1 locs1 ht hvm hw hB hz hk hS1 => ?_)
  obtain ⟨hw1, hw2⟩ := hw
  subst hw1; subst hw2
  subst ht
  exact k p e s m args below meth c _ locs1 ls C hl hB hS1
theorem tm_callS_I {y : MethodName} {cb : ByteArray} {nB index q : Nat} {ty : FieldType} {av : List Value} {F : Int32} {M1 : MI} {L1 : ML} {stk : List Value} (hM : CfI g d y cb nB ty av M L F M1 L1) (hm : MS y cb nB (some ty) q) (hln : Cond.methodLink own index y ∈ tbU) (hq : av.length = q) (hst : stk = av.reverse ++ st) (hroom : (st.map fun v => v.category).sum ≤ 8) (n : Nat) (hn : pc + 3 = n) (hdg : decode cc pc = .ok (.invokestatic index, 3)) (k : Tm g (d + 1) own cc nL ret Qc n l (.int F :: st) M1 L1) : Tm g (d + 1) own cc nL ret Qc pc l stk M L := by
  subst hn; subst hst
  intro p e s m args below meth c H locs ls C hl hP hS
  obtain ⟨m1, m3, m4, ⟨m5, m6, m7⟩, m8⟩ := hm
  have hg : GoodIn tbU (va_wsS own index y (wsU y cb nB (some ty))) := tb_goodIn (fun w hw => by
    rcases List.mem_append.mp hw with hw | hw
    · simp only [List.mem_cons, List.not_mem_nil, or_false] at hw
      rcases hw with rfl | rfl | rfl
      · exact hln
      · exact m1
      · exact m3
    · rcases List.mem_cons.mp hw with rfl | hw
      · exact m4
      · exact hw)
  refine va_calli (va_runS (As := av) (rest := st) ⟨C.1, C.2.1, C.2.2.2.1, C.2.2.2.2.1, C.2.2.2.2.2.1⟩ hM (va_cwS q C.2.2.2.2.2.1 hg rfl rfl rfl ⟨m5, m6, m7⟩ ⟨Nat.le_refl _, by show 8 + (nB + 11) + 40 * d ≤ 40 * (d + 1); omega⟩) ⟨blindG g _ M L, fun U hU hW => ⟨rfl, by rw [hU]; exact hP, C.2.2.2.2.2.2.2.move hS hU hW⟩⟩ rfl hq hl.1 rfl (lv_room hroom) hdg ⟨Nat.le_refl _, Nat.le_refl _⟩) hS (fun q _ h => h) (fun q h => h) (fun r u t H1 locs1 ht hvm hw hB hz hk hS1 => ?_)
  obtain ⟨hw1, hw2⟩ := hw
  subst hw1; subst hw2
  subst ht
  exact k p e s m args below meth c _ locs1 ls C hl hB hS1
theorem tm_callV_V {y : MethodName} {cb : ByteArray} {nB index q ci : Nat} {av : List Value} {M1 : MI} {L1 : ML} {i : Nat} {As : List Value} {fl : List (Option Nat)} {stk : List Value} (hM : CfV g d y cb nB av M L M1 L1) (hm : MV y cb nB none q) (hln : Cond.methodLink own index y ∈ tbU) (hav : av = rf g i :: As) (hs : shp i = some (.inl (ci, fl))) (hc : (vwCl[ci]?).map (fun z => z.1) = some y.cls) (hq : As.length = q) (hst : stk = As.reverse ++ rf g i :: st) (hroom : (st.map fun v => v.category).sum ≤ 8) (n : Nat) (hn : pc + 3 = n) (hdg : decode cc pc = .ok (.invokevirtual index, 3)) (k : Tm g (d + 1) own cc nL ret Qc n l (st) M1 L1) : Tm g (d + 1) own cc nL ret Qc pc l stk M L := by
  subst hn; subst hst; subst hav
  intro p e s m args below meth c H locs ls C hl hP hS
  obtain ⟨m1, m2, m3, m4, ⟨m5, m6, m7⟩, m8⟩ := hm
  have hg : GoodIn tbU (wsV own index y.cls y (wsU y cb nB none)) := tb_goodIn (fun w hw => by
    rcases List.mem_append.mp hw with hw | hw
    · simp only [List.mem_cons, List.not_mem_nil, or_false] at hw
      rcases hw with rfl | rfl | rfl | rfl
      · exact hln
      · exact m1
      · exact m2
      · exact m3
    · rcases List.mem_cons.mp hw with rfl | hw
      · exact m4
      · exact hw)
  obtain ⟨z, hz1, hz2⟩ : ∃ z, vwCl[ci]? = some z ∧ z.1 = y.cls := by
    cases hzz : vwCl[ci]? with
    | none => rw [hzz] at hc; cases hc
    | some z => rw [hzz] at hc; exact ⟨z, rfl, by simpa using hc⟩
  have hrec := va_recv C.2.2.2.2.2.2.2.1 hP hz1 (wld_get hs)
  rw [hz2] at hrec
  refine va_callv (va_runV (As := As) (rest := st) ⟨C.1, C.2.1, C.2.2.2.1, C.2.2.2.2.1, C.2.2.2.2.2.1⟩ hM (cwV q C.2.2.2.2.2.1 hg rfl rfl rfl ⟨rfl, m5, m6, m7⟩ ⟨Nat.le_refl _, by show 8 + (nB + 11) + 40 * d ≤ 40 * (d + 1); omega⟩) ⟨blindG g _ M L, hrec, fun U hU hW => ⟨rfl, by rw [hU]; exact hP, C.2.2.2.2.2.2.2.move hS hU hW⟩⟩ rfl hq hl.1 rfl (lv_room hroom) hdg ⟨Nat.le_refl _, Nat.le_refl _⟩) hS (fun q _ h => h) (fun q h => h) (fun u t H1 locs1 ht hvm hw hB hz hk hS1 => ?_)
  subst hw
  subst ht
  exact k p e s m args below meth c _ locs1 ls C hl hB hS1
theorem tm_callS_V {y : MethodName} {cb : ByteArray} {nB index q : Nat} {av : List Value} {M1 : MI} {L1 : ML} {stk : List Value} (hM : CfV g d y cb nB av M L M1 L1) (hm : MS y cb nB none q) (hln : Cond.methodLink own index y ∈ tbU) (hq : av.length = q) (hst : stk = av.reverse ++ st) (hroom : (st.map fun v => v.category).sum ≤ 8) (n : Nat) (hn : pc + 3 = n) (hdg : decode cc pc = .ok (.invokestatic index, 3)) (k : Tm g (d + 1) own cc nL ret Qc n l (st) M1 L1) : Tm g (d + 1) own cc nL ret Qc pc l stk M L := by
  subst hn; subst hst
  intro p e s m args below meth c H locs ls C hl hP hS
  obtain ⟨m1, m3, m4, ⟨m5, m6, m7⟩, m8⟩ := hm
  have hg : GoodIn tbU (va_wsS own index y (wsU y cb nB none)) := tb_goodIn (fun w hw => by
    rcases List.mem_append.mp hw with hw | hw
    · simp only [List.mem_cons, List.not_mem_nil, or_false] at hw
      rcases hw with rfl | rfl | rfl
      · exact hln
      · exact m1
      · exact m3
    · rcases List.mem_cons.mp hw with rfl | hw
      · exact m4
      · exact hw)
  refine va_callv (va_runS (As := av) (rest := st) ⟨C.1, C.2.1, C.2.2.2.1, C.2.2.2.2.1, C.2.2.2.2.2.1⟩ hM (va_cwS q C.2.2.2.2.2.1 hg rfl rfl rfl ⟨m5, m6, m7⟩ ⟨Nat.le_refl _, by show 8 + (nB + 11) + 40 * d ≤ 40 * (d + 1); omega⟩) ⟨blindG g _ M L, fun U hU hW => ⟨rfl, by rw [hU]; exact hP, C.2.2.2.2.2.2.2.move hS hU hW⟩⟩ rfl hq hl.1 rfl (lv_room hroom) hdg ⟨Nat.le_refl _, Nat.le_refl _⟩) hS (fun q _ h => h) (fun q h => h) (fun u t H1 locs1 ht hvm hw hB hz hk hS1 => ?_)
  subst hw
  subst ht
  exact k p e s m args below meth c _ locs1 ls C hl hB hS1
theorem tm_callV_L {y : MethodName} {cb : ByteArray} {nB index q ci : Nat} {av : List Value} {F : Int64} {M1 : MI} {L1 : ML} {i : Nat} {As : List Value} {fl : List (Option Nat)} {stk : List Value} (hM : CfL g d y cb nB av M L F M1 L1) (hm : MV y cb nB (some .long) q) (hln : Cond.methodLink own index y ∈ tbU) (hav : av = rf g i :: As) (hs : shp i = some (.inl (ci, fl))) (hc : (vwCl[ci]?).map (fun z => z.1) = some y.cls) (hq : As.length = q) (hst : stk = As.reverse ++ rf g i :: st) (hroom : (st.map fun v => v.category).sum ≤ 8) (n : Nat) (hn : pc + 3 = n) (hdg : decode cc pc = .ok (.invokevirtual index, 3)) (k : Tm g (d + 1) own cc nL ret Qc n l (.long F :: st) M1 L1) : Tm g (d + 1) own cc nL ret Qc pc l stk M L := by
  subst hn; subst hst; subst hav
  intro p e s m args below meth c H locs ls C hl hP hS
  obtain ⟨m1, m2, m3, m4, ⟨m5, m6, m7⟩, m8⟩ := hm
  have hg : GoodIn tbU (wsV own index y.cls y (wsU y cb nB (some .long))) := tb_goodIn (fun w hw => by
    rcases List.mem_append.mp hw with hw | hw
    · simp only [List.mem_cons, List.not_mem_nil, or_false] at hw
      rcases hw with rfl | rfl | rfl | rfl
      · exact hln
      · exact m1
      · exact m2
      · exact m3
    · rcases List.mem_cons.mp hw with rfl | hw
      · exact m4
      · exact hw)
  obtain ⟨z, hz1, hz2⟩ : ∃ z, vwCl[ci]? = some z ∧ z.1 = y.cls := by
    cases hzz : vwCl[ci]? with
    | none => rw [hzz] at hc; cases hc
    | some z => rw [hzz] at hc; exact ⟨z, rfl, by simpa using hc⟩
  have hrec := va_recv C.2.2.2.2.2.2.2.1 hP hz1 (wld_get hs)
  rw [hz2] at hrec
  refine va_calll (va_runV (As := As) (rest := st) ⟨C.1, C.2.1, C.2.2.2.1, C.2.2.2.2.1, C.2.2.2.2.2.1⟩ hM (cwV q C.2.2.2.2.2.1 hg rfl rfl rfl ⟨rfl, m5, m6, m7⟩ ⟨Nat.le_refl _, by show 8 + (nB + 11) + 40 * d ≤ 40 * (d + 1); omega⟩) ⟨blindG g _ M L, hrec, fun U hU hW => ⟨rfl, by rw [hU]; exact hP, C.2.2.2.2.2.2.2.move hS hU hW⟩⟩ rfl hq hl.1 rfl (lv_room hroom) hdg ⟨Nat.le_refl _, Nat.le_refl _⟩) hS (fun q _ h => h) (fun q h => h) (fun r u t H1 locs1 ht hvm hw hB hz hk hS1 => ?_)
  obtain ⟨hw1, hw2⟩ := hw
  subst hw1; subst hw2
  subst ht
  exact k p e s m args below meth c _ locs1 ls C hl hB hS1
theorem tm_callS_L {y : MethodName} {cb : ByteArray} {nB index q : Nat} {av : List Value} {F : Int64} {M1 : MI} {L1 : ML} {stk : List Value} (hM : CfL g d y cb nB av M L F M1 L1) (hm : MS y cb nB (some .long) q) (hln : Cond.methodLink own index y ∈ tbU) (hq : av.length = q) (hst : stk = av.reverse ++ st) (hroom : (st.map fun v => v.category).sum ≤ 8) (n : Nat) (hn : pc + 3 = n) (hdg : decode cc pc = .ok (.invokestatic index, 3)) (k : Tm g (d + 1) own cc nL ret Qc n l (.long F :: st) M1 L1) : Tm g (d + 1) own cc nL ret Qc pc l stk M L := by
  subst hn; subst hst
  intro p e s m args below meth c H locs ls C hl hP hS
  obtain ⟨m1, m3, m4, ⟨m5, m6, m7⟩, m8⟩ := hm
  have hg : GoodIn tbU (va_wsS own index y (wsU y cb nB (some .long))) := tb_goodIn (fun w hw => by
    rcases List.mem_append.mp hw with hw | hw
    · simp only [List.mem_cons, List.not_mem_nil, or_false] at hw
      rcases hw with rfl | rfl | rfl
      · exact hln
      · exact m1
      · exact m3
    · rcases List.mem_cons.mp hw with rfl | hw
      · exact m4
      · exact hw)
  refine va_calll (va_runS (As := av) (rest := st) ⟨C.1, C.2.1, C.2.2.2.1, C.2.2.2.2.1, C.2.2.2.2.2.1⟩ hM (va_cwS q C.2.2.2.2.2.1 hg rfl rfl rfl ⟨m5, m6, m7⟩ ⟨Nat.le_refl _, by show 8 + (nB + 11) + 40 * d ≤ 40 * (d + 1); omega⟩) ⟨blindG g _ M L, fun U hU hW => ⟨rfl, by rw [hU]; exact hP, C.2.2.2.2.2.2.2.move hS hU hW⟩⟩ rfl hq hl.1 rfl (lv_room hroom) hdg ⟨Nat.le_refl _, Nat.le_refl _⟩) hS (fun q _ h => h) (fun q h => h) (fun r u t H1 locs1 ht hvm hw hB hz hk hS1 => ?_)
  obtain ⟨hw1, hw2⟩ := hw
  subst hw1; subst hw2
  subst ht
  exact k p e s m args below meth c _ locs1 ls C hl hB hS1
theorem tm_cpI {index i j nA nB ls_ ld ln : Nat} {sp dp x : Int32} {tg tg2 : List Nat} (hln : Cond.methodLink own index arraycopyName ∈ tbU) (hs : shp i = some (.inr (0, nA, tg))) (hs2 : shp j = some (.inr (0, nB, tg2))) (h1 : ¬ sp < 0 ∧ sp.toNatClampNeg = ls_) (h2 : ¬ dp < 0 ∧ dp.toNatClampNeg = ld) (h3 : ¬ x < 0 ∧ x.toNatClampNeg = ln) (h4 : ls_ + ln ≤ nA) (h5 : ld + ln ≤ nB) (hroom : (st.map fun v => v.category).sum ≤ 8) (n : Nat) (hn : pc + 3 = n) (hdg : decode cc pc = .ok (.invokestatic index, 3)) (k : Tm g (d + 1) own cc nL ret Qc n l st (sr M j (va_cpy (M i) (M j) ls_ ld ln)) L) : Tm g (d + 1) own cc nL ret Qc pc l (.int x :: .int dp :: rf g j :: .int sp :: rf g i :: st) M L := by
  subst hn
  obtain ⟨h1, h1b⟩ := h1; obtain ⟨h2, h2b⟩ := h2; obtain ⟨h3, h3b⟩ := h3
  subst h1b; subst h2b; subst h3b
  intro p e s m args below meth c H locs ls C hl hP hS
  refine va_copyi C.1 C.2.1 (C.2.2.2.1.trans hl.1.symm) C.2.2.2.2.1 (C.2.2.2.2.2.1 _ hln) (C.2.2.2.2.2.1 _ kac_nat) (C.2.2.2.2.2.1 _ kac_sta) (C.2.2.2.2.2.1 _ kac_ini) C.2.2.2.2.2.2.2.1 hP (wld_D C.2.2.2.2.2.2.2.2.2.2 M L) hS i j 0 0 (f := M i) (g := M j) (wld_get hs) (wld_get hs2) rfl rfl rfl h1 h2 h3 h4 h5 (fun _ _ => rfl) (by show 1 ≤ d + 1; omega) (by show _ + (nativeFrameWords "java/lang/System" "arraycopy" 5 + 11) ≤ 40 * (d + 1); have : nativeFrameWords "java/lang/System" "arraycopy" 5 + 11 ≤ 30 := (by decide +kernel); omega) hdg (fun H1 locs1 hP1 hD1 hS1 => k p e s m args below meth c H1 locs1 ls C hl ?_ hS1)
  have e1 : ∀ f : Nat → Int32, (Sum.inl (gI g, nB, Sum.inl f) : va_E) = cellE g (sr M j f) L j (.inr (0, nB, tg2)) := fun f => by
    show _ = (Sum.inl (gI g, nB, Sum.inl (sr M j f j)) : va_E)
    rw [sr_eq]
  rw [e1, wld_set _ hs2] at hP1
  exact hP1
theorem tm_cpL {index i j nA nB ls_ ld ln : Nat} {sp dp x : Int32} {tg tg2 : List Nat} (hln : Cond.methodLink own index arraycopyName ∈ tbU) (hs : shp i = some (.inr (1, nA, tg))) (hs2 : shp j = some (.inr (1, nB, tg2))) (h1 : ¬ sp < 0 ∧ sp.toNatClampNeg = ls_) (h2 : ¬ dp < 0 ∧ dp.toNatClampNeg = ld) (h3 : ¬ x < 0 ∧ x.toNatClampNeg = ln) (h4 : ls_ + ln ≤ nA) (h5 : ld + ln ≤ nB) (hroom : (st.map fun v => v.category).sum ≤ 8) (n : Nat) (hn : pc + 3 = n) (hdg : decode cc pc = .ok (.invokestatic index, 3)) (k : Tm g (d + 1) own cc nL ret Qc n l st M (srL L j (va_cpy (L i) (L j) ls_ ld ln))) : Tm g (d + 1) own cc nL ret Qc pc l (.int x :: .int dp :: rf g j :: .int sp :: rf g i :: st) M L := by
  subst hn
  obtain ⟨h1, h1b⟩ := h1; obtain ⟨h2, h2b⟩ := h2; obtain ⟨h3, h3b⟩ := h3
  subst h1b; subst h2b; subst h3b
  intro p e s m args below meth c H locs ls C hl hP hS
  refine va_copyl C.1 C.2.1 (C.2.2.2.1.trans hl.1.symm) C.2.2.2.2.1 (C.2.2.2.2.2.1 _ hln) (C.2.2.2.2.2.1 _ kac_nat) (C.2.2.2.2.2.1 _ kac_sta) (C.2.2.2.2.2.1 _ kac_ini) C.2.2.2.2.2.2.2.1 hP (wld_D C.2.2.2.2.2.2.2.2.2.2 M L) hS i j 1 1 (f := L i) (g := L j) (wld_get hs) (wld_get hs2) rfl rfl rfl h1 h2 h3 h4 h5 (fun _ _ => rfl) (by show 1 ≤ d + 1; omega) (by show _ + (nativeFrameWords "java/lang/System" "arraycopy" 5 + 11) ≤ 40 * (d + 1); have : nativeFrameWords "java/lang/System" "arraycopy" 5 + 11 ≤ 30 := (by decide +kernel); omega) hdg (fun H1 locs1 hP1 hD1 hS1 => k p e s m args below meth c H1 locs1 ls C hl ?_ hS1)
  have e1 : ∀ f : Nat → Int64, (Sum.inl (gJ g, nB, Sum.inr (Sum.inl f)) : va_E) = cellE g M (srL L j f) j (.inr (1, nB, tg2)) := fun f => by
    show _ = (Sum.inl (gJ g, nB, Sum.inr (Sum.inl (srL L j f j))) : va_E)
    rw [srL_eq]
  rw [e1, wld_setL _ hs2] at hP1
  exact hP1
theorem tm_loop {N : Nat} (S : Nat → Prop) (hs : ∀ k, k < N → S (k + 1) → S k) (hx : S N) : S 0 := by
  have h : ∀ k, k ≤ N → S (N - k) := by
    intro k
    induction k with
    | zero => intro _; exact hx
    | succ k ih =>
      intro hk
      have e : N - (k + 1) + 1 = N - k := by omega
      exact hs (N - (k + 1)) (by omega) (by rw [e]; exact ih (by omega))
  have h0 := h N (Nat.le_refl N)
  rwa [Nat.sub_self] at h0
theorem tm_loopE {N : Nat} (P : Nat → Prop) (S : Nat → Prop) (hp : P 0) (hs : ∀ k, k < N → P k → (P (k + 1) → S (k + 1)) → S k) (hx : P N → S N) : S 0 := by
  have h : ∀ k, k ≤ N → P (N - k) → S (N - k) := by
    intro k
    induction k with
    | zero => intro _ q; exact hx q
    | succ k ih =>
      intro hk q
      have e : N - (k + 1) + 1 = N - k := by omega
      exact hs (N - (k + 1)) (by omega) q (by rw [e]; exact ih (by omega))
  have h0 := h N (Nat.le_refl N)
  rw [Nat.sub_self] at h0
  exact h0 hp
end Toy
end
section
theorem ini_X0 : Cond.initialized RX0 ∈ tbU := tbm 66 (by decide +kernel) (by decide +kernel)
theorem ini_X1 : Cond.initialized RX1 ∈ tbU := tbm 61 (by decide +kernel) (by decide +kernel)
theorem ini_X2 : Cond.initialized RX2 ∈ tbU := tbm 58 (by decide +kernel) (by decide +kernel)
theorem ini_X3 : Cond.initialized RX3 ∈ tbU := tbm 60 (by decide +kernel) (by decide +kernel)
theorem ini_X4 : Cond.initialized RX4 ∈ tbU := tbm 57 (by decide +kernel) (by decide +kernel)
theorem ini_X5 : Cond.initialized RX5 ∈ tbU := tbm 59 (by decide +kernel) (by decide +kernel)
theorem ini_X6 : Cond.initialized RX6 ∈ tbU := tbm 64 (by decide +kernel) (by decide +kernel)
theorem ini_X7 : Cond.initialized RX7 ∈ tbU := tbm 62 (by decide +kernel) (by decide +kernel)
theorem ini_X8 : Cond.initialized RX8 ∈ tbU := tbm 63 (by decide +kernel) (by decide +kernel)
theorem ini_X9 : Cond.initialized RX9 ∈ tbU := tbm 56 (by decide +kernel) (by decide +kernel)
theorem ini_X10 : Cond.initialized RX10 ∈ tbU := tbm 65 (by decide +kernel) (by decide +kernel)
theorem ini_J6 : Cond.initialized RJ6 ∈ tbU := tbm 69 (by decide +kernel) (by decide +kernel)
theorem ini_J9 : Cond.initialized RJ9 ∈ tbU := tbm 67 (by decide +kernel) (by decide +kernel)
theorem ini_J10 : Cond.initialized RJ10 ∈ tbU := tbm 68 (by decide +kernel) (by decide +kernel)
theorem ini_L : Cond.initialized RL ∈ tbU := tbm 55 (by decide +kernel) (by decide +kernel)
theorem inU_X1 : ∀ w ∈ u_ws RX1 TX1 4, w ∈ tbU := by decide +kernel
theorem inU_X2 : ∀ w ∈ u_ws RX2 TX2 3, w ∈ tbU := by decide +kernel
theorem inU_X3 : ∀ w ∈ u_ws RX3 TX3 8, w ∈ tbU := by decide +kernel
theorem inU_X4 : ∀ w ∈ u_ws RX4 TX4 8, w ∈ tbU := by decide +kernel
theorem inU_X5 : ∀ w ∈ u_ws RX5 TX5 7, w ∈ tbU := by decide +kernel
theorem inU_X6 : ∀ w ∈ u_ws RX6 TX6 3, w ∈ tbU := by decide +kernel
theorem inU_X7 : ∀ w ∈ u_ws RX7 TX7 2, w ∈ tbU := by decide +kernel
theorem inU_X8 : ∀ w ∈ u_ws RX8 TX8 1, w ∈ tbU := by decide +kernel
theorem inU_X9 : ∀ w ∈ u_ws RX9 TX9 9, w ∈ tbU := by decide +kernel
theorem inU_X10 : ∀ w ∈ u_ws RX10 TX10 18, w ∈ tbU := by decide +kernel
theorem mv_X9_voters : MV yX9_voters cX9_voters 3 (some .int) 1 := ⟨tbm 298 (by decide +kernel) (by decide +kernel), tbm 299 (by decide +kernel) (by decide +kernel), ini_X9, tbm 300 (by decide +kernel) (by decide +kernel), by decide +kernel, by decide⟩
theorem mv_X4_startAnew : MV yX4_startAnew cX4_startAnew 3 none 1 := ⟨tbm 302 (by decide +kernel) (by decide +kernel), tbm 303 (by decide +kernel) (by decide +kernel), ini_X4, tbm 304 (by decide +kernel) (by decide +kernel), by decide +kernel, by decide⟩
theorem mv_X9_say : MV yX9_say cX9_say 4 (some .int) 2 := ⟨tbm 306 (by decide +kernel) (by decide +kernel), tbm 307 (by decide +kernel) (by decide +kernel), ini_X9, tbm 308 (by decide +kernel) (by decide +kernel), by decide +kernel, by decide⟩
theorem mv_X4_hasLot : MV yX4_hasLot cX4_hasLot 2 (some .boolean) 1 := ⟨tbm 310 (by decide +kernel) (by decide +kernel), tbm 311 (by decide +kernel) (by decide +kernel), ini_X4, tbm 312 (by decide +kernel) (by decide +kernel), by decide +kernel, by decide⟩
theorem mv_X4_lots : MV yX4_lots cX4_lots 1 (some .int) 0 := ⟨tbm 314 (by decide +kernel) (by decide +kernel), tbm 315 (by decide +kernel) (by decide +kernel), ini_X4, tbm 316 (by decide +kernel) (by decide +kernel), by decide +kernel, by decide⟩
theorem ms_X9_isYesOrNo : MS yX9_isYesOrNo cX9_isYesOrNo 1 (some .boolean) 1 := ⟨tbm 318 (by decide +kernel) (by decide +kernel), ini_X9, tbm 319 (by decide +kernel) (by decide +kernel), by decide +kernel, by decide⟩
theorem ms_X0_says : MS yX0_says cX0_says 2 (some .int) 2 := ⟨tbm 321 (by decide +kernel) (by decide +kernel), ini_X0, tbm 322 (by decide +kernel) (by decide +kernel), by decide +kernel, by decide⟩
theorem ms_X0_flipped : MS yX0_flipped cX0_flipped 2 (some .int) 2 := ⟨tbm 324 (by decide +kernel) (by decide +kernel), ini_X0, tbm 325 (by decide +kernel) (by decide +kernel), by decide +kernel, by decide⟩
theorem mv_X9_code : MV yX9_code cX9_code 3 (some .int) 1 := ⟨tbm 327 (by decide +kernel) (by decide +kernel), tbm 328 (by decide +kernel) (by decide +kernel), ini_X9, tbm 329 (by decide +kernel) (by decide +kernel), by decide +kernel, by decide⟩
theorem ms_X0_allYes : MS yX0_allYes cX0_allYes 1 (some .int) 1 := ⟨tbm 331 (by decide +kernel) (by decide +kernel), ini_X0, tbm 332 (by decide +kernel) (by decide +kernel), by decide +kernel, by decide⟩
theorem mv_X9_weight : MV yX9_weight cX9_weight 4 (some .int) 2 := ⟨tbm 334 (by decide +kernel) (by decide +kernel), tbm 335 (by decide +kernel) (by decide +kernel), ini_X9, tbm 336 (by decide +kernel) (by decide +kernel), by decide +kernel, by decide⟩
theorem mv_X4_hasVoter : MV yX4_hasVoter cX4_hasVoter 2 (some .boolean) 1 := ⟨tbm 338 (by decide +kernel) (by decide +kernel), tbm 339 (by decide +kernel) (by decide +kernel), ini_X4, tbm 340 (by decide +kernel) (by decide +kernel), by decide +kernel, by decide⟩
theorem mv_X9_quota : MV yX9_quota cX9_quota 3 (some .int) 1 := ⟨tbm 342 (by decide +kernel) (by decide +kernel), tbm 343 (by decide +kernel) (by decide +kernel), ini_X9, tbm 344 (by decide +kernel) (by decide +kernel), by decide +kernel, by decide⟩
theorem mv_X9_weigh : MV yX9_weigh cX9_weigh 1 (some .int) 0 := ⟨tbm 346 (by decide +kernel) (by decide +kernel), tbm 347 (by decide +kernel) (by decide +kernel), ini_X9, tbm 348 (by decide +kernel) (by decide +kernel), by decide +kernel, by decide⟩
theorem mv_X4_weighed : MV yX4_weighed cX4_weighed 3 (some .int) 0 := ⟨tbm 350 (by decide +kernel) (by decide +kernel), tbm 351 (by decide +kernel) (by decide +kernel), ini_X4, tbm 352 (by decide +kernel) (by decide +kernel), by decide +kernel, by decide⟩
theorem mv_X4_worthOf : MV yX4_worthOf cX4_worthOf 2 (some .int) 1 := ⟨tbm 354 (by decide +kernel) (by decide +kernel), tbm 355 (by decide +kernel) (by decide +kernel), ini_X4, tbm 356 (by decide +kernel) (by decide +kernel), by decide +kernel, by decide⟩
theorem ms_X3_worth : MS yX3_worth cX3_worth 4 (some .int) 2 := ⟨tbm 358 (by decide +kernel) (by decide +kernel), ini_X3, tbm 359 (by decide +kernel) (by decide +kernel), by decide +kernel, by decide⟩
theorem mv_X9_becomes : MV yX9_becomes cX9_becomes 2 (some .int) 1 := ⟨tbm 361 (by decide +kernel) (by decide +kernel), tbm 362 (by decide +kernel) (by decide +kernel), ini_X9, tbm 363 (by decide +kernel) (by decide +kernel), by decide +kernel, by decide⟩
theorem ms_X0_dual : MS yX0_dual cX0_dual 4 (some .int) 2 := ⟨tbm 365 (by decide +kernel) (by decide +kernel), ini_X0, tbm 366 (by decide +kernel) (by decide +kernel), by decide +kernel, by decide⟩
theorem ms_X0_turned : MS yX0_turned cX0_turned 3 (some .int) 2 := ⟨tbm 368 (by decide +kernel) (by decide +kernel), ini_X0, tbm 369 (by decide +kernel) (by decide +kernel), by decide +kernel, by decide⟩
theorem ms_X0_opposite : MS yX0_opposite cX0_opposite 2 (some .int) 2 := ⟨tbm 373 (by decide +kernel) (by decide +kernel), ini_X0, tbm 374 (by decide +kernel) (by decide +kernel), by decide +kernel, by decide⟩
theorem mv_X9_takeLeastWeights : MV yX9_takeLeastWeights cX9_takeLeastWeights 1 (some .int) 0 := ⟨tbm 379 (by decide +kernel) (by decide +kernel), tbm 0 (by decide +kernel) (by decide +kernel), ini_X9, tbm 380 (by decide +kernel) (by decide +kernel), by decide +kernel, by decide⟩
theorem mv_X3_balance : MV yX3_balance cX3_balance 3 (some .boolean) 2 := ⟨tbm 382 (by decide +kernel) (by decide +kernel), tbm 383 (by decide +kernel) (by decide +kernel), ini_X3, tbm 384 (by decide +kernel) (by decide +kernel), by decide +kernel, by decide⟩
theorem mv_X3_setBounds : MV yX3_setBounds cX3_setBounds 6 (some .boolean) 2 := ⟨tbm 387 (by decide +kernel) (by decide +kernel), tbm 1 (by decide +kernel) (by decide +kernel), ini_X3, tbm 388 (by decide +kernel) (by decide +kernel), by decide +kernel, by decide⟩
theorem ms_X0_winsBy : MS yX0_winsBy cX0_winsBy 3 (some .int) 3 := ⟨tbm 390 (by decide +kernel) (by decide +kernel), ini_X0, tbm 391 (by decide +kernel) (by decide +kernel), by decide +kernel, by decide⟩
theorem ms_X0_losesBy : MS yX0_losesBy cX0_losesBy 2 (some .int) 2 := ⟨tbm 393 (by decide +kernel) (by decide +kernel), ini_X0, tbm 394 (by decide +kernel) (by decide +kernel), by decide +kernel, by decide⟩
theorem mv_X3_tryAll : MV yX3_tryAll cX3_tryAll 7 none 2 := ⟨tbm 398 (by decide +kernel) (by decide +kernel), tbm 2 (by decide +kernel) (by decide +kernel), ini_X3, tbm 399 (by decide +kernel) (by decide +kernel), by decide +kernel, by decide⟩
theorem mv_X3_holdIfLess : MV yX3_holdIfLess cX3_holdIfLess 5 none 2 := ⟨tbm 402 (by decide +kernel) (by decide +kernel), tbm 3 (by decide +kernel) (by decide +kernel), ini_X3, tbm 403 (by decide +kernel) (by decide +kernel), by decide +kernel, by decide⟩
theorem ms_J9_abs_0f7a4 : MS yJ9_abs_0f7a4 cJ9_abs_0f7a4 1 (some .int) 1 := ⟨tbm 405 (by decide +kernel) (by decide +kernel), ini_J9, tbm 406 (by decide +kernel) (by decide +kernel), by decide +kernel, by decide⟩
theorem mv_X3_divides : MV yX3_divides cX3_divides 6 (some .boolean) 3 := ⟨tbm 409 (by decide +kernel) (by decide +kernel), tbm 4 (by decide +kernel) (by decide +kernel), ini_X3, tbm 410 (by decide +kernel) (by decide +kernel), by decide +kernel, by decide⟩
theorem ms_J9_min_7cf53 : MS yJ9_min_7cf53 cJ9_min_7cf53 2 (some .int) 2 := ⟨tbm 414 (by decide +kernel) (by decide +kernel), ini_J9, tbm 415 (by decide +kernel) (by decide +kernel), by decide +kernel, by decide⟩
theorem ms_J9_max_7cf53 : MS yJ9_max_7cf53 cJ9_max_7cf53 2 (some .int) 2 := ⟨tbm 417 (by decide +kernel) (by decide +kernel), ini_J9, tbm 418 (by decide +kernel) (by decide +kernel), by decide +kernel, by decide⟩
theorem ms_X4_copyRow : MS yX4_copyRow cX4_copyRow 2 none 2 := ⟨tbm 420 (by decide +kernel) (by decide +kernel), ini_X4, tbm 421 (by decide +kernel) (by decide +kernel), by decide +kernel, by decide⟩
theorem mv_X9_turn : MV yX9_turn cX9_turn 2 (some .int) 1 := ⟨tbm 428 (by decide +kernel) (by decide +kernel), tbm 429 (by decide +kernel) (by decide +kernel), ini_X9, tbm 430 (by decide +kernel) (by decide +kernel), by decide +kernel, by decide⟩
theorem mv_X9_exchange : MV yX9_exchange cX9_exchange 3 (some .int) 2 := ⟨tbm 433 (by decide +kernel) (by decide +kernel), tbm 434 (by decide +kernel) (by decide +kernel), ini_X9, tbm 435 (by decide +kernel) (by decide +kernel), by decide +kernel, by decide⟩
theorem ms_X0_changedAbout : MS yX0_changedAbout cX0_changedAbout 8 (some .int) 3 := ⟨tbm 437 (by decide +kernel) (by decide +kernel), ini_X0, tbm 438 (by decide +kernel) (by decide +kernel), by decide +kernel, by decide⟩
theorem mv_X9_keep : MV yX9_keep cX9_keep 1 (some .int) 0 := ⟨tbm 442 (by decide +kernel) (by decide +kernel), tbm 443 (by decide +kernel) (by decide +kernel), ini_X9, tbm 444 (by decide +kernel) (by decide +kernel), by decide +kernel, by decide⟩
theorem mv_X9_feed : MV yX9_feed cX9_feed 2 (some .int) 1 := ⟨tbm 446 (by decide +kernel) (by decide +kernel), tbm 447 (by decide +kernel) (by decide +kernel), ini_X9, tbm 448 (by decide +kernel) (by decide +kernel), by decide +kernel, by decide⟩
theorem mv_X5_append : MV yX5_append cX5_append 2 (some .boolean) 1 := ⟨tbm 450 (by decide +kernel) (by decide +kernel), tbm 451 (by decide +kernel) (by decide +kernel), ini_X5, tbm 452 (by decide +kernel) (by decide +kernel), by decide +kernel, by decide⟩
theorem mv_X9_read : MV yX9_read cX9_read 4 (some .int) 0 := ⟨tbm 454 (by decide +kernel) (by decide +kernel), tbm 455 (by decide +kernel) (by decide +kernel), ini_X9, tbm 456 (by decide +kernel) (by decide +kernel), by decide +kernel, by decide⟩
theorem mv_X5_parse : MV yX5_parse cX5_parse 2 (some .int) 0 := ⟨tbm 458 (by decide +kernel) (by decide +kernel), tbm 459 (by decide +kernel) (by decide +kernel), ini_X5, tbm 460 (by decide +kernel) (by decide +kernel), by decide +kernel, by decide⟩
theorem mv_X5_takeClause : MV yX5_takeClause cX5_takeClause 3 (some .boolean) 1 := ⟨tbm 463 (by decide +kernel) (by decide +kernel), tbm 5 (by decide +kernel) (by decide +kernel), ini_X5, tbm 464 (by decide +kernel) (by decide +kernel), by decide +kernel, by decide⟩
theorem mv_X5_sign : MV yX5_sign cX5_sign 1 (some .int) 0 := ⟨tbm 467 (by decide +kernel) (by decide +kernel), tbm 6 (by decide +kernel) (by decide +kernel), ini_X5, tbm 468 (by decide +kernel) (by decide +kernel), by decide +kernel, by decide⟩
theorem mv_X5_takeDigit : MV yX5_takeDigit cX5_takeDigit 3 (some .boolean) 2 := ⟨tbm 471 (by decide +kernel) (by decide +kernel), tbm 7 (by decide +kernel) (by decide +kernel), ini_X5, tbm 472 (by decide +kernel) (by decide +kernel), by decide +kernel, by decide⟩
theorem mv_X5_isDigit : MV yX5_isDigit cX5_isDigit 1 (some .boolean) 0 := ⟨tbm 475 (by decide +kernel) (by decide +kernel), tbm 8 (by decide +kernel) (by decide +kernel), ini_X5, tbm 476 (by decide +kernel) (by decide +kernel), by decide +kernel, by decide⟩
theorem mv_X5_takeLot : MV yX5_takeLot cX5_takeLot 3 none 1 := ⟨tbm 479 (by decide +kernel) (by decide +kernel), tbm 9 (by decide +kernel) (by decide +kernel), ini_X5, tbm 480 (by decide +kernel) (by decide +kernel), by decide +kernel, by decide⟩
theorem mv_X5_takeNumber : MV yX5_takeNumber cX5_takeNumber 5 (some .boolean) 2 := ⟨tbm 483 (by decide +kernel) (by decide +kernel), tbm 10 (by decide +kernel) (by decide +kernel), ini_X5, tbm 484 (by decide +kernel) (by decide +kernel), by decide +kernel, by decide⟩
theorem mv_X9_carryOut : MV yX9_carryOut cX9_carryOut 4 (some .int) 3 := ⟨tbm 487 (by decide +kernel) (by decide +kernel), tbm 11 (by decide +kernel) (by decide +kernel), ini_X9, tbm 488 (by decide +kernel) (by decide +kernel), by decide +kernel, by decide⟩
theorem mv_X9_of : MV yX9_of cX9_of 3 (some .int) 2 := ⟨tbm 499 (by decide +kernel) (by decide +kernel), tbm 500 (by decide +kernel) (by decide +kernel), ini_X9, tbm 501 (by decide +kernel) (by decide +kernel), by decide +kernel, by decide⟩
theorem mv_X9_told : MV yX9_told cX9_told 2 (some .int) 1 := ⟨tbm 504 (by decide +kernel) (by decide +kernel), tbm 505 (by decide +kernel) (by decide +kernel), ini_X9, tbm 506 (by decide +kernel) (by decide +kernel), by decide +kernel, by decide⟩
theorem ms_X0_isRising : MS yX0_isRising cX0_isRising 3 (some .boolean) 2 := ⟨tbm 508 (by decide +kernel) (by decide +kernel), ini_X0, tbm 509 (by decide +kernel) (by decide +kernel), by decide +kernel, by decide⟩
theorem ms_X9_oneIf : MS yX9_oneIf cX9_oneIf 1 (some .int) 1 := ⟨tbm 511 (by decide +kernel) (by decide +kernel), ini_X9, tbm 512 (by decide +kernel) (by decide +kernel), by decide +kernel, by decide⟩
theorem ms_X0_isOwnDual : MS yX0_isOwnDual cX0_isOwnDual 2 (some .boolean) 2 := ⟨tbm 514 (by decide +kernel) (by decide +kernel), ini_X0, tbm 515 (by decide +kernel) (by decide +kernel), by decide +kernel, by decide⟩
theorem mv_X8_ofCode : MV yX8_ofCode cX8_ofCode 10 (some .int) 2 := ⟨tbm 518 (by decide +kernel) (by decide +kernel), tbm 519 (by decide +kernel) (by decide +kernel), ini_X8, tbm 520 (by decide +kernel) (by decide +kernel), by decide +kernel, by decide⟩
theorem ms_X8_key : MS yX8_key cX8_key 4 (some .int) 1 := ⟨tbm 522 (by decide +kernel) (by decide +kernel), ini_X8, tbm 523 (by decide +kernel) (by decide +kernel), by decide +kernel, by decide⟩
theorem ms_X0_with : MS yX0_with cX0_with 1 (some .int) 1 := ⟨tbm 525 (by decide +kernel) (by decide +kernel), ini_X0, tbm 526 (by decide +kernel) (by decide +kernel), by decide +kernel, by decide⟩
theorem ms_J6_bitCount_0f7a4 : MS yJ6_bitCount_0f7a4 cJ6_bitCount_0f7a4 1 (some .int) 1 := ⟨tbm 528 (by decide +kernel) (by decide +kernel), ini_J6, tbm 529 (by decide +kernel) (by decide +kernel), by decide +kernel, by decide⟩
theorem mv_X8_countKeys : MV yX8_countKeys cX8_countKeys 4 none 2 := ⟨tbm 536 (by decide +kernel) (by decide +kernel), tbm 12 (by decide +kernel) (by decide +kernel), ini_X8, tbm 537 (by decide +kernel) (by decide +kernel), by decide +kernel, by decide⟩
theorem ms_X0_leastOnes : MS yX0_leastOnes cX0_leastOnes 4 (some .int) 2 := ⟨tbm 539 (by decide +kernel) (by decide +kernel), ini_X0, tbm 540 (by decide +kernel) (by decide +kernel), by decide +kernel, by decide⟩
theorem ms_X0_hasYesWithin : MS yX0_hasYesWithin cX0_hasYesWithin 3 (some .boolean) 2 := ⟨tbm 543 (by decide +kernel) (by decide +kernel), ini_X0, tbm 544 (by decide +kernel) (by decide +kernel), by decide +kernel, by decide⟩
theorem mv_X1_spread : MV yX1_spread cX1_spread 4 none 2 := ⟨tbm 547 (by decide +kernel) (by decide +kernel), tbm 548 (by decide +kernel) (by decide +kernel), ini_X1, tbm 549 (by decide +kernel) (by decide +kernel), by decide +kernel, by decide⟩
theorem mv_X1_forget : MV yX1_forget cX1_forget 2 none 0 := ⟨tbm 552 (by decide +kernel) (by decide +kernel), tbm 13 (by decide +kernel) (by decide +kernel), ini_X1, tbm 553 (by decide +kernel) (by decide +kernel), by decide +kernel, by decide⟩
theorem mv_X1_meet : MV yX1_meet cX1_meet 5 none 2 := ⟨tbm 556 (by decide +kernel) (by decide +kernel), tbm 14 (by decide +kernel) (by decide +kernel), ini_X1, tbm 557 (by decide +kernel) (by decide +kernel), by decide +kernel, by decide⟩
theorem mv_X1_meetAllBeside : MV yX1_meetAllBeside cX1_meetAllBeside 5 none 3 := ⟨tbm 560 (by decide +kernel) (by decide +kernel), tbm 15 (by decide +kernel) (by decide +kernel), ini_X1, tbm 561 (by decide +kernel) (by decide +kernel), by decide +kernel, by decide⟩
theorem mv_X1_stepsTo : MV yX1_stepsTo cX1_stepsTo 3 (some .int) 1 := ⟨tbm 567 (by decide +kernel) (by decide +kernel), tbm 568 (by decide +kernel) (by decide +kernel), ini_X1, tbm 569 (by decide +kernel) (by decide +kernel), by decide +kernel, by decide⟩
theorem mv_X9_weightOf : MV yX9_weightOf cX9_weightOf 3 (some .int) 2 := ⟨tbm 571 (by decide +kernel) (by decide +kernel), tbm 572 (by decide +kernel) (by decide +kernel), ini_X9, tbm 573 (by decide +kernel) (by decide +kernel), by decide +kernel, by decide⟩
theorem mv_X9_least : MV yX9_least cX9_least 1 (some .int) 0 := ⟨tbm 575 (by decide +kernel) (by decide +kernel), tbm 576 (by decide +kernel) (by decide +kernel), ini_X9, tbm 577 (by decide +kernel) (by decide +kernel), by decide +kernel, by decide⟩
theorem mv_X9_chow : MV yX9_chow cX9_chow 2 (some .int) 1 := ⟨tbm 579 (by decide +kernel) (by decide +kernel), tbm 580 (by decide +kernel) (by decide +kernel), ini_X9, tbm 581 (by decide +kernel) (by decide +kernel), by decide +kernel, by decide⟩
theorem mv_X9_trade : MV yX9_trade cX9_trade 2 (some .int) 1 := ⟨tbm 584 (by decide +kernel) (by decide +kernel), tbm 585 (by decide +kernel) (by decide +kernel), ini_X9, tbm 586 (by decide +kernel) (by decide +kernel), by decide +kernel, by decide⟩
theorem mv_X7_find : MV yX7_find cX7_find 5 none 2 := ⟨tbm 588 (by decide +kernel) (by decide +kernel), tbm 589 (by decide +kernel) (by decide +kernel), ini_X7, tbm 590 (by decide +kernel) (by decide +kernel), by decide +kernel, by decide⟩
theorem mv_X7_findFor : MV yX7_findFor cX7_findFor 8 none 4 := ⟨tbm 594 (by decide +kernel) (by decide +kernel), tbm 16 (by decide +kernel) (by decide +kernel), ini_X7, tbm 595 (by decide +kernel) (by decide +kernel), by decide +kernel, by decide⟩
theorem mv_X7_addTrade : MV yX7_addTrade cX7_addTrade 5 none 4 := ⟨tbm 598 (by decide +kernel) (by decide +kernel), tbm 17 (by decide +kernel) (by decide +kernel), ini_X7, tbm 599 (by decide +kernel) (by decide +kernel), by decide +kernel, by decide⟩
theorem mv_X9_leastLot : MV yX9_leastLot cX9_leastLot 5 (some .int) 1 := ⟨tbm 601 (by decide +kernel) (by decide +kernel), tbm 602 (by decide +kernel) (by decide +kernel), ini_X9, tbm 603 (by decide +kernel) (by decide +kernel), by decide +kernel, by decide⟩
theorem mv_X9_swings : MV yX9_swings cX9_swings 2 (some .int) 1 := ⟨tbm 606 (by decide +kernel) (by decide +kernel), tbm 607 (by decide +kernel) (by decide +kernel), ini_X9, tbm 608 (by decide +kernel) (by decide +kernel), by decide +kernel, by decide⟩
theorem ms_X0_swingsOf : MS yX0_swingsOf cX0_swingsOf 3 (some .int) 3 := ⟨tbm 610 (by decide +kernel) (by decide +kernel), ini_X0, tbm 611 (by decide +kernel) (by decide +kernel), by decide +kernel, by decide⟩
theorem mv_X9_see : MV yX9_see cX9_see 3 (some .int) 2 := ⟨tbm 615 (by decide +kernel) (by decide +kernel), tbm 616 (by decide +kernel) (by decide +kernel), ini_X9, tbm 617 (by decide +kernel) (by decide +kernel), by decide +kernel, by decide⟩
theorem mv_X9_addSaying : MV yX9_addSaying cX9_addSaying 4 (some .int) 3 := ⟨tbm 620 (by decide +kernel) (by decide +kernel), tbm 18 (by decide +kernel) (by decide +kernel), ini_X9, tbm 621 (by decide +kernel) (by decide +kernel), by decide +kernel, by decide⟩
theorem mv_X2_append : MV yX2_append cX2_append 3 (some .boolean) 2 := ⟨tbm 623 (by decide +kernel) (by decide +kernel), tbm 624 (by decide +kernel) (by decide +kernel), ini_X2, tbm 625 (by decide +kernel) (by decide +kernel), by decide +kernel, by decide⟩
theorem mv_X9_fits : MV yX9_fits cX9_fits 4 (some .int) 1 := ⟨tbm 627 (by decide +kernel) (by decide +kernel), tbm 628 (by decide +kernel) (by decide +kernel), ini_X9, tbm 629 (by decide +kernel) (by decide +kernel), by decide +kernel, by decide⟩
theorem mv_X9_leastFit : MV yX9_leastFit cX9_leastFit 4 (some .int) 0 := ⟨tbm 632 (by decide +kernel) (by decide +kernel), tbm 19 (by decide +kernel) (by decide +kernel), ini_X9, tbm 633 (by decide +kernel) (by decide +kernel), by decide +kernel, by decide⟩
theorem mv_X9_greatestFit : MV yX9_greatestFit cX9_greatestFit 4 (some .int) 0 := ⟨tbm 637 (by decide +kernel) (by decide +kernel), tbm 20 (by decide +kernel) (by decide +kernel), ini_X9, tbm 638 (by decide +kernel) (by decide +kernel), by decide +kernel, by decide⟩
theorem mv_X9_odds : MV yX9_odds cX9_odds 3 (some .long) 2 := ⟨tbm 641 (by decide +kernel) (by decide +kernel), tbm 642 (by decide +kernel) (by decide +kernel), ini_X9, tbm 643 (by decide +kernel) (by decide +kernel), by decide +kernel, by decide⟩
theorem ms_X9_partOfFraction : MS yX9_partOfFraction cX9_partOfFraction 4 (some .long) 3 := ⟨tbm 646 (by decide +kernel) (by decide +kernel), ini_X9, tbm 647 (by decide +kernel) (by decide +kernel), by decide +kernel, by decide⟩
theorem ms_X9_greatestCommonDivisor : MS yX9_greatestCommonDivisor cX9_greatestCommonDivisor 3 (some .int) 2 := ⟨tbm 649 (by decide +kernel) (by decide +kernel), ini_X9, tbm 650 (by decide +kernel) (by decide +kernel), by decide +kernel, by decide⟩
theorem mv_X9_mean : MV yX9_mean cX9_mean 4 (some .long) 1 := ⟨tbm 652 (by decide +kernel) (by decide +kernel), tbm 653 (by decide +kernel) (by decide +kernel), ini_X9, tbm 654 (by decide +kernel) (by decide +kernel), by decide +kernel, by decide⟩
theorem mv_X9_event : MV yX9_event cX9_event 3 (some .int) 2 := ⟨tbm 656 (by decide +kernel) (by decide +kernel), tbm 657 (by decide +kernel) (by decide +kernel), ini_X9, tbm 658 (by decide +kernel) (by decide +kernel), by decide +kernel, by decide⟩
theorem mv_X9_eventFinds : MV yX9_eventFinds cX9_eventFinds 3 (some .boolean) 2 := ⟨tbm 661 (by decide +kernel) (by decide +kernel), tbm 21 (by decide +kernel) (by decide +kernel), ini_X9, tbm 662 (by decide +kernel) (by decide +kernel), by decide +kernel, by decide⟩
theorem mv_X9_after : MV yX9_after cX9_after 2 (some .int) 1 := ⟨tbm 664 (by decide +kernel) (by decide +kernel), tbm 665 (by decide +kernel) (by decide +kernel), ini_X9, tbm 666 (by decide +kernel) (by decide +kernel), by decide +kernel, by decide⟩
theorem mv_X9_codeBehindEvents : MV yX9_codeBehindEvents cX9_codeBehindEvents 5 (some .int) 0 := ⟨tbm 669 (by decide +kernel) (by decide +kernel), tbm 22 (by decide +kernel) (by decide +kernel), ini_X9, tbm 670 (by decide +kernel) (by decide +kernel), by decide +kernel, by decide⟩
theorem mv_X9_codeBehind : MV yX9_codeBehind cX9_codeBehind 4 (some .int) 3 := ⟨tbm 673 (by decide +kernel) (by decide +kernel), tbm 23 (by decide +kernel) (by decide +kernel), ini_X9, tbm 674 (by decide +kernel) (by decide +kernel), by decide +kernel, by decide⟩
theorem mv_X9_book : MV yX9_book cX9_book 3 (some .int) 2 := ⟨tbm 676 (by decide +kernel) (by decide +kernel), tbm 677 (by decide +kernel) (by decide +kernel), ini_X9, tbm 678 (by decide +kernel) (by decide +kernel), by decide +kernel, by decide⟩
theorem mv_X9_looked : MV yX9_looked cX9_looked 3 (some .int) 0 := ⟨tbm 680 (by decide +kernel) (by decide +kernel), tbm 681 (by decide +kernel) (by decide +kernel), ini_X9, tbm 682 (by decide +kernel) (by decide +kernel), by decide +kernel, by decide⟩
theorem mv_X9_judge : MV yX9_judge cX9_judge 5 (some .int) 2 := ⟨tbm 684 (by decide +kernel) (by decide +kernel), tbm 685 (by decide +kernel) (by decide +kernel), ini_X9, tbm 686 (by decide +kernel) (by decide +kernel), by decide +kernel, by decide⟩
theorem ms_X9_isTape : MS yX9_isTape cX9_isTape 1 (some .boolean) 1 := ⟨tbm 688 (by decide +kernel) (by decide +kernel), ini_X9, tbm 689 (by decide +kernel) (by decide +kernel), by decide +kernel, by decide⟩
theorem mv_X6_holdsNothing : MV yX6_holdsNothing cX6_holdsNothing 1 (some .boolean) 0 := ⟨tbm 691 (by decide +kernel) (by decide +kernel), tbm 692 (by decide +kernel) (by decide +kernel), ini_X6, tbm 693 (by decide +kernel) (by decide +kernel), by decide +kernel, by decide⟩
theorem mv_X9_image : MV yX9_image cX9_image 1 (some .int) 0 := ⟨tbm 695 (by decide +kernel) (by decide +kernel), tbm 696 (by decide +kernel) (by decide +kernel), ini_X9, tbm 697 (by decide +kernel) (by decide +kernel), by decide +kernel, by decide⟩
theorem mv_X4_copyFrom : MV yX4_copyFrom cX4_copyFrom 2 none 1 := ⟨tbm 699 (by decide +kernel) (by decide +kernel), tbm 700 (by decide +kernel) (by decide +kernel), ini_X4, tbm 701 (by decide +kernel) (by decide +kernel), by decide +kernel, by decide⟩
theorem mv_X2_copyFrom : MV yX2_copyFrom cX2_copyFrom 2 none 1 := ⟨tbm 704 (by decide +kernel) (by decide +kernel), tbm 705 (by decide +kernel) (by decide +kernel), ini_X2, tbm 706 (by decide +kernel) (by decide +kernel), by decide +kernel, by decide⟩
theorem mv_X9_undo : MV yX9_undo cX9_undo 1 (some .int) 0 := ⟨tbm 709 (by decide +kernel) (by decide +kernel), tbm 710 (by decide +kernel) (by decide +kernel), ini_X9, tbm 711 (by decide +kernel) (by decide +kernel), by decide +kernel, by decide⟩
theorem mv_X9_count : MV yX9_count cX9_count 2 (some .int) 1 := ⟨tbm 713 (by decide +kernel) (by decide +kernel), tbm 714 (by decide +kernel) (by decide +kernel), ini_X9, tbm 715 (by decide +kernel) (by decide +kernel), by decide +kernel, by decide⟩
theorem mv_X9_tape : MV yX9_tape cX9_tape 4 (some .int) 3 := ⟨tbm 717 (by decide +kernel) (by decide +kernel), tbm 718 (by decide +kernel) (by decide +kernel), ini_X9, tbm 719 (by decide +kernel) (by decide +kernel), by decide +kernel, by decide⟩
theorem mv_X6_become : MV yX6_become cX6_become 4 none 2 := ⟨tbm 721 (by decide +kernel) (by decide +kernel), tbm 722 (by decide +kernel) (by decide +kernel), ini_X6, tbm 723 (by decide +kernel) (by decide +kernel), by decide +kernel, by decide⟩
theorem mv_X9_item : MV yX9_item cX9_item 6 (some .int) 3 := ⟨tbm 725 (by decide +kernel) (by decide +kernel), tbm 726 (by decide +kernel) (by decide +kernel), ini_X9, tbm 727 (by decide +kernel) (by decide +kernel), by decide +kernel, by decide⟩
theorem mv_X6_hasPlace : MV yX6_hasPlace cX6_hasPlace 2 (some .boolean) 1 := ⟨tbm 729 (by decide +kernel) (by decide +kernel), tbm 730 (by decide +kernel) (by decide +kernel), ini_X6, tbm 731 (by decide +kernel) (by decide +kernel), by decide +kernel, by decide⟩
theorem mv_X6_cut : MV yX6_cut cX6_cut 3 (some .long) 1 := ⟨tbm 733 (by decide +kernel) (by decide +kernel), tbm 734 (by decide +kernel) (by decide +kernel), ini_X6, tbm 735 (by decide +kernel) (by decide +kernel), by decide +kernel, by decide⟩
theorem mv_X9_peek : MV yX9_peek cX9_peek 3 (some .long) 2 := ⟨tbm 737 (by decide +kernel) (by decide +kernel), tbm 738 (by decide +kernel) (by decide +kernel), ini_X9, tbm 739 (by decide +kernel) (by decide +kernel), by decide +kernel, by decide⟩
theorem mv_X9_shift : MV yX9_shift cX9_shift 8 (some .int) 5 := ⟨tbm 741 (by decide +kernel) (by decide +kernel), tbm 742 (by decide +kernel) (by decide +kernel), ini_X9, tbm 743 (by decide +kernel) (by decide +kernel), by decide +kernel, by decide⟩
theorem mv_X6_hasStretch : MV yX6_hasStretch cX6_hasStretch 3 (some .boolean) 2 := ⟨tbm 745 (by decide +kernel) (by decide +kernel), tbm 746 (by decide +kernel) (by decide +kernel), ini_X6, tbm 747 (by decide +kernel) (by decide +kernel), by decide +kernel, by decide⟩
theorem mv_X10_starts : MV yX10_starts cX10_starts 3 none 1 := ⟨tbm 760 (by decide +kernel) (by decide +kernel), tbm 24 (by decide +kernel) (by decide +kernel), ini_X10, tbm 761 (by decide +kernel) (by decide +kernel), by decide +kernel, by decide⟩
theorem mv_X10_voters : MV yX10_voters cX10_voters 3 (some .int) 1 := ⟨tbm 818 (by decide +kernel) (by decide +kernel), tbm 819 (by decide +kernel) (by decide +kernel), ini_X10, tbm 820 (by decide +kernel) (by decide +kernel), by decide +kernel, by decide⟩
theorem ms_X10_in : MS yX10_in cX10_in 6 (some .boolean) 3 := ⟨tbm 824 (by decide +kernel) (by decide +kernel), ini_X10, tbm 825 (by decide +kernel) (by decide +kernel), by decide +kernel, by decide⟩
theorem mv_X10_say : MV yX10_say cX10_say 4 (some .int) 2 := ⟨tbm 827 (by decide +kernel) (by decide +kernel), tbm 828 (by decide +kernel) (by decide +kernel), ini_X10, tbm 829 (by decide +kernel) (by decide +kernel), by decide +kernel, by decide⟩
theorem mv_X10_isLot : MV yX10_isLot cX10_isLot 2 (some .boolean) 1 := ⟨tbm 832 (by decide +kernel) (by decide +kernel), tbm 25 (by decide +kernel) (by decide +kernel), ini_X10, tbm 833 (by decide +kernel) (by decide +kernel), by decide +kernel, by decide⟩
theorem mv_X10_lots : MV yX10_lots cX10_lots 1 (some .int) 0 := ⟨tbm 836 (by decide +kernel) (by decide +kernel), tbm 26 (by decide +kernel) (by decide +kernel), ini_X10, tbm 837 (by decide +kernel) (by decide +kernel), by decide +kernel, by decide⟩
theorem mv_X10_code : MV yX10_code cX10_code 3 (some .int) 1 := ⟨tbm 839 (by decide +kernel) (by decide +kernel), tbm 840 (by decide +kernel) (by decide +kernel), ini_X10, tbm 841 (by decide +kernel) (by decide +kernel), by decide +kernel, by decide⟩
theorem mv_X10_most : MV yX10_most cX10_most 1 (some .int) 0 := ⟨tbm 844 (by decide +kernel) (by decide +kernel), tbm 27 (by decide +kernel) (by decide +kernel), ini_X10, tbm 845 (by decide +kernel) (by decide +kernel), by decide +kernel, by decide⟩
theorem mv_X10_weight : MV yX10_weight cX10_weight 4 (some .int) 2 := ⟨tbm 847 (by decide +kernel) (by decide +kernel), tbm 848 (by decide +kernel) (by decide +kernel), ini_X10, tbm 849 (by decide +kernel) (by decide +kernel), by decide +kernel, by decide⟩
theorem mv_X10_isVoter : MV yX10_isVoter cX10_isVoter 2 (some .boolean) 1 := ⟨tbm 852 (by decide +kernel) (by decide +kernel), tbm 28 (by decide +kernel) (by decide +kernel), ini_X10, tbm 853 (by decide +kernel) (by decide +kernel), by decide +kernel, by decide⟩
theorem mv_X10_quota : MV yX10_quota cX10_quota 3 (some .int) 1 := ⟨tbm 857 (by decide +kernel) (by decide +kernel), tbm 858 (by decide +kernel) (by decide +kernel), ini_X10, tbm 859 (by decide +kernel) (by decide +kernel), by decide +kernel, by decide⟩
theorem mv_X10_weigh : MV yX10_weigh cX10_weigh 1 (some .int) 0 := ⟨tbm 863 (by decide +kernel) (by decide +kernel), tbm 864 (by decide +kernel) (by decide +kernel), ini_X10, tbm 865 (by decide +kernel) (by decide +kernel), by decide +kernel, by decide⟩
theorem mv_X10_weighed : MV yX10_weighed cX10_weighed 3 (some .int) 0 := ⟨tbm 868 (by decide +kernel) (by decide +kernel), tbm 29 (by decide +kernel) (by decide +kernel), ini_X10, tbm 869 (by decide +kernel) (by decide +kernel), by decide +kernel, by decide⟩
theorem mv_X10_worth : MV yX10_worth cX10_worth 4 (some .int) 1 := ⟨tbm 872 (by decide +kernel) (by decide +kernel), tbm 30 (by decide +kernel) (by decide +kernel), ini_X10, tbm 873 (by decide +kernel) (by decide +kernel), by decide +kernel, by decide⟩
theorem ms_X10_bit : MS yX10_bit cX10_bit 1 (some .int) 1 := ⟨tbm 875 (by decide +kernel) (by decide +kernel), ini_X10, tbm 876 (by decide +kernel) (by decide +kernel), by decide +kernel, by decide⟩
theorem mv_X10_becomes : MV yX10_becomes cX10_becomes 3 (some .int) 1 := ⟨tbm 878 (by decide +kernel) (by decide +kernel), tbm 879 (by decide +kernel) (by decide +kernel), ini_X10, tbm 880 (by decide +kernel) (by decide +kernel), by decide +kernel, by decide⟩
theorem mv_X10_isLinear : MV yX10_isLinear cX10_isLinear 2 (some .boolean) 1 := ⟨tbm 883 (by decide +kernel) (by decide +kernel), tbm 31 (by decide +kernel) (by decide +kernel), ini_X10, tbm 884 (by decide +kernel) (by decide +kernel), by decide +kernel, by decide⟩
theorem mv_X10_tries : MV yX10_tries cX10_tries 5 none 3 := ⟨tbm 887 (by decide +kernel) (by decide +kernel), tbm 32 (by decide +kernel) (by decide +kernel), ini_X10, tbm 888 (by decide +kernel) (by decide +kernel), by decide +kernel, by decide⟩
theorem mv_X10_tells : MV yX10_tells cX10_tells 6 (some .boolean) 1 := ⟨tbm 891 (by decide +kernel) (by decide +kernel), tbm 33 (by decide +kernel) (by decide +kernel), ini_X10, tbm 892 (by decide +kernel) (by decide +kernel), by decide +kernel, by decide⟩
theorem mv_X10_worthBy : MV yX10_worthBy cX10_worthBy 5 (some .int) 2 := ⟨tbm 895 (by decide +kernel) (by decide +kernel), tbm 34 (by decide +kernel) (by decide +kernel), ini_X10, tbm 896 (by decide +kernel) (by decide +kernel), by decide +kernel, by decide⟩
theorem ms_X10_is : MS yX10_is cX10_is 2 (some .boolean) 2 := ⟨tbm 898 (by decide +kernel) (by decide +kernel), ini_X10, tbm 899 (by decide +kernel) (by decide +kernel), by decide +kernel, by decide⟩
theorem mv_X10_leastQuota : MV yX10_leastQuota cX10_leastQuota 6 (some .int) 1 := ⟨tbm 902 (by decide +kernel) (by decide +kernel), tbm 35 (by decide +kernel) (by decide +kernel), ini_X10, tbm 903 (by decide +kernel) (by decide +kernel), by decide +kernel, by decide⟩
theorem mv_X10_dual : MV yX10_dual cX10_dual 4 (some .int) 1 := ⟨tbm 906 (by decide +kernel) (by decide +kernel), tbm 36 (by decide +kernel) (by decide +kernel), ini_X10, tbm 907 (by decide +kernel) (by decide +kernel), by decide +kernel, by decide⟩
theorem mv_X10_turn : MV yX10_turn cX10_turn 2 (some .int) 1 := ⟨tbm 909 (by decide +kernel) (by decide +kernel), tbm 910 (by decide +kernel) (by decide +kernel), ini_X10, tbm 911 (by decide +kernel) (by decide +kernel), by decide +kernel, by decide⟩
theorem mv_X10_turned : MV yX10_turned cX10_turned 5 (some .int) 2 := ⟨tbm 914 (by decide +kernel) (by decide +kernel), tbm 37 (by decide +kernel) (by decide +kernel), ini_X10, tbm 915 (by decide +kernel) (by decide +kernel), by decide +kernel, by decide⟩
theorem mv_X10_exchange : MV yX10_exchange cX10_exchange 3 (some .int) 2 := ⟨tbm 917 (by decide +kernel) (by decide +kernel), tbm 918 (by decide +kernel) (by decide +kernel), ini_X10, tbm 919 (by decide +kernel) (by decide +kernel), by decide +kernel, by decide⟩
theorem mv_X10_changed : MV yX10_changed cX10_changed 7 (some .int) 3 := ⟨tbm 922 (by decide +kernel) (by decide +kernel), tbm 38 (by decide +kernel) (by decide +kernel), ini_X10, tbm 923 (by decide +kernel) (by decide +kernel), by decide +kernel, by decide⟩
theorem mv_X10_keep : MV yX10_keep cX10_keep 1 (some .int) 0 := ⟨tbm 925 (by decide +kernel) (by decide +kernel), tbm 926 (by decide +kernel) (by decide +kernel), ini_X10, tbm 927 (by decide +kernel) (by decide +kernel), by decide +kernel, by decide⟩
theorem mv_X10_weightOf : MV yX10_weightOf cX10_weightOf 3 (some .int) 2 := ⟨tbm 929 (by decide +kernel) (by decide +kernel), tbm 930 (by decide +kernel) (by decide +kernel), ini_X10, tbm 931 (by decide +kernel) (by decide +kernel), by decide +kernel, by decide⟩
theorem mv_X10_least : MV yX10_least cX10_least 1 (some .int) 0 := ⟨tbm 933 (by decide +kernel) (by decide +kernel), tbm 934 (by decide +kernel) (by decide +kernel), ini_X10, tbm 935 (by decide +kernel) (by decide +kernel), by decide +kernel, by decide⟩
theorem mv_X10_of : MV yX10_of cX10_of 3 (some .int) 2 := ⟨tbm 937 (by decide +kernel) (by decide +kernel), tbm 938 (by decide +kernel) (by decide +kernel), ini_X10, tbm 939 (by decide +kernel) (by decide +kernel), by decide +kernel, by decide⟩
theorem mv_X10_chow : MV yX10_chow cX10_chow 2 (some .int) 1 := ⟨tbm 941 (by decide +kernel) (by decide +kernel), tbm 942 (by decide +kernel) (by decide +kernel), ini_X10, tbm 943 (by decide +kernel) (by decide +kernel), by decide +kernel, by decide⟩
theorem mv_X10_chowOf : MV yX10_chowOf cX10_chowOf 5 (some .int) 2 := ⟨tbm 946 (by decide +kernel) (by decide +kernel), tbm 39 (by decide +kernel) (by decide +kernel), ini_X10, tbm 947 (by decide +kernel) (by decide +kernel), by decide +kernel, by decide⟩
theorem mv_X10_leastLot : MV yX10_leastLot cX10_leastLot 2 (some .int) 1 := ⟨tbm 949 (by decide +kernel) (by decide +kernel), tbm 950 (by decide +kernel) (by decide +kernel), ini_X10, tbm 951 (by decide +kernel) (by decide +kernel), by decide +kernel, by decide⟩
theorem mv_X10_nthLeast : MV yX10_nthLeast cX10_nthLeast 4 (some .int) 1 := ⟨tbm 954 (by decide +kernel) (by decide +kernel), tbm 40 (by decide +kernel) (by decide +kernel), ini_X10, tbm 955 (by decide +kernel) (by decide +kernel), by decide +kernel, by decide⟩
theorem mv_X10_isLeastLot : MV yX10_isLeastLot cX10_isLeastLot 3 (some .boolean) 1 := ⟨tbm 958 (by decide +kernel) (by decide +kernel), tbm 41 (by decide +kernel) (by decide +kernel), ini_X10, tbm 959 (by decide +kernel) (by decide +kernel), by decide +kernel, by decide⟩
theorem mv_X10_swings : MV yX10_swings cX10_swings 4 (some .int) 1 := ⟨tbm 961 (by decide +kernel) (by decide +kernel), tbm 962 (by decide +kernel) (by decide +kernel), ini_X10, tbm 963 (by decide +kernel) (by decide +kernel), by decide +kernel, by decide⟩
theorem mv_X10_told : MV yX10_told cX10_told 2 (some .int) 1 := ⟨tbm 965 (by decide +kernel) (by decide +kernel), tbm 966 (by decide +kernel) (by decide +kernel), ini_X10, tbm 967 (by decide +kernel) (by decide +kernel), by decide +kernel, by decide⟩
theorem mv_X10_isRising : MV yX10_isRising cX10_isRising 3 (some .boolean) 0 := ⟨tbm 970 (by decide +kernel) (by decide +kernel), tbm 42 (by decide +kernel) (by decide +kernel), ini_X10, tbm 971 (by decide +kernel) (by decide +kernel), by decide +kernel, by decide⟩
theorem mv_X10_twins : MV yX10_twins cX10_twins 5 (some .int) 0 := ⟨tbm 974 (by decide +kernel) (by decide +kernel), tbm 43 (by decide +kernel) (by decide +kernel), ini_X10, tbm 975 (by decide +kernel) (by decide +kernel), by decide +kernel, by decide⟩
theorem mv_X10_reached : MV yX10_reached cX10_reached 5 (some .int) 0 := ⟨tbm 978 (by decide +kernel) (by decide +kernel), tbm 44 (by decide +kernel) (by decide +kernel), ini_X10, tbm 979 (by decide +kernel) (by decide +kernel), by decide +kernel, by decide⟩
theorem mv_X10_moved : MV yX10_moved cX10_moved 4 (some .int) 2 := ⟨tbm 982 (by decide +kernel) (by decide +kernel), tbm 45 (by decide +kernel) (by decide +kernel), ini_X10, tbm 983 (by decide +kernel) (by decide +kernel), by decide +kernel, by decide⟩
theorem mv_X10_steps : MV yX10_steps cX10_steps 2 (some .int) 0 := ⟨tbm 986 (by decide +kernel) (by decide +kernel), tbm 46 (by decide +kernel) (by decide +kernel), ini_X10, tbm 987 (by decide +kernel) (by decide +kernel), by decide +kernel, by decide⟩
theorem mv_X10_trade : MV yX10_trade cX10_trade 8 (some .int) 1 := ⟨tbm 989 (by decide +kernel) (by decide +kernel), tbm 990 (by decide +kernel) (by decide +kernel), ini_X10, tbm 991 (by decide +kernel) (by decide +kernel), by decide +kernel, by decide⟩
theorem ms_X10_isTrade : MS yX10_isTrade cX10_isTrade 4 (some .boolean) 4 := ⟨tbm 993 (by decide +kernel) (by decide +kernel), ini_X10, tbm 994 (by decide +kernel) (by decide +kernel), by decide +kernel, by decide⟩
theorem mv_X10_see : MV yX10_see cX10_see 4 (some .int) 2 := ⟨tbm 996 (by decide +kernel) (by decide +kernel), tbm 997 (by decide +kernel) (by decide +kernel), ini_X10, tbm 998 (by decide +kernel) (by decide +kernel), by decide +kernel, by decide⟩
theorem mv_X10_fits : MV yX10_fits cX10_fits 5 (some .int) 1 := ⟨tbm 1000 (by decide +kernel) (by decide +kernel), tbm 1001 (by decide +kernel) (by decide +kernel), ini_X10, tbm 1002 (by decide +kernel) (by decide +kernel), by decide +kernel, by decide⟩
theorem mv_X10_isSeenBy : MV yX10_isSeenBy cX10_isSeenBy 4 (some .boolean) 1 := ⟨tbm 1005 (by decide +kernel) (by decide +kernel), tbm 47 (by decide +kernel) (by decide +kernel), ini_X10, tbm 1006 (by decide +kernel) (by decide +kernel), by decide +kernel, by decide⟩
theorem mv_X10_odds : MV yX10_odds cX10_odds 3 (some .long) 2 := ⟨tbm 1008 (by decide +kernel) (by decide +kernel), tbm 1009 (by decide +kernel) (by decide +kernel), ini_X10, tbm 1010 (by decide +kernel) (by decide +kernel), by decide +kernel, by decide⟩
theorem ms_X10_lowest : MS yX10_lowest cX10_lowest 11 (some .long) 3 := ⟨tbm 1013 (by decide +kernel) (by decide +kernel), ini_X10, tbm 1014 (by decide +kernel) (by decide +kernel), by decide +kernel, by decide⟩
theorem mv_X10_mean : MV yX10_mean cX10_mean 5 (some .long) 1 := ⟨tbm 1017 (by decide +kernel) (by decide +kernel), tbm 1018 (by decide +kernel) (by decide +kernel), ini_X10, tbm 1019 (by decide +kernel) (by decide +kernel), by decide +kernel, by decide⟩
theorem mv_X10_event : MV yX10_event cX10_event 4 (some .int) 2 := ⟨tbm 1021 (by decide +kernel) (by decide +kernel), tbm 1022 (by decide +kernel) (by decide +kernel), ini_X10, tbm 1023 (by decide +kernel) (by decide +kernel), by decide +kernel, by decide⟩
theorem mv_X10_isThere : MV yX10_isThere cX10_isThere 3 (some .boolean) 2 := ⟨tbm 1027 (by decide +kernel) (by decide +kernel), tbm 48 (by decide +kernel) (by decide +kernel), ini_X10, tbm 1028 (by decide +kernel) (by decide +kernel), by decide +kernel, by decide⟩
theorem mv_X10_after : MV yX10_after cX10_after 6 (some .int) 1 := ⟨tbm 1030 (by decide +kernel) (by decide +kernel), tbm 1031 (by decide +kernel) (by decide +kernel), ini_X10, tbm 1032 (by decide +kernel) (by decide +kernel), by decide +kernel, by decide⟩
theorem mv_X10_book : MV yX10_book cX10_book 4 (some .int) 2 := ⟨tbm 1034 (by decide +kernel) (by decide +kernel), tbm 1035 (by decide +kernel) (by decide +kernel), ini_X10, tbm 1036 (by decide +kernel) (by decide +kernel), by decide +kernel, by decide⟩
theorem mv_X10_looked : MV yX10_looked cX10_looked 3 (some .int) 0 := ⟨tbm 1038 (by decide +kernel) (by decide +kernel), tbm 1039 (by decide +kernel) (by decide +kernel), ini_X10, tbm 1040 (by decide +kernel) (by decide +kernel), by decide +kernel, by decide⟩
theorem mv_X10_feed : MV yX10_feed cX10_feed 2 (some .int) 1 := ⟨tbm 1042 (by decide +kernel) (by decide +kernel), tbm 1043 (by decide +kernel) (by decide +kernel), ini_X10, tbm 1044 (by decide +kernel) (by decide +kernel), by decide +kernel, by decide⟩
theorem mv_X10_read : MV yX10_read cX10_read 6 (some .int) 0 := ⟨tbm 1047 (by decide +kernel) (by decide +kernel), tbm 1048 (by decide +kernel) (by decide +kernel), ini_X10, tbm 1049 (by decide +kernel) (by decide +kernel), by decide +kernel, by decide⟩
theorem mv_X10_here : MV yX10_here cX10_here 1 (some .int) 0 := ⟨tbm 1052 (by decide +kernel) (by decide +kernel), tbm 49 (by decide +kernel) (by decide +kernel), ini_X10, tbm 1053 (by decide +kernel) (by decide +kernel), by decide +kernel, by decide⟩
theorem mv_X10_hasClause : MV yX10_hasClause cX10_hasClause 4 (some .boolean) 0 := ⟨tbm 1056 (by decide +kernel) (by decide +kernel), tbm 50 (by decide +kernel) (by decide +kernel), ini_X10, tbm 1057 (by decide +kernel) (by decide +kernel), by decide +kernel, by decide⟩
theorem mv_X10_takes : MV yX10_takes cX10_takes 2 none 1 := ⟨tbm 1060 (by decide +kernel) (by decide +kernel), tbm 51 (by decide +kernel) (by decide +kernel), ini_X10, tbm 1061 (by decide +kernel) (by decide +kernel), by decide +kernel, by decide⟩
theorem mv_X10_isDigit : MV yX10_isDigit cX10_isDigit 1 (some .boolean) 0 := ⟨tbm 1064 (by decide +kernel) (by decide +kernel), tbm 52 (by decide +kernel) (by decide +kernel), ini_X10, tbm 1065 (by decide +kernel) (by decide +kernel), by decide +kernel, by decide⟩
theorem mv_X10_hasNumber : MV yX10_hasNumber cX10_hasNumber 3 (some .boolean) 0 := ⟨tbm 1070 (by decide +kernel) (by decide +kernel), tbm 53 (by decide +kernel) (by decide +kernel), ini_X10, tbm 1071 (by decide +kernel) (by decide +kernel), by decide +kernel, by decide⟩
theorem mv_X10_isDone : MV yX10_isDone cX10_isDone 4 (some .boolean) 1 := ⟨tbm 1074 (by decide +kernel) (by decide +kernel), tbm 54 (by decide +kernel) (by decide +kernel), ini_X10, tbm 1075 (by decide +kernel) (by decide +kernel), by decide +kernel, by decide⟩
theorem mv_X10_judge : MV yX10_judge cX10_judge 4 (some .int) 2 := ⟨tbm 1086 (by decide +kernel) (by decide +kernel), tbm 1087 (by decide +kernel) (by decide +kernel), ini_X10, tbm 1088 (by decide +kernel) (by decide +kernel), by decide +kernel, by decide⟩
theorem ms_X10_isTape : MS yX10_isTape cX10_isTape 1 (some .boolean) 1 := ⟨tbm 1090 (by decide +kernel) (by decide +kernel), ini_X10, tbm 1091 (by decide +kernel) (by decide +kernel), by decide +kernel, by decide⟩
theorem mv_X10_tape : MV yX10_tape cX10_tape 5 (some .int) 3 := ⟨tbm 1094 (by decide +kernel) (by decide +kernel), tbm 1095 (by decide +kernel) (by decide +kernel), ini_X10, tbm 1096 (by decide +kernel) (by decide +kernel), by decide +kernel, by decide⟩
theorem mv_X10_item : MV yX10_item cX10_item 5 (some .int) 3 := ⟨tbm 1099 (by decide +kernel) (by decide +kernel), tbm 1100 (by decide +kernel) (by decide +kernel), ini_X10, tbm 1101 (by decide +kernel) (by decide +kernel), by decide +kernel, by decide⟩
theorem mv_X10_peek : MV yX10_peek cX10_peek 3 (some .long) 2 := ⟨tbm 1103 (by decide +kernel) (by decide +kernel), tbm 1104 (by decide +kernel) (by decide +kernel), ini_X10, tbm 1105 (by decide +kernel) (by decide +kernel), by decide +kernel, by decide⟩
theorem mv_X10_shift : MV yX10_shift cX10_shift 7 (some .int) 5 := ⟨tbm 1107 (by decide +kernel) (by decide +kernel), tbm 1108 (by decide +kernel) (by decide +kernel), ini_X10, tbm 1109 (by decide +kernel) (by decide +kernel), by decide +kernel, by decide⟩
theorem mv_X10_image : MV yX10_image cX10_image 2 (some .int) 0 := ⟨tbm 1111 (by decide +kernel) (by decide +kernel), tbm 1112 (by decide +kernel) (by decide +kernel), ini_X10, tbm 1113 (by decide +kernel) (by decide +kernel), by decide +kernel, by decide⟩
theorem mv_X10_undo : MV yX10_undo cX10_undo 2 (some .int) 0 := ⟨tbm 1115 (by decide +kernel) (by decide +kernel), tbm 1116 (by decide +kernel) (by decide +kernel), ini_X10, tbm 1117 (by decide +kernel) (by decide +kernel), by decide +kernel, by decide⟩
theorem mv_X10_count : MV yX10_count cX10_count 2 (some .int) 1 := ⟨tbm 1119 (by decide +kernel) (by decide +kernel), tbm 1120 (by decide +kernel) (by decide +kernel), ini_X10, tbm 1121 (by decide +kernel) (by decide +kernel), by decide +kernel, by decide⟩
theorem ml_L_9 : Cond.methodLink RL 9 yX9_init ∈ tbU := tbm 72 (by decide +kernel) (by decide +kernel)
theorem ml_X9_11 : Cond.methodLink RX9 11 yX4_init ∈ tbU := tbm 80 (by decide +kernel) (by decide +kernel)
theorem ml_X4_30 : Cond.methodLink RX4 30 yX2_init ∈ tbU := tbm 86 (by decide +kernel) (by decide +kernel)
theorem ml_X9_27 : Cond.methodLink RX9 27 yX5_init ∈ tbU := tbm 139 (by decide +kernel) (by decide +kernel)
theorem ml_X9_40 : Cond.methodLink RX9 40 yX3_init ∈ tbU := tbm 174 (by decide +kernel) (by decide +kernel)
theorem ml_X9_47 : Cond.methodLink RX9 47 yX1_init ∈ tbU := tbm 207 (by decide +kernel) (by decide +kernel)
theorem ml_X9_54 : Cond.methodLink RX9 54 yX7_init ∈ tbU := tbm 227 (by decide +kernel) (by decide +kernel)
theorem ml_X9_61 : Cond.methodLink RX9 61 yX8_init ∈ tbU := tbm 242 (by decide +kernel) (by decide +kernel)
theorem ml_X9_66 : Cond.methodLink RX9 66 yX6_init ∈ tbU := tbm 251 (by decide +kernel) (by decide +kernel)
theorem ml_L_13 : Cond.methodLink RL 13 yX9_voters ∈ tbU := tbm 297 (by decide +kernel) (by decide +kernel)
theorem ml_X9_71 : Cond.methodLink RX9 71 yX4_startAnew ∈ tbU := tbm 301 (by decide +kernel) (by decide +kernel)
theorem ml_L_18 : Cond.methodLink RL 18 yX9_say ∈ tbU := tbm 305 (by decide +kernel) (by decide +kernel)
theorem ml_X9_75 : Cond.methodLink RX9 75 yX4_hasLot ∈ tbU := tbm 309 (by decide +kernel) (by decide +kernel)
theorem ml_X4_63 : Cond.methodLink RX4 63 yX4_lots ∈ tbU := tbm 313 (by decide +kernel) (by decide +kernel)
theorem ml_X9_79 : Cond.methodLink RX9 79 yX9_isYesOrNo ∈ tbU := tbm 317 (by decide +kernel) (by decide +kernel)
theorem ml_X9_85 : Cond.methodLink RX9 85 yX0_says ∈ tbU := tbm 320 (by decide +kernel) (by decide +kernel)
theorem ml_X9_91 : Cond.methodLink RX9 91 yX0_flipped ∈ tbU := tbm 323 (by decide +kernel) (by decide +kernel)
theorem ml_L_23 : Cond.methodLink RL 23 yX9_code ∈ tbU := tbm 326 (by decide +kernel) (by decide +kernel)
theorem ml_X9_94 : Cond.methodLink RX9 94 yX0_allYes ∈ tbU := tbm 330 (by decide +kernel) (by decide +kernel)
theorem ml_L_27 : Cond.methodLink RL 27 yX9_weight ∈ tbU := tbm 333 (by decide +kernel) (by decide +kernel)
theorem ml_X9_98 : Cond.methodLink RX9 98 yX4_hasVoter ∈ tbU := tbm 337 (by decide +kernel) (by decide +kernel)
theorem ml_L_31 : Cond.methodLink RL 31 yX9_quota ∈ tbU := tbm 341 (by decide +kernel) (by decide +kernel)
theorem ml_L_35 : Cond.methodLink RL 35 yX9_weigh ∈ tbU := tbm 345 (by decide +kernel) (by decide +kernel)
theorem ml_X9_108 : Cond.methodLink RX9 108 yX4_weighed ∈ tbU := tbm 349 (by decide +kernel) (by decide +kernel)
theorem ml_X4_73 : Cond.methodLink RX4 73 yX4_worthOf ∈ tbU := tbm 353 (by decide +kernel) (by decide +kernel)
theorem ml_X4_67 : Cond.methodLink RX4 67 yX3_worth ∈ tbU := tbm 357 (by decide +kernel) (by decide +kernel)
theorem ml_L_40 : Cond.methodLink RL 40 yX9_becomes ∈ tbU := tbm 360 (by decide +kernel) (by decide +kernel)
theorem ml_X9_112 : Cond.methodLink RX9 112 yX0_dual ∈ tbU := tbm 364 (by decide +kernel) (by decide +kernel)
theorem ml_X0_17 : Cond.methodLink RX0 17 yX0_turned ∈ tbU := tbm 367 (by decide +kernel) (by decide +kernel)
theorem ml_X0_21 : Cond.methodLink RX0 21 yX0_opposite ∈ tbU := tbm 372 (by decide +kernel) (by decide +kernel)
theorem ml_X0_13 : Cond.methodLink RX0 13 yX0_allYes ∈ tbU := tbm 375 (by decide +kernel) (by decide +kernel)
theorem ml_X9_115 : Cond.methodLink RX9 115 yX0_opposite ∈ tbU := tbm 376 (by decide +kernel) (by decide +kernel)
theorem ml_X9_118 : Cond.methodLink RX9 118 yX9_takeLeastWeights ∈ tbU := tbm 377 (by decide +kernel) (by decide +kernel)
theorem ml_X9_121 : Cond.methodLink RX9 121 yX3_balance ∈ tbU := tbm 381 (by decide +kernel) (by decide +kernel)
theorem ml_X3_37 : Cond.methodLink RX3 37 yX3_setBounds ∈ tbU := tbm 385 (by decide +kernel) (by decide +kernel)
theorem ml_X3_49 : Cond.methodLink RX3 49 yX0_winsBy ∈ tbU := tbm 389 (by decide +kernel) (by decide +kernel)
theorem ml_X0_35 : Cond.methodLink RX0 35 yX0_losesBy ∈ tbU := tbm 392 (by decide +kernel) (by decide +kernel)
theorem ml_X3_55 : Cond.methodLink RX3 55 yX0_losesBy ∈ tbU := tbm 395 (by decide +kernel) (by decide +kernel)
theorem ml_X3_41 : Cond.methodLink RX3 41 yX3_tryAll ∈ tbU := tbm 396 (by decide +kernel) (by decide +kernel)
theorem ml_X3_59 : Cond.methodLink RX3 59 yX3_holdIfLess ∈ tbU := tbm 400 (by decide +kernel) (by decide +kernel)
theorem ml_X3_62 : Cond.methodLink RX3 62 yJ9_abs_0f7a4 ∈ tbU := tbm 404 (by decide +kernel) (by decide +kernel)
theorem ml_X3_45 : Cond.methodLink RX3 45 yX3_divides ∈ tbU := tbm 407 (by decide +kernel) (by decide +kernel)
theorem ml_X3_74 : Cond.methodLink RX3 74 yX3_worth ∈ tbU := tbm 411 (by decide +kernel) (by decide +kernel)
theorem ml_X3_78 : Cond.methodLink RX3 78 yX0_says ∈ tbU := tbm 412 (by decide +kernel) (by decide +kernel)
theorem ml_X3_81 : Cond.methodLink RX3 81 yJ9_min_7cf53 ∈ tbU := tbm 413 (by decide +kernel) (by decide +kernel)
theorem ml_X3_84 : Cond.methodLink RX3 84 yJ9_max_7cf53 ∈ tbU := tbm 416 (by decide +kernel) (by decide +kernel)
theorem ml_X3_68 : Cond.methodLink RX3 68 yX4_copyRow ∈ tbU := tbm 419 (by decide +kernel) (by decide +kernel)
theorem ml_X4_51 : Cond.methodLink RX4 51 yJ9_min_7cf53 ∈ tbU := tbm 422 (by decide +kernel) (by decide +kernel)
theorem ml_X4_57 : Cond.methodLink RX4 57 arraycopyName ∈ tbU := tbm 423 (by decide +kernel) (by decide +kernel)
theorem ml_X9_126 : Cond.methodLink RX9 126 yX4_copyRow ∈ tbU := tbm 426 (by decide +kernel) (by decide +kernel)
theorem ml_L_44 : Cond.methodLink RL 44 yX9_turn ∈ tbU := tbm 427 (by decide +kernel) (by decide +kernel)
theorem ml_X9_131 : Cond.methodLink RX9 131 yX0_turned ∈ tbU := tbm 431 (by decide +kernel) (by decide +kernel)
theorem ml_L_48 : Cond.methodLink RL 48 yX9_exchange ∈ tbU := tbm 432 (by decide +kernel) (by decide +kernel)
theorem ml_X9_134 : Cond.methodLink RX9 134 yX0_changedAbout ∈ tbU := tbm 436 (by decide +kernel) (by decide +kernel)
theorem ml_X0_24 : Cond.methodLink RX0 24 yJ9_min_7cf53 ∈ tbU := tbm 439 (by decide +kernel) (by decide +kernel)
theorem ml_X0_29 : Cond.methodLink RX0 29 yJ9_max_7cf53 ∈ tbU := tbm 440 (by decide +kernel) (by decide +kernel)
theorem ml_L_52 : Cond.methodLink RL 52 yX9_keep ∈ tbU := tbm 441 (by decide +kernel) (by decide +kernel)
theorem ml_L_56 : Cond.methodLink RL 56 yX9_feed ∈ tbU := tbm 445 (by decide +kernel) (by decide +kernel)
theorem ml_X9_141 : Cond.methodLink RX9 141 yX5_append ∈ tbU := tbm 449 (by decide +kernel) (by decide +kernel)
theorem ml_L_60 : Cond.methodLink RL 60 yX9_read ∈ tbU := tbm 453 (by decide +kernel) (by decide +kernel)
theorem ml_X9_147 : Cond.methodLink RX9 147 yX5_parse ∈ tbU := tbm 457 (by decide +kernel) (by decide +kernel)
theorem ml_X5_32 : Cond.methodLink RX5 32 yX5_takeClause ∈ tbU := tbm 461 (by decide +kernel) (by decide +kernel)
theorem ml_X5_36 : Cond.methodLink RX5 36 yX5_sign ∈ tbU := tbm 465 (by decide +kernel) (by decide +kernel)
theorem ml_X5_40 : Cond.methodLink RX5 40 yX5_takeDigit ∈ tbU := tbm 469 (by decide +kernel) (by decide +kernel)
theorem ml_X5_51 : Cond.methodLink RX5 51 yX5_isDigit ∈ tbU := tbm 473 (by decide +kernel) (by decide +kernel)
theorem ml_X5_44 : Cond.methodLink RX5 44 yX5_takeLot ∈ tbU := tbm 477 (by decide +kernel) (by decide +kernel)
theorem ml_X5_48 : Cond.methodLink RX5 48 yX5_takeNumber ∈ tbU := tbm 481 (by decide +kernel) (by decide +kernel)
theorem ml_X9_162 : Cond.methodLink RX9 162 yX9_carryOut ∈ tbU := tbm 485 (by decide +kernel) (by decide +kernel)
theorem ml_X9_165 : Cond.methodLink RX9 165 yX9_voters ∈ tbU := tbm 489 (by decide +kernel) (by decide +kernel)
theorem ml_X9_168 : Cond.methodLink RX9 168 yX9_say ∈ tbU := tbm 490 (by decide +kernel) (by decide +kernel)
theorem ml_X9_171 : Cond.methodLink RX9 171 yX9_weight ∈ tbU := tbm 491 (by decide +kernel) (by decide +kernel)
theorem ml_X9_174 : Cond.methodLink RX9 174 yX9_quota ∈ tbU := tbm 492 (by decide +kernel) (by decide +kernel)
theorem ml_X9_176 : Cond.methodLink RX9 176 yX9_weigh ∈ tbU := tbm 493 (by decide +kernel) (by decide +kernel)
theorem ml_X9_179 : Cond.methodLink RX9 179 yX9_becomes ∈ tbU := tbm 494 (by decide +kernel) (by decide +kernel)
theorem ml_X9_182 : Cond.methodLink RX9 182 yX9_turn ∈ tbU := tbm 495 (by decide +kernel) (by decide +kernel)
theorem ml_X9_185 : Cond.methodLink RX9 185 yX9_exchange ∈ tbU := tbm 496 (by decide +kernel) (by decide +kernel)
theorem ml_X9_188 : Cond.methodLink RX9 188 yX9_keep ∈ tbU := tbm 497 (by decide +kernel) (by decide +kernel)
theorem ml_L_64 : Cond.methodLink RL 64 yX9_of ∈ tbU := tbm 498 (by decide +kernel) (by decide +kernel)
theorem ml_X9_191 : Cond.methodLink RX9 191 yX4_worthOf ∈ tbU := tbm 502 (by decide +kernel) (by decide +kernel)
theorem ml_L_68 : Cond.methodLink RL 68 yX9_told ∈ tbU := tbm 503 (by decide +kernel) (by decide +kernel)
theorem ml_X9_194 : Cond.methodLink RX9 194 yX0_isRising ∈ tbU := tbm 507 (by decide +kernel) (by decide +kernel)
theorem ml_X9_197 : Cond.methodLink RX9 197 yX9_oneIf ∈ tbU := tbm 510 (by decide +kernel) (by decide +kernel)
theorem ml_X9_201 : Cond.methodLink RX9 201 yX0_isOwnDual ∈ tbU := tbm 513 (by decide +kernel) (by decide +kernel)
theorem ml_X0_32 : Cond.methodLink RX0 32 yX0_dual ∈ tbU := tbm 516 (by decide +kernel) (by decide +kernel)
theorem ml_X9_204 : Cond.methodLink RX9 204 yX8_ofCode ∈ tbU := tbm 517 (by decide +kernel) (by decide +kernel)
theorem ml_X8_13 : Cond.methodLink RX8 13 yX8_key ∈ tbU := tbm 521 (by decide +kernel) (by decide +kernel)
theorem ml_X8_31 : Cond.methodLink RX8 31 yX0_with ∈ tbU := tbm 524 (by decide +kernel) (by decide +kernel)
theorem ml_X8_22 : Cond.methodLink RX8 22 yJ6_bitCount_0f7a4 ∈ tbU := tbm 527 (by decide +kernel) (by decide +kernel)
theorem ml_X8_17 : Cond.methodLink RX8 17 yX0_allYes ∈ tbU := tbm 533 (by decide +kernel) (by decide +kernel)
theorem ml_X8_27 : Cond.methodLink RX8 27 yX8_countKeys ∈ tbU := tbm 534 (by decide +kernel) (by decide +kernel)
theorem ml_X9_207 : Cond.methodLink RX9 207 yX0_leastOnes ∈ tbU := tbm 538 (by decide +kernel) (by decide +kernel)
theorem ml_X0_47 : Cond.methodLink RX0 47 yX0_says ∈ tbU := tbm 541 (by decide +kernel) (by decide +kernel)
theorem ml_X0_50 : Cond.methodLink RX0 50 yX0_hasYesWithin ∈ tbU := tbm 542 (by decide +kernel) (by decide +kernel)
theorem ml_X9_210 : Cond.methodLink RX9 210 yJ6_bitCount_0f7a4 ∈ tbU := tbm 545 (by decide +kernel) (by decide +kernel)
theorem ml_X9_215 : Cond.methodLink RX9 215 yX1_spread ∈ tbU := tbm 546 (by decide +kernel) (by decide +kernel)
theorem ml_X1_25 : Cond.methodLink RX1 25 yX1_forget ∈ tbU := tbm 550 (by decide +kernel) (by decide +kernel)
theorem ml_X1_28 : Cond.methodLink RX1 28 yX1_meet ∈ tbU := tbm 554 (by decide +kernel) (by decide +kernel)
theorem ml_X1_32 : Cond.methodLink RX1 32 yX1_meetAllBeside ∈ tbU := tbm 558 (by decide +kernel) (by decide +kernel)
theorem ml_X1_36 : Cond.methodLink RX1 36 yX0_turned ∈ tbU := tbm 562 (by decide +kernel) (by decide +kernel)
theorem ml_X1_42 : Cond.methodLink RX1 42 yX0_changedAbout ∈ tbU := tbm 563 (by decide +kernel) (by decide +kernel)
theorem ml_X1_46 : Cond.methodLink RX1 46 yX0_dual ∈ tbU := tbm 564 (by decide +kernel) (by decide +kernel)
theorem ml_X1_49 : Cond.methodLink RX1 49 yX0_opposite ∈ tbU := tbm 565 (by decide +kernel) (by decide +kernel)
theorem ml_X9_222 : Cond.methodLink RX9 222 yX1_stepsTo ∈ tbU := tbm 566 (by decide +kernel) (by decide +kernel)
theorem ml_L_72 : Cond.methodLink RL 72 yX9_weightOf ∈ tbU := tbm 570 (by decide +kernel) (by decide +kernel)
theorem ml_L_76 : Cond.methodLink RL 76 yX9_least ∈ tbU := tbm 574 (by decide +kernel) (by decide +kernel)
theorem ml_L_80 : Cond.methodLink RL 80 yX9_chow ∈ tbU := tbm 578 (by decide +kernel) (by decide +kernel)
theorem ml_X9_225 : Cond.methodLink RX9 225 yX0_with ∈ tbU := tbm 582 (by decide +kernel) (by decide +kernel)
theorem ml_L_84 : Cond.methodLink RL 84 yX9_trade ∈ tbU := tbm 583 (by decide +kernel) (by decide +kernel)
theorem ml_X9_228 : Cond.methodLink RX9 228 yX7_find ∈ tbU := tbm 587 (by decide +kernel) (by decide +kernel)
theorem ml_X7_17 : Cond.methodLink RX7 17 yX0_says ∈ tbU := tbm 591 (by decide +kernel) (by decide +kernel)
theorem ml_X7_23 : Cond.methodLink RX7 23 yX7_findFor ∈ tbU := tbm 592 (by decide +kernel) (by decide +kernel)
theorem ml_X7_27 : Cond.methodLink RX7 27 yX7_addTrade ∈ tbU := tbm 596 (by decide +kernel) (by decide +kernel)
theorem ml_L_88 : Cond.methodLink RL 88 yX9_leastLot ∈ tbU := tbm 600 (by decide +kernel) (by decide +kernel)
theorem ml_X9_237 : Cond.methodLink RX9 237 yX4_lots ∈ tbU := tbm 604 (by decide +kernel) (by decide +kernel)
theorem ml_L_92 : Cond.methodLink RL 92 yX9_swings ∈ tbU := tbm 605 (by decide +kernel) (by decide +kernel)
theorem ml_X9_240 : Cond.methodLink RX9 240 yX0_swingsOf ∈ tbU := tbm 609 (by decide +kernel) (by decide +kernel)
theorem ml_X0_38 : Cond.methodLink RX0 38 yJ6_bitCount_0f7a4 ∈ tbU := tbm 612 (by decide +kernel) (by decide +kernel)
theorem ml_X0_43 : Cond.methodLink RX0 43 yX0_winsBy ∈ tbU := tbm 613 (by decide +kernel) (by decide +kernel)
theorem ml_L_96 : Cond.methodLink RL 96 yX9_see ∈ tbU := tbm 614 (by decide +kernel) (by decide +kernel)
theorem ml_X9_247 : Cond.methodLink RX9 247 yX9_addSaying ∈ tbU := tbm 618 (by decide +kernel) (by decide +kernel)
theorem ml_X9_285 : Cond.methodLink RX9 285 yX2_append ∈ tbU := tbm 622 (by decide +kernel) (by decide +kernel)
theorem ml_L_100 : Cond.methodLink RL 100 yX9_fits ∈ tbU := tbm 626 (by decide +kernel) (by decide +kernel)
theorem ml_X9_251 : Cond.methodLink RX9 251 yX9_leastFit ∈ tbU := tbm 630 (by decide +kernel) (by decide +kernel)
theorem ml_X9_257 : Cond.methodLink RX9 257 yJ9_max_7cf53 ∈ tbU := tbm 634 (by decide +kernel) (by decide +kernel)
theorem ml_X9_254 : Cond.methodLink RX9 254 yX9_greatestFit ∈ tbU := tbm 635 (by decide +kernel) (by decide +kernel)
theorem ml_X9_267 : Cond.methodLink RX9 267 yJ9_min_7cf53 ∈ tbU := tbm 639 (by decide +kernel) (by decide +kernel)
theorem ml_L_104 : Cond.methodLink RL 104 yX9_odds ∈ tbU := tbm 640 (by decide +kernel) (by decide +kernel)
theorem ml_X9_272 : Cond.methodLink RX9 272 yX9_partOfFraction ∈ tbU := tbm 645 (by decide +kernel) (by decide +kernel)
theorem ml_X9_276 : Cond.methodLink RX9 276 yX9_greatestCommonDivisor ∈ tbU := tbm 648 (by decide +kernel) (by decide +kernel)
theorem ml_L_109 : Cond.methodLink RL 109 yX9_mean ∈ tbU := tbm 651 (by decide +kernel) (by decide +kernel)
theorem ml_L_114 : Cond.methodLink RL 114 yX9_event ∈ tbU := tbm 655 (by decide +kernel) (by decide +kernel)
theorem ml_X9_282 : Cond.methodLink RX9 282 yX9_eventFinds ∈ tbU := tbm 659 (by decide +kernel) (by decide +kernel)
theorem ml_L_118 : Cond.methodLink RL 118 yX9_after ∈ tbU := tbm 663 (by decide +kernel) (by decide +kernel)
theorem ml_X9_287 : Cond.methodLink RX9 287 yX9_codeBehindEvents ∈ tbU := tbm 667 (by decide +kernel) (by decide +kernel)
theorem ml_X9_290 : Cond.methodLink RX9 290 yX9_codeBehind ∈ tbU := tbm 671 (by decide +kernel) (by decide +kernel)
theorem ml_L_122 : Cond.methodLink RL 122 yX9_book ∈ tbU := tbm 675 (by decide +kernel) (by decide +kernel)
theorem ml_L_126 : Cond.methodLink RL 126 yX9_looked ∈ tbU := tbm 679 (by decide +kernel) (by decide +kernel)
theorem ml_L_130 : Cond.methodLink RL 130 yX9_judge ∈ tbU := tbm 683 (by decide +kernel) (by decide +kernel)
theorem ml_X9_296 : Cond.methodLink RX9 296 yX9_isTape ∈ tbU := tbm 687 (by decide +kernel) (by decide +kernel)
theorem ml_X9_299 : Cond.methodLink RX9 299 yX6_holdsNothing ∈ tbU := tbm 690 (by decide +kernel) (by decide +kernel)
theorem ml_L_134 : Cond.methodLink RL 134 yX9_image ∈ tbU := tbm 694 (by decide +kernel) (by decide +kernel)
theorem ml_X9_311 : Cond.methodLink RX9 311 yX4_copyFrom ∈ tbU := tbm 698 (by decide +kernel) (by decide +kernel)
theorem ml_X4_43 : Cond.methodLink RX4 43 yX4_copyRow ∈ tbU := tbm 702 (by decide +kernel) (by decide +kernel)
theorem ml_X4_47 : Cond.methodLink RX4 47 yX2_copyFrom ∈ tbU := tbm 703 (by decide +kernel) (by decide +kernel)
theorem ml_X2_20 : Cond.methodLink RX2 20 yX4_copyRow ∈ tbU := tbm 707 (by decide +kernel) (by decide +kernel)
theorem ml_L_138 : Cond.methodLink RL 138 yX9_undo ∈ tbU := tbm 708 (by decide +kernel) (by decide +kernel)
theorem ml_L_142 : Cond.methodLink RL 142 yX9_count ∈ tbU := tbm 712 (by decide +kernel) (by decide +kernel)
theorem ml_L_146 : Cond.methodLink RL 146 yX9_tape ∈ tbU := tbm 716 (by decide +kernel) (by decide +kernel)
theorem ml_X9_315 : Cond.methodLink RX9 315 yX6_become ∈ tbU := tbm 720 (by decide +kernel) (by decide +kernel)
theorem ml_L_153 : Cond.methodLink RL 153 yX9_item ∈ tbU := tbm 724 (by decide +kernel) (by decide +kernel)
theorem ml_X9_318 : Cond.methodLink RX9 318 yX6_hasPlace ∈ tbU := tbm 728 (by decide +kernel) (by decide +kernel)
theorem ml_X9_321 : Cond.methodLink RX9 321 yX6_cut ∈ tbU := tbm 732 (by decide +kernel) (by decide +kernel)
theorem ml_L_158 : Cond.methodLink RL 158 yX9_peek ∈ tbU := tbm 736 (by decide +kernel) (by decide +kernel)
theorem ml_L_162 : Cond.methodLink RL 162 yX9_shift ∈ tbU := tbm 740 (by decide +kernel) (by decide +kernel)
theorem ml_X9_325 : Cond.methodLink RX9 325 yX6_hasStretch ∈ tbU := tbm 744 (by decide +kernel) (by decide +kernel)
theorem ml_X9_328 : Cond.methodLink RX9 328 arraycopyName ∈ tbU := tbm 748 (by decide +kernel) (by decide +kernel)
theorem ml_L_12 : Cond.methodLink RL 12 yX10_init ∈ tbU := tbm 751 (by decide +kernel) (by decide +kernel)
theorem ml_X10_52 : Cond.methodLink RX10 52 yX10_starts ∈ tbU := tbm 758 (by decide +kernel) (by decide +kernel)
theorem ml_L_17 : Cond.methodLink RL 17 yX10_voters ∈ tbU := tbm 817 (by decide +kernel) (by decide +kernel)
theorem ml_X10_60 : Cond.methodLink RX10 60 yX10_in ∈ tbU := tbm 823 (by decide +kernel) (by decide +kernel)
theorem ml_L_22 : Cond.methodLink RL 22 yX10_say ∈ tbU := tbm 826 (by decide +kernel) (by decide +kernel)
theorem ml_X10_68 : Cond.methodLink RX10 68 yX10_isLot ∈ tbU := tbm 830 (by decide +kernel) (by decide +kernel)
theorem ml_X10_56 : Cond.methodLink RX10 56 yX10_lots ∈ tbU := tbm 834 (by decide +kernel) (by decide +kernel)
theorem ml_L_26 : Cond.methodLink RL 26 yX10_code ∈ tbU := tbm 838 (by decide +kernel) (by decide +kernel)
theorem ml_X10_72 : Cond.methodLink RX10 72 yX10_most ∈ tbU := tbm 842 (by decide +kernel) (by decide +kernel)
theorem ml_L_30 : Cond.methodLink RL 30 yX10_weight ∈ tbU := tbm 846 (by decide +kernel) (by decide +kernel)
theorem ml_X10_75 : Cond.methodLink RX10 75 yX10_isVoter ∈ tbU := tbm 850 (by decide +kernel) (by decide +kernel)
theorem ml_L_34 : Cond.methodLink RL 34 yX10_quota ∈ tbU := tbm 856 (by decide +kernel) (by decide +kernel)
theorem ml_L_39 : Cond.methodLink RL 39 yX10_weigh ∈ tbU := tbm 862 (by decide +kernel) (by decide +kernel)
theorem ml_X10_94 : Cond.methodLink RX10 94 yX10_weighed ∈ tbU := tbm 866 (by decide +kernel) (by decide +kernel)
theorem ml_X10_86 : Cond.methodLink RX10 86 yX10_worth ∈ tbU := tbm 870 (by decide +kernel) (by decide +kernel)
theorem ml_X10_90 : Cond.methodLink RX10 90 yX10_bit ∈ tbU := tbm 874 (by decide +kernel) (by decide +kernel)
theorem ml_L_43 : Cond.methodLink RL 43 yX10_becomes ∈ tbU := tbm 877 (by decide +kernel) (by decide +kernel)
theorem ml_X10_101 : Cond.methodLink RX10 101 yX10_isLinear ∈ tbU := tbm 881 (by decide +kernel) (by decide +kernel)
theorem ml_X10_129 : Cond.methodLink RX10 129 yX10_tries ∈ tbU := tbm 885 (by decide +kernel) (by decide +kernel)
theorem ml_X10_126 : Cond.methodLink RX10 126 yX10_tells ∈ tbU := tbm 889 (by decide +kernel) (by decide +kernel)
theorem ml_X10_118 : Cond.methodLink RX10 118 yX10_worthBy ∈ tbU := tbm 893 (by decide +kernel) (by decide +kernel)
theorem ml_X10_97 : Cond.methodLink RX10 97 yX10_is ∈ tbU := tbm 897 (by decide +kernel) (by decide +kernel)
theorem ml_X10_104 : Cond.methodLink RX10 104 yX10_leastQuota ∈ tbU := tbm 900 (by decide +kernel) (by decide +kernel)
theorem ml_X10_107 : Cond.methodLink RX10 107 yX10_dual ∈ tbU := tbm 904 (by decide +kernel) (by decide +kernel)
theorem ml_L_47 : Cond.methodLink RL 47 yX10_turn ∈ tbU := tbm 908 (by decide +kernel) (by decide +kernel)
theorem ml_X10_110 : Cond.methodLink RX10 110 yX10_turned ∈ tbU := tbm 912 (by decide +kernel) (by decide +kernel)
theorem ml_L_51 : Cond.methodLink RL 51 yX10_exchange ∈ tbU := tbm 916 (by decide +kernel) (by decide +kernel)
theorem ml_X10_114 : Cond.methodLink RX10 114 yX10_changed ∈ tbU := tbm 920 (by decide +kernel) (by decide +kernel)
theorem ml_L_55 : Cond.methodLink RL 55 yX10_keep ∈ tbU := tbm 924 (by decide +kernel) (by decide +kernel)
theorem ml_L_75 : Cond.methodLink RL 75 yX10_weightOf ∈ tbU := tbm 928 (by decide +kernel) (by decide +kernel)
theorem ml_L_79 : Cond.methodLink RL 79 yX10_least ∈ tbU := tbm 932 (by decide +kernel) (by decide +kernel)
theorem ml_L_67 : Cond.methodLink RL 67 yX10_of ∈ tbU := tbm 936 (by decide +kernel) (by decide +kernel)
theorem ml_L_83 : Cond.methodLink RL 83 yX10_chow ∈ tbU := tbm 940 (by decide +kernel) (by decide +kernel)
theorem ml_X10_133 : Cond.methodLink RX10 133 yX10_chowOf ∈ tbU := tbm 944 (by decide +kernel) (by decide +kernel)
theorem ml_L_91 : Cond.methodLink RL 91 yX10_leastLot ∈ tbU := tbm 948 (by decide +kernel) (by decide +kernel)
theorem ml_X10_139 : Cond.methodLink RX10 139 yX10_nthLeast ∈ tbU := tbm 952 (by decide +kernel) (by decide +kernel)
theorem ml_X10_136 : Cond.methodLink RX10 136 yX10_isLeastLot ∈ tbU := tbm 956 (by decide +kernel) (by decide +kernel)
theorem ml_L_95 : Cond.methodLink RL 95 yX10_swings ∈ tbU := tbm 960 (by decide +kernel) (by decide +kernel)
theorem ml_L_71 : Cond.methodLink RL 71 yX10_told ∈ tbU := tbm 964 (by decide +kernel) (by decide +kernel)
theorem ml_X10_148 : Cond.methodLink RX10 148 yX10_isRising ∈ tbU := tbm 968 (by decide +kernel) (by decide +kernel)
theorem ml_X10_152 : Cond.methodLink RX10 152 yX10_twins ∈ tbU := tbm 972 (by decide +kernel) (by decide +kernel)
theorem ml_X10_145 : Cond.methodLink RX10 145 yX10_reached ∈ tbU := tbm 976 (by decide +kernel) (by decide +kernel)
theorem ml_X10_142 : Cond.methodLink RX10 142 yX10_moved ∈ tbU := tbm 980 (by decide +kernel) (by decide +kernel)
theorem ml_X10_155 : Cond.methodLink RX10 155 yX10_steps ∈ tbU := tbm 984 (by decide +kernel) (by decide +kernel)
theorem ml_L_87 : Cond.methodLink RL 87 yX10_trade ∈ tbU := tbm 988 (by decide +kernel) (by decide +kernel)
theorem ml_X10_158 : Cond.methodLink RX10 158 yX10_isTrade ∈ tbU := tbm 992 (by decide +kernel) (by decide +kernel)
theorem ml_L_99 : Cond.methodLink RL 99 yX10_see ∈ tbU := tbm 995 (by decide +kernel) (by decide +kernel)
theorem ml_L_103 : Cond.methodLink RL 103 yX10_fits ∈ tbU := tbm 999 (by decide +kernel) (by decide +kernel)
theorem ml_X10_162 : Cond.methodLink RX10 162 yX10_isSeenBy ∈ tbU := tbm 1003 (by decide +kernel) (by decide +kernel)
theorem ml_L_108 : Cond.methodLink RL 108 yX10_odds ∈ tbU := tbm 1007 (by decide +kernel) (by decide +kernel)
theorem ml_X10_165 : Cond.methodLink RX10 165 yX10_swings ∈ tbU := tbm 1011 (by decide +kernel) (by decide +kernel)
theorem ml_X10_168 : Cond.methodLink RX10 168 yX10_lowest ∈ tbU := tbm 1012 (by decide +kernel) (by decide +kernel)
theorem ml_L_113 : Cond.methodLink RL 113 yX10_mean ∈ tbU := tbm 1016 (by decide +kernel) (by decide +kernel)
theorem ml_L_117 : Cond.methodLink RL 117 yX10_event ∈ tbU := tbm 1020 (by decide +kernel) (by decide +kernel)
theorem ml_X10_176 : Cond.methodLink RX10 176 yX10_isThere ∈ tbU := tbm 1025 (by decide +kernel) (by decide +kernel)
theorem ml_L_121 : Cond.methodLink RL 121 yX10_after ∈ tbU := tbm 1029 (by decide +kernel) (by decide +kernel)
theorem ml_L_125 : Cond.methodLink RL 125 yX10_book ∈ tbU := tbm 1033 (by decide +kernel) (by decide +kernel)
theorem ml_L_129 : Cond.methodLink RL 129 yX10_looked ∈ tbU := tbm 1037 (by decide +kernel) (by decide +kernel)
theorem ml_L_59 : Cond.methodLink RL 59 yX10_feed ∈ tbU := tbm 1041 (by decide +kernel) (by decide +kernel)
theorem ml_L_63 : Cond.methodLink RL 63 yX10_read ∈ tbU := tbm 1046 (by decide +kernel) (by decide +kernel)
theorem ml_X10_187 : Cond.methodLink RX10 187 yX10_here ∈ tbU := tbm 1050 (by decide +kernel) (by decide +kernel)
theorem ml_X10_236 : Cond.methodLink RX10 236 yX10_hasClause ∈ tbU := tbm 1054 (by decide +kernel) (by decide +kernel)
theorem ml_X10_203 : Cond.methodLink RX10 203 yX10_takes ∈ tbU := tbm 1058 (by decide +kernel) (by decide +kernel)
theorem ml_X10_197 : Cond.methodLink RX10 197 yX10_isDigit ∈ tbU := tbm 1062 (by decide +kernel) (by decide +kernel)
theorem ml_X10_206 : Cond.methodLink RX10 206 yX10_hasNumber ∈ tbU := tbm 1068 (by decide +kernel) (by decide +kernel)
theorem ml_X10_239 : Cond.methodLink RX10 239 yX10_isDone ∈ tbU := tbm 1072 (by decide +kernel) (by decide +kernel)
theorem ml_X10_209 : Cond.methodLink RX10 209 yX10_voters ∈ tbU := tbm 1076 (by decide +kernel) (by decide +kernel)
theorem ml_X10_212 : Cond.methodLink RX10 212 yX10_say ∈ tbU := tbm 1077 (by decide +kernel) (by decide +kernel)
theorem ml_X10_215 : Cond.methodLink RX10 215 yX10_weight ∈ tbU := tbm 1078 (by decide +kernel) (by decide +kernel)
theorem ml_X10_218 : Cond.methodLink RX10 218 yX10_quota ∈ tbU := tbm 1079 (by decide +kernel) (by decide +kernel)
theorem ml_X10_221 : Cond.methodLink RX10 221 yX10_weigh ∈ tbU := tbm 1080 (by decide +kernel) (by decide +kernel)
theorem ml_X10_224 : Cond.methodLink RX10 224 yX10_becomes ∈ tbU := tbm 1081 (by decide +kernel) (by decide +kernel)
theorem ml_X10_227 : Cond.methodLink RX10 227 yX10_turn ∈ tbU := tbm 1082 (by decide +kernel) (by decide +kernel)
theorem ml_X10_230 : Cond.methodLink RX10 230 yX10_exchange ∈ tbU := tbm 1083 (by decide +kernel) (by decide +kernel)
theorem ml_X10_233 : Cond.methodLink RX10 233 yX10_keep ∈ tbU := tbm 1084 (by decide +kernel) (by decide +kernel)
theorem ml_L_133 : Cond.methodLink RL 133 yX10_judge ∈ tbU := tbm 1085 (by decide +kernel) (by decide +kernel)
theorem ml_X10_244 : Cond.methodLink RX10 244 yX10_isTape ∈ tbU := tbm 1089 (by decide +kernel) (by decide +kernel)
theorem ml_L_150 : Cond.methodLink RL 150 yX10_tape ∈ tbU := tbm 1093 (by decide +kernel) (by decide +kernel)
theorem ml_L_157 : Cond.methodLink RL 157 yX10_item ∈ tbU := tbm 1098 (by decide +kernel) (by decide +kernel)
theorem ml_L_161 : Cond.methodLink RL 161 yX10_peek ∈ tbU := tbm 1102 (by decide +kernel) (by decide +kernel)
theorem ml_L_166 : Cond.methodLink RL 166 yX10_shift ∈ tbU := tbm 1106 (by decide +kernel) (by decide +kernel)
theorem ml_L_137 : Cond.methodLink RL 137 yX10_image ∈ tbU := tbm 1110 (by decide +kernel) (by decide +kernel)
theorem ml_L_141 : Cond.methodLink RL 141 yX10_undo ∈ tbU := tbm 1114 (by decide +kernel) (by decide +kernel)
theorem ml_L_145 : Cond.methodLink RL 145 yX10_count ∈ tbU := tbm 1118 (by decide +kernel) (by decide +kernel)
theorem fl_X2_13 : FL RX2 13 1 0 := ⟨RX2, TX2, 3, tyX2, rfl, inU_X2, by decide, tbm 90 (by decide +kernel) (by decide +kernel), tyX2_ok, nmX2⟩
theorem fl_X9_265 : FL RX9 265 1 0 := ⟨RX2, TX2, 3, tyX2, rfl, inU_X2, by decide, tbm 91 (by decide +kernel) (by decide +kernel), tyX2_ok, nmX2⟩
theorem fl_X2_17 : FL RX2 17 1 1 := ⟨RX2, TX2, 3, tyX2, rfl, inU_X2, by decide, tbm 92 (by decide +kernel) (by decide +kernel), tyX2_ok, nmX2⟩
theorem fl_X9_266 : FL RX9 266 1 1 := ⟨RX2, TX2, 3, tyX2, rfl, inU_X2, by decide, tbm 93 (by decide +kernel) (by decide +kernel), tyX2_ok, nmX2⟩
theorem fl_X2_7 : FL RX2 7 1 2 := ⟨RX2, TX2, 3, tyX2, rfl, inU_X2, by decide, tbm 94 (by decide +kernel) (by decide +kernel), tyX2_ok, nmX2⟩
theorem fl_X9_262 : FL RX9 262 1 2 := ⟨RX2, TX2, 3, tyX2, rfl, inU_X2, by decide, tbm 95 (by decide +kernel) (by decide +kernel), tyX2_ok, nmX2⟩
theorem fl_X4_9 : FL RX4 9 3 0 := ⟨RX4, TX4, 8, tyX4, rfl, inU_X4, by decide, tbm 104 (by decide +kernel) (by decide +kernel), tyX4_ok, nmX4⟩
theorem fl_X9_67 : FL RX9 67 3 0 := ⟨RX4, TX4, 8, tyX4, rfl, inU_X4, by decide, tbm 105 (by decide +kernel) (by decide +kernel), tyX4_ok, nmX4⟩
theorem fl_X4_15 : FL RX4 15 3 1 := ⟨RX4, TX4, 8, tyX4, rfl, inU_X4, by decide, tbm 106 (by decide +kernel) (by decide +kernel), tyX4_ok, nmX4⟩
theorem fl_X9_82 : FL RX9 82 3 1 := ⟨RX4, TX4, 8, tyX4, rfl, inU_X4, by decide, tbm 107 (by decide +kernel) (by decide +kernel), tyX4_ok, nmX4⟩
theorem fl_X4_18 : FL RX4 18 3 2 := ⟨RX4, TX4, 8, tyX4, rfl, inU_X4, by decide, tbm 108 (by decide +kernel) (by decide +kernel), tyX4_ok, nmX4⟩
theorem fl_X9_138 : FL RX9 138 3 2 := ⟨RX4, TX4, 8, tyX4, rfl, inU_X4, by decide, tbm 109 (by decide +kernel) (by decide +kernel), tyX4_ok, nmX4⟩
theorem fl_X4_21 : FL RX4 21 3 3 := ⟨RX4, TX4, 8, tyX4, rfl, inU_X4, by decide, tbm 110 (by decide +kernel) (by decide +kernel), tyX4_ok, nmX4⟩
theorem fl_X9_101 : FL RX9 101 3 3 := ⟨RX4, TX4, 8, tyX4, rfl, inU_X4, by decide, tbm 111 (by decide +kernel) (by decide +kernel), tyX4_ok, nmX4⟩
theorem fl_X4_25 : FL RX4 25 3 4 := ⟨RX4, TX4, 8, tyX4, rfl, inU_X4, by decide, tbm 112 (by decide +kernel) (by decide +kernel), tyX4_ok, nmX4⟩
theorem fl_X9_105 : FL RX9 105 3 4 := ⟨RX4, TX4, 8, tyX4, rfl, inU_X4, by decide, tbm 113 (by decide +kernel) (by decide +kernel), tyX4_ok, nmX4⟩
theorem fl_X4_33 : FL RX4 33 3 5 := ⟨RX4, TX4, 8, tyX4, rfl, inU_X4, by decide, tbm 114 (by decide +kernel) (by decide +kernel), tyX4_ok, nmX4⟩
theorem fl_X9_243 : FL RX9 243 3 5 := ⟨RX4, TX4, 8, tyX4, rfl, inU_X4, by decide, tbm 115 (by decide +kernel) (by decide +kernel), tyX4_ok, nmX4⟩
theorem fl_X4_37 : FL RX4 37 3 6 := ⟨RX4, TX4, 8, tyX4, rfl, inU_X4, by decide, tbm 116 (by decide +kernel) (by decide +kernel), tyX4_ok, nmX4⟩
theorem fl_X9_279 : FL RX9 279 3 6 := ⟨RX4, TX4, 8, tyX4, rfl, inU_X4, by decide, tbm 117 (by decide +kernel) (by decide +kernel), tyX4_ok, nmX4⟩
theorem fl_X4_40 : FL RX4 40 3 7 := ⟨RX4, TX4, 8, tyX4, rfl, inU_X4, by decide, tbm 118 (by decide +kernel) (by decide +kernel), tyX4_ok, nmX4⟩
theorem fl_X9_293 : FL RX9 293 3 7 := ⟨RX4, TX4, 8, tyX4, rfl, inU_X4, by decide, tbm 119 (by decide +kernel) (by decide +kernel), tyX4_ok, nmX4⟩
theorem fl_X5_9 : FL RX5 9 4 0 := ⟨RX5, TX5, 7, tyX5, rfl, inU_X5, by decide, tbm 143 (by decide +kernel) (by decide +kernel), tyX5_ok, nmX5⟩
theorem fl_X5_13 : FL RX5 13 4 1 := ⟨RX5, TX5, 7, tyX5, rfl, inU_X5, by decide, tbm 144 (by decide +kernel) (by decide +kernel), tyX5_ok, nmX5⟩
theorem fl_X9_144 : FL RX9 144 4 1 := ⟨RX5, TX5, 7, tyX5, rfl, inU_X5, by decide, tbm 145 (by decide +kernel) (by decide +kernel), tyX5_ok, nmX5⟩
theorem fl_X5_17 : FL RX5 17 4 2 := ⟨RX5, TX5, 7, tyX5, rfl, inU_X5, by decide, tbm 146 (by decide +kernel) (by decide +kernel), tyX5_ok, nmX5⟩
theorem fl_X5_20 : FL RX5 20 4 3 := ⟨RX5, TX5, 7, tyX5, rfl, inU_X5, by decide, tbm 147 (by decide +kernel) (by decide +kernel), tyX5_ok, nmX5⟩
theorem fl_X9_153 : FL RX9 153 4 3 := ⟨RX5, TX5, 7, tyX5, rfl, inU_X5, by decide, tbm 148 (by decide +kernel) (by decide +kernel), tyX5_ok, nmX5⟩
theorem fl_X5_23 : FL RX5 23 4 4 := ⟨RX5, TX5, 7, tyX5, rfl, inU_X5, by decide, tbm 149 (by decide +kernel) (by decide +kernel), tyX5_ok, nmX5⟩
theorem fl_X9_156 : FL RX9 156 4 4 := ⟨RX5, TX5, 7, tyX5, rfl, inU_X5, by decide, tbm 150 (by decide +kernel) (by decide +kernel), tyX5_ok, nmX5⟩
theorem fl_X5_26 : FL RX5 26 4 5 := ⟨RX5, TX5, 7, tyX5, rfl, inU_X5, by decide, tbm 151 (by decide +kernel) (by decide +kernel), tyX5_ok, nmX5⟩
theorem fl_X9_159 : FL RX9 159 4 5 := ⟨RX5, TX5, 7, tyX5, rfl, inU_X5, by decide, tbm 152 (by decide +kernel) (by decide +kernel), tyX5_ok, nmX5⟩
theorem fl_X5_29 : FL RX5 29 4 6 := ⟨RX5, TX5, 7, tyX5, rfl, inU_X5, by decide, tbm 153 (by decide +kernel) (by decide +kernel), tyX5_ok, nmX5⟩
theorem fl_X9_150 : FL RX9 150 4 6 := ⟨RX5, TX5, 7, tyX5, rfl, inU_X5, by decide, tbm 154 (by decide +kernel) (by decide +kernel), tyX5_ok, nmX5⟩
theorem fl_X3_9 : FL RX3 9 2 0 := ⟨RX3, TX3, 8, tyX3, rfl, inU_X3, by decide, tbm 178 (by decide +kernel) (by decide +kernel), tyX3_ok, nmX3⟩
theorem fl_X9_125 : FL RX9 125 2 0 := ⟨RX3, TX3, 8, tyX3, rfl, inU_X3, by decide, tbm 179 (by decide +kernel) (by decide +kernel), tyX3_ok, nmX3⟩
theorem fl_X3_15 : FL RX3 15 2 1 := ⟨RX3, TX3, 8, tyX3, rfl, inU_X3, by decide, tbm 180 (by decide +kernel) (by decide +kernel), tyX3_ok, nmX3⟩
theorem fl_X9_130 : FL RX9 130 2 1 := ⟨RX3, TX3, 8, tyX3, rfl, inU_X3, by decide, tbm 181 (by decide +kernel) (by decide +kernel), tyX3_ok, nmX3⟩
theorem fl_X3_19 : FL RX3 19 2 2 := ⟨RX3, TX3, 8, tyX3, rfl, inU_X3, by decide, tbm 182 (by decide +kernel) (by decide +kernel), tyX3_ok, nmX3⟩
theorem fl_X3_22 : FL RX3 22 2 3 := ⟨RX3, TX3, 8, tyX3, rfl, inU_X3, by decide, tbm 183 (by decide +kernel) (by decide +kernel), tyX3_ok, nmX3⟩
theorem fl_X3_25 : FL RX3 25 2 4 := ⟨RX3, TX3, 8, tyX3, rfl, inU_X3, by decide, tbm 184 (by decide +kernel) (by decide +kernel), tyX3_ok, nmX3⟩
theorem fl_X3_28 : FL RX3 28 2 5 := ⟨RX3, TX3, 8, tyX3, rfl, inU_X3, by decide, tbm 185 (by decide +kernel) (by decide +kernel), tyX3_ok, nmX3⟩
theorem fl_X3_31 : FL RX3 31 2 6 := ⟨RX3, TX3, 8, tyX3, rfl, inU_X3, by decide, tbm 186 (by decide +kernel) (by decide +kernel), tyX3_ok, nmX3⟩
theorem fl_X3_34 : FL RX3 34 2 7 := ⟨RX3, TX3, 8, tyX3, rfl, inU_X3, by decide, tbm 187 (by decide +kernel) (by decide +kernel), tyX3_ok, nmX3⟩
theorem fl_X1_11 : FL RX1 11 0 0 := ⟨RX1, TX1, 4, tyX1, rfl, inU_X1, by decide, tbm 211 (by decide +kernel) (by decide +kernel), tyX1_ok, nmX1⟩
theorem fl_X1_15 : FL RX1 15 0 1 := ⟨RX1, TX1, 4, tyX1, rfl, inU_X1, by decide, tbm 212 (by decide +kernel) (by decide +kernel), tyX1_ok, nmX1⟩
theorem fl_X1_18 : FL RX1 18 0 2 := ⟨RX1, TX1, 4, tyX1, rfl, inU_X1, by decide, tbm 213 (by decide +kernel) (by decide +kernel), tyX1_ok, nmX1⟩
theorem fl_X1_21 : FL RX1 21 0 3 := ⟨RX1, TX1, 4, tyX1, rfl, inU_X1, by decide, tbm 214 (by decide +kernel) (by decide +kernel), tyX1_ok, nmX1⟩
theorem fl_X9_219 : FL RX9 219 0 3 := ⟨RX1, TX1, 4, tyX1, rfl, inU_X1, by decide, tbm 215 (by decide +kernel) (by decide +kernel), tyX1_ok, nmX1⟩
theorem fl_X7_7 : FL RX7 7 6 0 := ⟨RX7, TX7, 2, tyX7, rfl, inU_X7, by decide, tbm 231 (by decide +kernel) (by decide +kernel), tyX7_ok, nmX7⟩
theorem fl_X9_231 : FL RX9 231 6 0 := ⟨RX7, TX7, 2, tyX7, rfl, inU_X7, by decide, tbm 232 (by decide +kernel) (by decide +kernel), tyX7_ok, nmX7⟩
theorem fl_X7_13 : FL RX7 13 6 1 := ⟨RX7, TX7, 2, tyX7, rfl, inU_X7, by decide, tbm 233 (by decide +kernel) (by decide +kernel), tyX7_ok, nmX7⟩
theorem fl_X9_234 : FL RX9 234 6 1 := ⟨RX7, TX7, 2, tyX7, rfl, inU_X7, by decide, tbm 234 (by decide +kernel) (by decide +kernel), tyX7_ok, nmX7⟩
theorem fl_X8_9 : FL RX8 9 7 0 := ⟨RX8, TX8, 1, tyX8, rfl, inU_X8, by decide, tbm 246 (by decide +kernel) (by decide +kernel), tyX8_ok, nmX8⟩
theorem fl_X6_9 : FL RX6 9 5 0 := ⟨RX6, TX6, 3, tyX6, rfl, inU_X6, by decide, tbm 255 (by decide +kernel) (by decide +kernel), tyX6_ok, nmX6⟩
theorem fl_X9_303 : FL RX9 303 5 0 := ⟨RX6, TX6, 3, tyX6, rfl, inU_X6, by decide, tbm 256 (by decide +kernel) (by decide +kernel), tyX6_ok, nmX6⟩
theorem fl_X6_13 : FL RX6 13 5 1 := ⟨RX6, TX6, 3, tyX6, rfl, inU_X6, by decide, tbm 257 (by decide +kernel) (by decide +kernel), tyX6_ok, nmX6⟩
theorem fl_X9_306 : FL RX9 306 5 1 := ⟨RX6, TX6, 3, tyX6, rfl, inU_X6, by decide, tbm 258 (by decide +kernel) (by decide +kernel), tyX6_ok, nmX6⟩
theorem fl_X6_16 : FL RX6 16 5 2 := ⟨RX6, TX6, 3, tyX6, rfl, inU_X6, by decide, tbm 259 (by decide +kernel) (by decide +kernel), tyX6_ok, nmX6⟩
theorem fl_X9_307 : FL RX9 307 5 2 := ⟨RX6, TX6, 3, tyX6, rfl, inU_X6, by decide, tbm 260 (by decide +kernel) (by decide +kernel), tyX6_ok, nmX6⟩
theorem fl_X9_12 : FL RX9 12 8 0 := ⟨RX9, TX9, 9, tyX9, rfl, inU_X9, by decide, tbm 269 (by decide +kernel) (by decide +kernel), tyX9_ok, nmX9⟩
theorem fl_X9_18 : FL RX9 18 8 1 := ⟨RX9, TX9, 9, tyX9, rfl, inU_X9, by decide, tbm 270 (by decide +kernel) (by decide +kernel), tyX9_ok, nmX9⟩
theorem fl_X9_21 : FL RX9 21 8 2 := ⟨RX9, TX9, 9, tyX9, rfl, inU_X9, by decide, tbm 271 (by decide +kernel) (by decide +kernel), tyX9_ok, nmX9⟩
theorem fl_X9_28 : FL RX9 28 8 3 := ⟨RX9, TX9, 9, tyX9, rfl, inU_X9, by decide, tbm 272 (by decide +kernel) (by decide +kernel), tyX9_ok, nmX9⟩
theorem fl_X9_34 : FL RX9 34 8 4 := ⟨RX9, TX9, 9, tyX9, rfl, inU_X9, by decide, tbm 273 (by decide +kernel) (by decide +kernel), tyX9_ok, nmX9⟩
theorem fl_X9_41 : FL RX9 41 8 5 := ⟨RX9, TX9, 9, tyX9, rfl, inU_X9, by decide, tbm 274 (by decide +kernel) (by decide +kernel), tyX9_ok, nmX9⟩
theorem fl_X9_48 : FL RX9 48 8 6 := ⟨RX9, TX9, 9, tyX9, rfl, inU_X9, by decide, tbm 275 (by decide +kernel) (by decide +kernel), tyX9_ok, nmX9⟩
theorem fl_X9_55 : FL RX9 55 8 7 := ⟨RX9, TX9, 9, tyX9, rfl, inU_X9, by decide, tbm 276 (by decide +kernel) (by decide +kernel), tyX9_ok, nmX9⟩
theorem fl_X9_62 : FL RX9 62 8 8 := ⟨RX9, TX9, 9, tyX9, rfl, inU_X9, by decide, tbm 277 (by decide +kernel) (by decide +kernel), tyX9_ok, nmX9⟩
theorem wl_X0_7 : Cond.fieldLink RX0 7 "WeighedLots$Lots" "WITH" "[I" ∈ tbU := tbm 370 (by decide +kernel) (by decide +kernel)
theorem fl_X10_11 : FL RX10 11 9 0 := ⟨RX10, TX10, 18, tyX10, rfl, inU_X10, by decide, tbm 762 (by decide +kernel) (by decide +kernel), tyX10_ok, nmX10⟩
theorem fl_X10_15 : FL RX10 15 9 1 := ⟨RX10, TX10, 18, tyX10, rfl, inU_X10, by decide, tbm 763 (by decide +kernel) (by decide +kernel), tyX10_ok, nmX10⟩
theorem fl_X10_249 : FL RX10 249 9 2 := ⟨RX10, TX10, 18, tyX10, rfl, inU_X10, by decide, tbm 764 (by decide +kernel) (by decide +kernel), tyX10_ok, nmX10⟩
theorem fl_X10_18 : FL RX10 18 9 3 := ⟨RX10, TX10, 18, tyX10, rfl, inU_X10, by decide, tbm 765 (by decide +kernel) (by decide +kernel), tyX10_ok, nmX10⟩
theorem fl_X10_21 : FL RX10 21 9 4 := ⟨RX10, TX10, 18, tyX10, rfl, inU_X10, by decide, tbm 766 (by decide +kernel) (by decide +kernel), tyX10_ok, nmX10⟩
theorem fl_X10_122 : FL RX10 122 9 5 := ⟨RX10, TX10, 18, tyX10, rfl, inU_X10, by decide, tbm 767 (by decide +kernel) (by decide +kernel), tyX10_ok, nmX10⟩
theorem fl_X10_25 : FL RX10 25 9 6 := ⟨RX10, TX10, 18, tyX10, rfl, inU_X10, by decide, tbm 768 (by decide +kernel) (by decide +kernel), tyX10_ok, nmX10⟩
theorem fl_X10_28 : FL RX10 28 9 7 := ⟨RX10, TX10, 18, tyX10, rfl, inU_X10, by decide, tbm 769 (by decide +kernel) (by decide +kernel), tyX10_ok, nmX10⟩
theorem fl_X10_31 : FL RX10 31 9 8 := ⟨RX10, TX10, 18, tyX10, rfl, inU_X10, by decide, tbm 770 (by decide +kernel) (by decide +kernel), tyX10_ok, nmX10⟩
theorem fl_X10_181 : FL RX10 181 9 9 := ⟨RX10, TX10, 18, tyX10, rfl, inU_X10, by decide, tbm 771 (by decide +kernel) (by decide +kernel), tyX10_ok, nmX10⟩
theorem fl_X10_184 : FL RX10 184 9 10 := ⟨RX10, TX10, 18, tyX10, rfl, inU_X10, by decide, tbm 772 (by decide +kernel) (by decide +kernel), tyX10_ok, nmX10⟩
theorem fl_X10_34 : FL RX10 34 9 11 := ⟨RX10, TX10, 18, tyX10, rfl, inU_X10, by decide, tbm 773 (by decide +kernel) (by decide +kernel), tyX10_ok, nmX10⟩
theorem fl_X10_194 : FL RX10 194 9 12 := ⟨RX10, TX10, 18, tyX10, rfl, inU_X10, by decide, tbm 774 (by decide +kernel) (by decide +kernel), tyX10_ok, nmX10⟩
theorem fl_X10_200 : FL RX10 200 9 13 := ⟨RX10, TX10, 18, tyX10, rfl, inU_X10, by decide, tbm 775 (by decide +kernel) (by decide +kernel), tyX10_ok, nmX10⟩
theorem fl_X10_37 : FL RX10 37 9 14 := ⟨RX10, TX10, 18, tyX10, rfl, inU_X10, by decide, tbm 776 (by decide +kernel) (by decide +kernel), tyX10_ok, nmX10⟩
theorem fl_X10_40 : FL RX10 40 9 15 := ⟨RX10, TX10, 18, tyX10, rfl, inU_X10, by decide, tbm 777 (by decide +kernel) (by decide +kernel), tyX10_ok, nmX10⟩
theorem fl_X10_45 : FL RX10 45 9 16 := ⟨RX10, TX10, 18, tyX10, rfl, inU_X10, by decide, tbm 778 (by decide +kernel) (by decide +kernel), tyX10_ok, nmX10⟩
theorem fl_X10_48 : FL RX10 48 9 17 := ⟨RX10, TX10, 18, tyX10, rfl, inU_X10, by decide, tbm 779 (by decide +kernel) (by decide +kernel), tyX10_ok, nmX10⟩
theorem fw_0_3 : FW 0 3 .int := fun C T N h => by
  have e : some (RX1, TX1, 4) = some (C, T, N) := h
  cases e
  exact ⟨rfl, tyX1_ok 3 (by decide)⟩
theorem fw_1_2 : FW 1 2 .int := fun C T N h => by
  have e : some (RX2, TX2, 3) = some (C, T, N) := h
  cases e
  exact ⟨rfl, tyX2_ok 2 (by decide)⟩
theorem fw_2_1 : FW 2 1 .int := fun C T N h => by
  have e : some (RX3, TX3, 8) = some (C, T, N) := h
  cases e
  exact ⟨rfl, tyX3_ok 1 (by decide)⟩
theorem fw_2_5 : FW 2 5 .int := fun C T N h => by
  have e : some (RX3, TX3, 8) = some (C, T, N) := h
  cases e
  exact ⟨rfl, tyX3_ok 5 (by decide)⟩
theorem fw_2_6 : FW 2 6 .int := fun C T N h => by
  have e : some (RX3, TX3, 8) = some (C, T, N) := h
  cases e
  exact ⟨rfl, tyX3_ok 6 (by decide)⟩
theorem fw_2_7 : FW 2 7 .int := fun C T N h => by
  have e : some (RX3, TX3, 8) = some (C, T, N) := h
  cases e
  exact ⟨rfl, tyX3_ok 7 (by decide)⟩
theorem fw_3_0 : FW 3 0 .int := fun C T N h => by
  have e : some (RX4, TX4, 8) = some (C, T, N) := h
  cases e
  exact ⟨rfl, tyX4_ok 0 (by decide)⟩
theorem fw_3_1 : FW 3 1 .int := fun C T N h => by
  have e : some (RX4, TX4, 8) = some (C, T, N) := h
  cases e
  exact ⟨rfl, tyX4_ok 1 (by decide)⟩
theorem fw_3_2 : FW 3 2 .int := fun C T N h => by
  have e : some (RX4, TX4, 8) = some (C, T, N) := h
  cases e
  exact ⟨rfl, tyX4_ok 2 (by decide)⟩
theorem fw_3_4 : FW 3 4 .int := fun C T N h => by
  have e : some (RX4, TX4, 8) = some (C, T, N) := h
  cases e
  exact ⟨rfl, tyX4_ok 4 (by decide)⟩
theorem fw_4_1 : FW 4 1 .int := fun C T N h => by
  have e : some (RX5, TX5, 7) = some (C, T, N) := h
  cases e
  exact ⟨rfl, tyX5_ok 1 (by decide)⟩
theorem fw_4_2 : FW 4 2 .int := fun C T N h => by
  have e : some (RX5, TX5, 7) = some (C, T, N) := h
  cases e
  exact ⟨rfl, tyX5_ok 2 (by decide)⟩
theorem fw_4_6 : FW 4 6 .int := fun C T N h => by
  have e : some (RX5, TX5, 7) = some (C, T, N) := h
  cases e
  exact ⟨rfl, tyX5_ok 6 (by decide)⟩
theorem fw_5_0 : FW 5 0 .int := fun C T N h => by
  have e : some (RX6, TX6, 3) = some (C, T, N) := h
  cases e
  exact ⟨rfl, tyX6_ok 0 (by decide)⟩
theorem fw_5_1 : FW 5 1 .int := fun C T N h => by
  have e : some (RX6, TX6, 3) = some (C, T, N) := h
  cases e
  exact ⟨rfl, tyX6_ok 1 (by decide)⟩
theorem fw_6_0 : FW 6 0 .int := fun C T N h => by
  have e : some (RX7, TX7, 2) = some (C, T, N) := h
  cases e
  exact ⟨rfl, tyX7_ok 0 (by decide)⟩
theorem fw_8_2 : FW 8 2 .boolean := fun C T N h => by
  have e : some (RX9, TX9, 9) = some (C, T, N) := h
  cases e
  exact ⟨rfl, tyX9_ok 2 (by decide)⟩
theorem fw_9_2 : FW 9 2 .boolean := fun C T N h => by
  have e : some (RX10, TX10, 18) = some (C, T, N) := h
  cases e
  exact ⟨rfl, tyX10_ok 2 (by decide)⟩
theorem fw_9_5 : FW 9 5 .int := fun C T N h => by
  have e : some (RX10, TX10, 18) = some (C, T, N) := h
  cases e
  exact ⟨rfl, tyX10_ok 5 (by decide)⟩
theorem fw_9_9 : FW 9 9 .int := fun C T N h => by
  have e : some (RX10, TX10, 18) = some (C, T, N) := h
  cases e
  exact ⟨rfl, tyX10_ok 9 (by decide)⟩
theorem fw_9_10 : FW 9 10 .int := fun C T N h => by
  have e : some (RX10, TX10, 18) = some (C, T, N) := h
  cases e
  exact ⟨rfl, tyX10_ok 10 (by decide)⟩
theorem fw_9_12 : FW 9 12 .int := fun C T N h => by
  have e : some (RX10, TX10, 18) = some (C, T, N) := h
  cases e
  exact ⟨rfl, tyX10_ok 12 (by decide)⟩
theorem fw_9_13 : FW 9 13 .int := fun C T N h => by
  have e : some (RX10, TX10, 18) = some (C, T, N) := h
  cases e
  exact ⟨rfl, tyX10_ok 13 (by decide)⟩
theorem kc_J6_265 : Cond.constant RJ6 265 (1431655765) ∈ tbU := tbm 530 (by decide +kernel) (by decide +kernel)
theorem kc_J6_266 : Cond.constant RJ6 266 (858993459) ∈ tbU := tbm 531 (by decide +kernel) (by decide +kernel)
theorem kc_J6_267 : Cond.constant RJ6 267 (252645135) ∈ tbU := tbm 532 (by decide +kernel) (by decide +kernel)
theorem kc_X10_24 : Cond.constant RX10 24 (65536) ∈ tbU := tbm 755 (by decide +kernel) (by decide +kernel)
theorem kl_X9_270 : Cond.constantLong RX9 270 (-9223372036854775808) ∈ tbU := tbm 644 (by decide +kernel) (by decide +kernel)
theorem kl_X10_64 : Cond.constantLong RX10 64 (2) ∈ tbU := tbm 821 (by decide +kernel) (by decide +kernel)
theorem kl_X10_66 : Cond.constantLong RX10 66 (4) ∈ tbU := tbm 822 (by decide +kernel) (by decide +kernel)
theorem kl_X10_78 : Cond.constantLong RX10 78 (-9) ∈ tbU := tbm 854 (by decide +kernel) (by decide +kernel)
theorem kl_X10_80 : Cond.constantLong RX10 80 (9) ∈ tbU := tbm 855 (by decide +kernel) (by decide +kernel)
theorem kl_X10_82 : Cond.constantLong RX10 82 (-40) ∈ tbU := tbm 860 (by decide +kernel) (by decide +kernel)
theorem kl_X10_84 : Cond.constantLong RX10 84 (40) ∈ tbU := tbm 861 (by decide +kernel) (by decide +kernel)
theorem kl_X10_172 : Cond.constantLong RX10 172 (-9223372036854775808) ∈ tbU := tbm 1015 (by decide +kernel) (by decide +kernel)
theorem kl_X10_174 : Cond.constantLong RX10 174 (3) ∈ tbU := tbm 1024 (by decide +kernel) (by decide +kernel)
theorem kl_X10_179 : Cond.constantLong RX10 179 (127) ∈ tbU := tbm 1045 (by decide +kernel) (by decide +kernel)
theorem kl_X10_190 : Cond.constantLong RX10 190 (48) ∈ tbU := tbm 1066 (by decide +kernel) (by decide +kernel)
theorem kl_X10_192 : Cond.constantLong RX10 192 (57) ∈ tbU := tbm 1067 (by decide +kernel) (by decide +kernel)
theorem kl_X10_242 : Cond.constantLong RX10 242 (5) ∈ tbU := tbm 1092 (by decide +kernel) (by decide +kernel)
theorem kl_X10_247 : Cond.constantLong RX10 247 (-1) ∈ tbU := tbm 1097 (by decide +kernel) (by decide +kernel)
theorem kl_L_151 : Cond.constantLong RL 151 (4294967295) ∈ tbU := tbm 1122 (by decide +kernel) (by decide +kernel)
end
section
/-! plain facts on numbers and arrays, to paste: each family by itself; over the kit's rows on nI and upd -/
/-! ===== order of ints, in all its forms, and through longs ===== -/
theorem fa_lt (a b : Int32) : a < b ↔ a.toInt < b.toInt := Int32.lt_iff_toInt_lt
theorem fa_le (a b : Int32) : a ≤ b ↔ a.toInt ≤ b.toInt := Int32.le_iff_toInt_le
theorem fa_eq (a b : Int32) : a = b ↔ a.toInt = b.toInt := Int32.toInt_inj.symm
theorem fa_lt64 (a b : Int64) : a < b ↔ a.toInt < b.toInt := Int64.lt_iff_toInt_lt
theorem fa_le64 (a b : Int64) : a ≤ b ↔ a.toInt ≤ b.toInt := Int64.le_iff_toInt_le
theorem fa_eq64 (a b : Int64) : a = b ↔ a.toInt = b.toInt := Int64.toInt_inj.symm
/-- a comparison of two ints taken as longs -/
theorem fa_wide_lt (a b : Int32) : a.toInt64 < b.toInt64 ↔ a < b := by rw [fa_lt64, fa_lt, Int32.toInt_toInt64, Int32.toInt_toInt64]
theorem fa_wide_le (a b : Int32) : a.toInt64 ≤ b.toInt64 ↔ a ≤ b := by rw [fa_le64, fa_le, Int32.toInt_toInt64, Int32.toInt_toInt64]
theorem fa_wide_eq (a b : Int32) : a.toInt64 = b.toInt64 ↔ a = b := by rw [fa_eq64, fa_eq, Int32.toInt_toInt64, Int32.toInt_toInt64]
/-- one strict comparison gives all the others -/
theorem fa_of_lt {a b : Int32} (h : a < b) : a ≤ b ∧ ¬ b ≤ a ∧ ¬ b < a ∧ a ≠ b ∧ b ≠ a := by
  rw [fa_lt] at h
  refine ⟨?_, ?_, ?_, ?_, ?_⟩
  · rw [fa_le]; omega
  · rw [fa_le]; omega
  · rw [fa_lt]; omega
  · intro e; rw [fa_eq] at e; omega
  · intro e; rw [fa_eq] at e; omega
theorem fa_of_nlt {a b : Int32} (h : ¬ a < b) : b ≤ a := by
  rw [fa_lt] at h
  rw [fa_le]
  omega
theorem fa_of_nle {a b : Int32} (h : ¬ a ≤ b) : b < a := by
  rw [fa_le] at h
  rw [fa_lt]
  omega
theorem fa_le_ne {a b : Int32} (h : a ≤ b) (h2 : a ≠ b) : a < b := by
  rw [fa_le] at h
  rw [fa_lt]
  have h3 : a.toInt ≠ b.toInt := fun e => h2 ((fa_eq a b).mpr e)
  omega
theorem fa_three (a b : Int32) : a < b ∨ a = b ∨ b < a := by
  rw [fa_lt, fa_lt, fa_eq]
  omega
theorem fa_trans {a b c : Int32} (h : a < b) (h2 : b ≤ c) : a < c := by
  rw [fa_lt] at *
  rw [fa_le] at h2
  omega
/-! ===== small literals as numbers ===== -/
theorem fa_lit (n : Nat) : (OfNat.ofNat n : Int32) = nI n := rfl
theorem fa_litL (n : Nat) : (OfNat.ofNat n : Int64) = lN n := rfl
/-! ===== bits of a number: 'or', masks, one bit ===== -/
theorem fa_and (a b : Nat) : nI a &&& nI b = nI (a &&& b) := by
  apply Int32.toBitVec_inj.1
  show BitVec.ofNat 32 a &&& BitVec.ofNat 32 b = BitVec.ofNat 32 (a &&& b)
  apply BitVec.eq_of_getLsbD_eq
  intro i hi
  simp [hi]
theorem fa_or (a b : Nat) : nI a ||| nI b = nI (a ||| b) := by
  apply Int32.toBitVec_inj.1
  show BitVec.ofNat 32 a ||| BitVec.ofNat 32 b = BitVec.ofNat 32 (a ||| b)
  apply BitVec.eq_of_getLsbD_eq
  intro i hi
  simp [hi]
/-- a remainder by a power of two, as a mask -/
theorem fa_mask (n k : Nat) : nI n &&& nI (2 ^ k - 1) = nI (n % 2 ^ k) := by rw [fa_and, Nat.and_two_pow_sub_one_eq_mod]
/-- 'or' of a high part and a low one that don't meet is their sum -/
theorem fa_or_sum {a k : Nat} (b : Nat) (h : a < 2 ^ k) : nI (2 ^ k * b) ||| nI a = nI (2 ^ k * b + a) := by rw [fa_or, Nat.two_pow_add_eq_or_of_lt h]
/-- one bit, by 'and' with a power of two -/
theorem fa_bit {n j : Nat} (hj : j < 31) : nI n &&& nI (2 ^ j) = 0 ↔ n.testBit j = false := by
  have h2 : (2 : Nat) ^ j < 2 ^ 31 := Nat.pow_lt_pow_right (by decide) hj
  have hle : n &&& 2 ^ j ≤ 2 ^ j := Nat.and_le_right
  have e : n &&& 2 ^ j = 0 ↔ n.testBit j = false := by
    constructor
    · intro h
      have h1 : (n &&& 2 ^ j).testBit j = false := by rw [h]; simp
      rw [Nat.testBit_and] at h1
      first | simpa using h1 | simpa [Nat.testBit_two_pow_self] using h1 | simpa [Nat.testBit_two_pow] using h1
    · intro h
      apply Nat.eq_of_testBit_eq
      intro i
      rw [Nat.testBit_and]
      by_cases hi : j = i
      · subst hi; simp [h]
      · first | (simp [Nat.testBit_two_pow, hi]; done) | (simp [Nat.testBit_two_pow_of_ne hi]; done)
  rw [fa_and]
  constructor
  · intro h
    apply e.mp
    rcases Nat.eq_zero_or_pos (n &&& 2 ^ j) with z | z
    · exact z
    · exact absurd h (nI_ne0 z (Nat.lt_of_le_of_lt hle h2))
  · intro h
    rw [e.mpr h]; exact nI_0
/-- a remainder by a power of two of a number that isn't negative, as Java divides -/
theorem fa_rem {a k : Nat} (ha : a < 2 ^ 31) (hk : k < 31) : nI a - nI a / nI (2 ^ k) * nI (2 ^ k) = nI (a % 2 ^ k) := pk_rem ha (Nat.two_pow_pos k) (Nat.pow_lt_pow_right (by decide) hk)
/-! ===== cuts to a byte, a short ===== -/
theorem fa_byte_xor (x y : Int32) : (x ^^^ y).toInt8 = x.toInt8 ^^^ y.toInt8 := by
  apply Int8.toBitVec_inj.1
  apply BitVec.eq_of_getLsbD_eq
  intro i hi
  first | (simp [hi]; done) | (simp [hi, BitVec.getLsbD_setWidth, BitVec.getLsbD_signExtend]; done)
theorem fa_short_xor (x y : Int32) : (x ^^^ y).toInt16 = x.toInt16 ^^^ y.toInt16 := by
  apply Int16.toBitVec_inj.1
  apply BitVec.eq_of_getLsbD_eq
  intro i hi
  first | (simp [hi]; done) | (simp [hi, BitVec.getLsbD_setWidth, BitVec.getLsbD_signExtend]; done)
/-- the cut to a byte sees the low byte alone -/
theorem fa_byte_low (x : Int32) : (x &&& 255).toInt8 = x.toInt8 := by
  apply Int8.toBitVec_inj.1
  apply BitVec.eq_of_getLsbD_eq
  intro i hi
  have h2 : (255 : Int32).toBitVec.getLsbD i = true := by
    have : ∀ j : Fin 8, (255 : Int32).toBitVec.getLsbD j.val = true := by decide +kernel
    exact this ⟨i, hi⟩
  have h4 : (x &&& 255).toBitVec.getLsbD i = x.toBitVec.getLsbD i := by
    show (x.toBitVec &&& (255 : Int32).toBitVec).getLsbD i = _
    rw [BitVec.getLsbD_and, h2, Bool.and_true]
  have h3 : i < 32 := by omega
  first
    | (show (((x &&& 255).toBitVec).signExtend 8).getLsbD i = (x.toBitVec.signExtend 8).getLsbD i; rw [BitVec.getLsbD_signExtend, BitVec.getLsbD_signExtend, if_pos h3, if_pos h3, h4])
    | (show (((x &&& 255).toBitVec).setWidth 8).getLsbD i = (x.toBitVec.setWidth 8).getLsbD i; rw [BitVec.getLsbD_setWidth, BitVec.getLsbD_setWidth, h4])
    | (simp [hi, h3, h4]; done)
theorem fa_short_low (x : Int32) : (x &&& 65535).toInt16 = x.toInt16 := by
  apply Int16.toBitVec_inj.1
  apply BitVec.eq_of_getLsbD_eq
  intro i hi
  have h2 : (65535 : Int32).toBitVec.getLsbD i = true := by
    have : ∀ j : Fin 16, (65535 : Int32).toBitVec.getLsbD j.val = true := by decide +kernel
    exact this ⟨i, hi⟩
  have h4 : (x &&& 65535).toBitVec.getLsbD i = x.toBitVec.getLsbD i := by
    show (x.toBitVec &&& (65535 : Int32).toBitVec).getLsbD i = _
    rw [BitVec.getLsbD_and, h2, Bool.and_true]
  have h3 : i < 32 := by omega
  first
    | (show (((x &&& 65535).toBitVec).signExtend 16).getLsbD i = (x.toBitVec.signExtend 16).getLsbD i; rw [BitVec.getLsbD_signExtend, BitVec.getLsbD_signExtend, if_pos h3, if_pos h3, h4])
    | (show (((x &&& 65535).toBitVec).setWidth 16).getLsbD i = (x.toBitVec.setWidth 16).getLsbD i; rw [BitVec.getLsbD_setWidth, BitVec.getLsbD_setWidth, h4])
    | (simp [hi, h3, h4]; done)
/-- a small number is its own byte, its own short -/
theorem fa_byte_small {n : Nat} (h : n < 128) : (nI n).toInt8.toInt32 = nI n := by
  have : ∀ j : Fin 128, (nI j.val).toInt8.toInt32 = nI j.val := by decide +kernel
  exact this ⟨n, h⟩
/-! ===== absolute difference ===== -/
theorem fa_absdiff {a b : Nat} (ha : a < 2 ^ 31) (hb : b < 2 ^ 31) : (if nI a < nI b then nI b - nI a else nI a - nI b) = nI (if a < b then b - a else a - b) := by
  by_cases h : a < b
  · rw [if_pos (nI_lt h hb), if_pos h]
    exact pk_sub (Nat.le_of_lt h)
  · rw [if_neg (nI_nlt (Nat.le_of_not_lt h) ha), if_neg h]
    exact pk_sub (Nat.le_of_not_lt h)
/-! ===== an array behind i stores, a conditional store, a row copied ===== -/
/-- f where k < i, what stood there else -/
def fa_fill {α : Type} (f g : Nat → α) (i : Nat) : Nat → α := fun k => if k < i then f k else g k
theorem fa_fill_0 {α : Type} (f g : Nat → α) : fa_fill f g 0 = g := funext fun k => if_neg (Nat.not_lt_zero k)
theorem fa_fill_in {α : Type} {f g : Nat → α} {i k : Nat} (h : k < i) : fa_fill f g i k = f k := if_pos h
theorem fa_fill_out {α : Type} {f g : Nat → α} {i k : Nat} (h : i ≤ k) : fa_fill f g i k = g k := if_neg (Nat.not_lt.mpr h)
theorem fa_fill_succ (f g : Nat → Int32) (i : Nat) : upd (fa_fill f g i) i (f i) = fa_fill f g (i + 1) := by
  funext k
  by_cases e : k = i
  · subst e
    rw [pk_us]
    exact (if_pos (Nat.lt_succ_self k)).symm
  · rw [pk_un e]
    by_cases h : k < i
    · rw [fa_fill_in h, fa_fill_in (Nat.lt_succ_of_lt h)]
    · rw [fa_fill_out (Nat.le_of_not_lt h), fa_fill_out (by omega)]
/-- a store that changes nothing -/
theorem fa_upd_same {f : Nat → Int32} {i : Nat} {x : Int32} (h : f i = x) : upd f i x = f := by
  funext k
  by_cases e : k = i
  · subst e
    rw [pk_us, h]
  · rw [pk_un e]
/-- a store under a condition, told as one -/
theorem fa_upd_if (c : Prop) [Decidable c] (f : Nat → Int32) (i : Nat) (x : Int32) : (if c then upd f i x else f) = upd f i (if c then x else f i) := by
  by_cases h : c
  · rw [if_pos h, if_pos h]
  · rw [if_neg h, if_neg h, fa_upd_same rfl]
/-- two stores at one place, at two -/
theorem fa_upd_twice (f : Nat → Int32) (i : Nat) (x y : Int32) : upd (upd f i x) i y = upd f i y := by
  funext k
  by_cases e : k = i
  · subst e
    rw [pk_us, pk_us]
  · rw [pk_un e, pk_un e, pk_un e]
theorem fa_upd_swap (f : Nat → Int32) {i j : Nat} (h : i ≠ j) (x y : Int32) : upd (upd f i x) j y = upd (upd f j y) i x := by
  funext k
  by_cases e : k = i
  · subst e
    rw [pk_un h, pk_us, pk_us]
  · by_cases e2 : k = j
    · subst e2
      rw [pk_us, pk_un e, pk_us]
    · rw [pk_un e2, pk_un e, pk_un e, pk_un e2]
/-! ===== the first index with a property; a count ===== -/
/-- the first k < n with p k, n if there is none -/
def fa_first (p : Nat → Bool) : Nat → Nat
  | 0 => 0
  | n + 1 => if fa_first p n < n then fa_first p n else if p n then n else n + 1
theorem fa_first_le (p : Nat → Bool) : ∀ n, fa_first p n ≤ n
  | 0 => Nat.le_refl 0
  | n + 1 => by
    have ih := fa_first_le p n
    unfold fa_first
    split
    · omega
    · split
      · omega
      · omega
theorem fa_first_no (p : Nat → Bool) : ∀ n k, k < fa_first p n → p k = false
  | 0, k, h => absurd h (Nat.not_lt_zero k)
  | n + 1, k, h => by
    have ih := fa_first_no p n
    have hl := fa_first_le p n
    unfold fa_first at h
    split at h
    · exact ih k h
    · rename_i h1
      split at h
      · exact ih k (by omega)
      · rename_i h2
        by_cases e : k = n
        · subst e
          exact Bool.eq_false_iff.mpr h2
        · exact ih k (by omega)
theorem fa_first_yes (p : Nat → Bool) : ∀ n, fa_first p n < n → p (fa_first p n) = true
  | 0, h => absurd h (Nat.not_lt_zero _)
  | n + 1, h => by
    have ih := fa_first_yes p n
    have hl := fa_first_le p n
    unfold fa_first at h ⊢
    split at h
    · rename_i h1
      rw [if_pos h1]
      exact ih h1
    · rename_i h1
      rw [if_neg h1]
      split at h
      · rename_i h2
        rw [if_pos h2]
        exact h2
      · omega
/-- how many k < n have p k -/
def fa_cnt (p : Nat → Bool) : Nat → Nat
  | 0 => 0
  | n + 1 => fa_cnt p n + if p n then 1 else 0
theorem fa_cnt_le (p : Nat → Bool) : ∀ n, fa_cnt p n ≤ n
  | 0 => Nat.le_refl 0
  | n + 1 => by
    have ih := fa_cnt_le p n
    unfold fa_cnt
    split
    · omega
    · omega
theorem fa_cnt_yes {p : Nat → Bool} {n : Nat} (h : p n = true) : fa_cnt p (n + 1) = fa_cnt p n + 1 := by rw [fa_cnt, if_pos h]
theorem fa_cnt_no {p : Nat → Bool} {n : Nat} (h : p n = false) : fa_cnt p (n + 1) = fa_cnt p n := by rw [fa_cnt, if_neg (by rw [h]; decide)]; rfl
theorem fa_cnt_cong {p q : Nat → Bool} : ∀ {n : Nat}, (∀ k, k < n → p k = q k) → fa_cnt p n = fa_cnt q n
  | 0, _ => rfl
  | n + 1, h => by rw [fa_cnt, fa_cnt, fa_cnt_cong (fun k hk => h k (Nat.lt_succ_of_lt hk)), h n (Nat.lt_succ_self n)]
/-! ===== an answer carried into a post; a branch on a boolean answer ===== -/
theorem fa_post {α : Type} {P : α → Prop} {x y : α} (h : x = y) (hp : P y) : P x := h ▸ hp
theorem fa_post2 {α β : Type} {P : α → β → Prop} {x y : α} {u v : β} (h : x = y) (h2 : u = v) (hp : P y v) : P x u := h ▸ h2 ▸ hp
theorem fa_bool {r : Int32} {b : Bool} (h : r = if b then 1 else 0) : (r = 0 ↔ b = false) ∧ (¬ r = 0 ↔ b = true) := by
  subst h
  cases b
  · exact ⟨⟨fun _ => rfl, fun _ => rfl⟩, ⟨fun h => absurd rfl h, fun h => absurd h (by decide)⟩⟩
  · exact ⟨⟨fun h => absurd h (by decide), fun h => absurd h (by decide)⟩, ⟨fun _ => rfl, fun _ => by decide⟩⟩
/-- a boolean's narrowing changes nothing -/
theorem fa_bool_and {r : Int32} (h : r = 0 ∨ r = 1) : r &&& 1 = r := by
  rcases h with rfl | rfl
  · decide
  · decide
theorem fa_bool_prop {c : Prop} [Decidable c] {r : Int32} (h : r = if c then 1 else 0) : (r = 0 ↔ ¬ c) ∧ (¬ r = 0 ↔ c) := by
  subst h
  by_cases hc : c
  · rw [if_pos hc]
    exact ⟨⟨fun h => absurd h (by decide), fun h => absurd hc h⟩, ⟨fun _ => hc, fun _ => by decide⟩⟩
  · rw [if_neg hc]
    exact ⟨⟨fun _ => hc, fun _ => rfl⟩, ⟨fun h => absurd rfl h, fun h => absurd h hc⟩⟩
/-! plain facts to paste, each family by itself; over the kit's nI, lN and upd -/
/-! ===== drawers: more things than places ===== -/
theorem fb_holes : ∀ (m n : Nat) (f : Nat → Nat), (∀ i, i < n → f i < m) → (∀ i j, i < j → j < n → f i ≠ f j) → n ≤ m := by
  intro m
  induction m with
  | zero =>
    intro n f h1 _
    rcases Nat.eq_zero_or_pos n with h | h
    · omega
    · exact absurd (h1 0 h) (Nat.not_lt_zero _)
  | succ m ih =>
    intro n f h1 h2
    by_cases hx : ∃ i, i < n ∧ f i = m
    · obtain ⟨a, ha, hfa⟩ := hx
      have hg := ih (n - 1) (fun i => if i < a then f i else f (i + 1)) (by
        intro i hi
        by_cases q : i < a
        · simp only [if_pos q]
          have b1 := h1 i (by omega)
          have b2 := h2 i a q ha
          omega
        · simp only [if_neg q]
          have b1 := h1 (i + 1) (by omega)
          have b2 := h2 a (i + 1) (by omega) (by omega)
          omega) (by
        intro i j hij hj
        by_cases q : i < a
        · by_cases r : j < a
          · simp only [if_pos q, if_pos r]
            exact h2 i j hij (by omega)
          · simp only [if_pos q, if_neg r]
            exact h2 i (j + 1) (by omega) (by omega)
        · have r : ¬ j < a := by omega
          simp only [if_neg q, if_neg r]
          exact h2 (i + 1) (j + 1) (by omega) (by omega))
      omega
    · have hg := ih n f (fun i hi => by
        have b1 := h1 i hi
        have b2 : f i ≠ m := fun e => hx ⟨i, hi, e⟩
        omega) h2
      omega
/-- two of them in one place -/
theorem fb_twice {m n : Nat} {f : Nat → Nat} (h : ∀ i, i < n → f i < m) (hm : m < n) : ∃ i j, i < j ∧ j < n ∧ f i = f j := by
  refine Classical.byContradiction fun hx => ?_
  have := fb_holes m n f h (fun i j hij hj e => hx ⟨i, j, hij, hj, e⟩)
  omega
/-- as many as places, none twice: each place is taken -/
theorem fb_onto {n : Nat} {f : Nat → Nat} (h : ∀ i, i < n → f i < n) (h2 : ∀ i j, i < j → j < n → f i ≠ f j) {y : Nat} (hy : y < n) : ∃ i, i < n ∧ f i = y := by
  refine Classical.byContradiction fun hx => ?_
  have hne : ∀ i, i < n → f i ≠ y := fun i hi e => hx ⟨i, hi, e⟩
  have := fb_holes (n - 1) n (fun i => if f i < y then f i else f i - 1) (by
    intro i hi
    have b1 := h i hi
    have b2 := hne i hi
    by_cases q : f i < y
    · simp only [if_pos q]; omega
    · simp only [if_neg q]; omega) (by
    intro i j hij hj
    have b1 := hne i (by omega)
    have b2 := hne j hj
    have b3 := h2 i j hij hj
    by_cases q : f i < y
    · by_cases r : f j < y
      · simp only [if_pos q, if_pos r]; exact b3
      · simp only [if_pos q, if_neg r]; omega
    · by_cases r : f j < y
      · simp only [if_neg q, if_pos r]; omega
      · simp only [if_neg q, if_neg r]; omega)
  omega
/-! ===== how many places have a property ===== -/
def fb_ct (p : Nat → Bool) : Nat → Nat
  | 0 => 0
  | n + 1 => fb_ct p n + (if p n then 1 else 0)
theorem fb_ct_succ (p : Nat → Bool) (n : Nat) : fb_ct p (n + 1) = fb_ct p n + (if p n then 1 else 0) := rfl
theorem fb_ct_le (p : Nat → Bool) : ∀ n, fb_ct p n ≤ n
  | 0 => Nat.le_refl _
  | n + 1 => by
    have h := fb_ct_le p n
    rw [fb_ct_succ]
    split <;> omega
theorem fb_ct_step (p : Nat → Bool) (m : Nat) : ∀ n, fb_ct p m ≤ fb_ct p (m + n)
  | 0 => Nat.le_refl _
  | n + 1 => by
    have h := fb_ct_step p m n
    show fb_ct p m ≤ fb_ct p (m + n + 1)
    rw [fb_ct_succ]
    omega
theorem fb_ct_mono (p : Nat → Bool) {m n : Nat} (h : m ≤ n) : fb_ct p m ≤ fb_ct p n := by
  have := fb_ct_step p m (n - m)
  rwa [Nat.add_sub_cancel' h] at this
theorem fb_ct_cong {p q : Nat → Bool} : ∀ {n : Nat}, (∀ k, k < n → p k = q k) → fb_ct p n = fb_ct q n
  | 0, _ => rfl
  | n + 1, h => by
    rw [fb_ct_succ, fb_ct_succ, fb_ct_cong (fun k hk => h k (by omega)), h n (by omega)]
/-- one place changed -/
theorem fb_ct_out (p : Nat → Bool) (b : Bool) {i n : Nat} (h : n ≤ i) : fb_ct (fun k => if k = i then b else p k) n = fb_ct p n :=
  fb_ct_cong fun k hk => if_neg (by omega)
theorem fb_ct_upd (p : Nat → Bool) (b : Bool) {i : Nat} : ∀ {n : Nat}, i < n → fb_ct (fun k => if k = i then b else p k) n + (if p i then 1 else 0) = fb_ct p n + (if b then 1 else 0)
  | 0, h => absurd h (Nat.not_lt_zero i)
  | n + 1, h => by
    rw [fb_ct_succ, fb_ct_succ]
    rcases Nat.lt_or_ge i n with q | q
    · have := fb_ct_upd p b q
      have e : (if n = i then b else p n) = p n := if_neg (by omega)
      rw [e]
      omega
    · have e : i = n := by omega
      subst e
      rw [fb_ct_out p b (Nat.le_refl _)]
      simp only [if_true]
      omega
theorem fb_ct_sub {p q : Nat → Bool} : ∀ {n : Nat}, (∀ k, k < n → p k = true → q k = true) → fb_ct p n ≤ fb_ct q n
  | 0, _ => Nat.le_refl _
  | n + 1, h => by
    have h1 := fb_ct_sub (n := n) (p := p) (q := q) (fun k hk => h k (by omega))
    have h2 := h n (by omega)
    rw [fb_ct_succ, fb_ct_succ]
    cases hp : p n <;> cases hq : q n <;> simp_all <;> omega
theorem fb_ct_or {p q : Nat → Bool} : ∀ {n : Nat}, (∀ k, k < n → ¬ (p k = true ∧ q k = true)) → fb_ct (fun k => p k || q k) n = fb_ct p n + fb_ct q n
  | 0, _ => rfl
  | n + 1, h => by
    have h1 := fb_ct_or (n := n) (p := p) (q := q) (fun k hk => h k (by omega))
    have h2 := h n (by omega)
    rw [fb_ct_succ, fb_ct_succ, fb_ct_succ, h1]
    cases hp : p n <;> cases hq : q n <;> simp_all <;> omega
theorem fb_ct_not (p : Nat → Bool) : ∀ n, fb_ct p n + fb_ct (fun k => !p k) n = n
  | 0 => rfl
  | n + 1 => by
    have h := fb_ct_not p n
    rw [fb_ct_succ, fb_ct_succ]
    cases p n <;> simp <;> omega
theorem fb_ct_split (p : Nat → Bool) (m : Nat) : ∀ n, fb_ct p (m + n) = fb_ct p m + fb_ct (fun k => p (m + k)) n
  | 0 => rfl
  | n + 1 => by
    have h := fb_ct_split p m n
    show fb_ct p (m + n + 1) = _
    rw [fb_ct_succ, fb_ct_succ, h, Nat.add_assoc]
theorem fb_ct_zero {p : Nat → Bool} : ∀ {n : Nat}, fb_ct p n = 0 ↔ ∀ k, k < n → p k = false
  | 0 => ⟨fun _ k hk => absurd hk (Nat.not_lt_zero k), fun _ => rfl⟩
  | n + 1 => by
    have h := fb_ct_zero (p := p) (n := n)
    rw [fb_ct_succ]
    constructor
    · intro e k hk
      have e1 : fb_ct p n = 0 := by omega
      rcases Nat.lt_or_ge k n with q | q
      · exact h.mp e1 k q
      · have ek : k = n := by omega
        subst ek
        cases hp : p k
        · rfl
        · simp [hp] at e
    · intro a
      rw [h.mpr (fun k hk => a k (by omega)), a n (by omega)]
      rfl
theorem fb_ct_pos {p : Nat → Bool} {n : Nat} : 0 < fb_ct p n ↔ ∃ k, k < n ∧ p k = true := by
  constructor
  · intro h
    refine Classical.byContradiction fun hx => ?_
    have := fb_ct_zero.mpr (fun k hk => by
      cases hp : p k
      · rfl
      · exact absurd ⟨k, hk, hp⟩ hx : ∀ k, k < n → p k = false)
    omega
  · rintro ⟨k, hk, hp⟩
    rcases Nat.eq_zero_or_pos (fb_ct p n) with e | e
    · have := fb_ct_zero.mp e k hk
      rw [this] at hp
      cases hp
    · exact e
theorem fb_ct_all {p : Nat → Bool} {n : Nat} : fb_ct p n = n ↔ ∀ k, k < n → p k = true := by
  have h := fb_ct_not p n
  constructor
  · intro e k hk
    have z : fb_ct (fun k => !p k) n = 0 := by omega
    have := fb_ct_zero.mp z k hk
    cases hp : p k
    · simp [hp] at this
    · rfl
  · intro a
    have z : fb_ct (fun k => !p k) n = 0 := fb_ct_zero.mpr (fun k hk => by simp [a k hk])
    omega
/-- the k-th place with the property -/
theorem fb_ct_kth {p : Nat → Bool} {k : Nat} : ∀ {n : Nat}, k < fb_ct p n → ∃ i, i < n ∧ p i = true ∧ fb_ct p i = k
  | 0, h => absurd h (Nat.not_lt_zero k)
  | n + 1, h => by
    rcases Nat.lt_or_ge k (fb_ct p n) with q | q
    · obtain ⟨i, h1, h2⟩ := fb_ct_kth q
      exact ⟨i, by omega, h2⟩
    · rw [fb_ct_succ] at h
      cases hp : p n
      · simp [hp] at h; omega
      · simp [hp] at h
        exact ⟨n, by omega, hp, by omega⟩
theorem fb_ct_kth_one {p : Nat → Bool} {i j : Nat} (hi : p i = true) (hj : p j = true) (e : fb_ct p i = fb_ct p j) : i = j := by
  have key : ∀ a b : Nat, a < b → p a = true → fb_ct p a < fb_ct p b := by
    intro a b hab ha
    have h := fb_ct_mono p (show a + 1 ≤ b from hab)
    rw [fb_ct_succ, ha] at h
    simp at h
    omega
  rcases Nat.lt_trichotomy i j with q | q | q
  · have := key i j q hi; omega
  · exact q
  · have := key j i q hj; omega
/-! ===== sums over a range: one place changed, parts, bounds ===== -/
def fb_sm (f : Nat → Nat) : Nat → Nat
  | 0 => 0
  | n + 1 => fb_sm f n + f n
theorem fb_sm_succ (f : Nat → Nat) (n : Nat) : fb_sm f (n + 1) = fb_sm f n + f n := rfl
theorem fb_sm_cong {f g : Nat → Nat} : ∀ {n : Nat}, (∀ k, k < n → f k = g k) → fb_sm f n = fb_sm g n
  | 0, _ => rfl
  | n + 1, h => by rw [fb_sm_succ, fb_sm_succ, fb_sm_cong (fun k hk => h k (by omega)), h n (by omega)]
theorem fb_sm_out (f : Nat → Nat) (v : Nat) {i n : Nat} (h : n ≤ i) : fb_sm (fun k => if k = i then v else f k) n = fb_sm f n :=
  fb_sm_cong fun k hk => if_neg (by omega)
theorem fb_sm_upd (f : Nat → Nat) (v : Nat) {i : Nat} : ∀ {n : Nat}, i < n → fb_sm (fun k => if k = i then v else f k) n + f i = fb_sm f n + v
  | 0, h => absurd h (Nat.not_lt_zero i)
  | n + 1, h => by
    rw [fb_sm_succ, fb_sm_succ]
    rcases Nat.lt_or_ge i n with q | q
    · have := fb_sm_upd f v q
      have e : (if n = i then v else f n) = f n := if_neg (by omega)
      rw [e]
      omega
    · have e : i = n := by omega
      subst e
      rw [fb_sm_out f v (Nat.le_refl _)]
      simp only [if_true]
      omega
theorem fb_sm_add (f g : Nat → Nat) : ∀ n, fb_sm (fun k => f k + g k) n = fb_sm f n + fb_sm g n
  | 0 => rfl
  | n + 1 => by
    have h := fb_sm_add f g n
    rw [fb_sm_succ, fb_sm_succ, fb_sm_succ, h]
    omega
theorem fb_sm_le {f g : Nat → Nat} : ∀ {n : Nat}, (∀ k, k < n → f k ≤ g k) → fb_sm f n ≤ fb_sm g n
  | 0, _ => Nat.le_refl _
  | n + 1, h => by
    have h1 := fb_sm_le (n := n) (f := f) (g := g) (fun k hk => h k (by omega))
    have h2 := h n (by omega)
    rw [fb_sm_succ, fb_sm_succ]
    omega
theorem fb_sm_const (c : Nat) : ∀ n, fb_sm (fun _ => c) n = n * c
  | 0 => by rw [Nat.zero_mul]; rfl
  | n + 1 => by rw [fb_sm_succ, fb_sm_const c n, Nat.succ_mul]
theorem fb_sm_bound {f : Nat → Nat} {c n : Nat} (h : ∀ k, k < n → f k ≤ c) : fb_sm f n ≤ n * c := by
  rw [← fb_sm_const c n]
  exact fb_sm_le h
theorem fb_sm_mono (f : Nat → Nat) (m : Nat) : ∀ n, fb_sm f m ≤ fb_sm f (m + n)
  | 0 => Nat.le_refl _
  | n + 1 => by
    have h := fb_sm_mono f m n
    show fb_sm f m ≤ fb_sm f (m + n + 1)
    rw [fb_sm_succ]
    omega
theorem fb_sm_part (f : Nat → Nat) {i n : Nat} (h : i < n) : fb_sm f i + f i ≤ fb_sm f n := by
  have := fb_sm_mono f (i + 1) (n - (i + 1))
  rw [fb_sm_succ, show i + 1 + (n - (i + 1)) = n by omega] at this
  exact this
theorem fb_sm_split (f : Nat → Nat) (m : Nat) : ∀ n, fb_sm f (m + n) = fb_sm f m + fb_sm (fun k => f (m + k)) n
  | 0 => rfl
  | n + 1 => by
    have h := fb_sm_split f m n
    show fb_sm f (m + n + 1) = _
    rw [fb_sm_succ, fb_sm_succ, h, Nat.add_assoc]
theorem fb_sm_zero {f : Nat → Nat} {n : Nat} (h : fb_sm f n = 0) : ∀ k, k < n → f k = 0 := fun k hk => by
  have := fb_sm_part f hk
  omega
/-- the same over whole numbers -/
def fb_si (f : Nat → Int) : Nat → Int
  | 0 => 0
  | n + 1 => fb_si f n + f n
theorem fb_si_succ (f : Nat → Int) (n : Nat) : fb_si f (n + 1) = fb_si f n + f n := rfl
theorem fb_si_cong {f g : Nat → Int} : ∀ {n : Nat}, (∀ k, k < n → f k = g k) → fb_si f n = fb_si g n
  | 0, _ => rfl
  | n + 1, h => by rw [fb_si_succ, fb_si_succ, fb_si_cong (fun k hk => h k (by omega)), h n (by omega)]
theorem fb_si_out (f : Nat → Int) (v : Int) {i n : Nat} (h : n ≤ i) : fb_si (fun k => if k = i then v else f k) n = fb_si f n :=
  fb_si_cong fun k hk => if_neg (by omega)
theorem fb_si_upd (f : Nat → Int) (v : Int) {i : Nat} : ∀ {n : Nat}, i < n → fb_si (fun k => if k = i then v else f k) n = fb_si f n - f i + v
  | 0, h => absurd h (Nat.not_lt_zero i)
  | n + 1, h => by
    rw [fb_si_succ, fb_si_succ]
    rcases Nat.lt_or_ge i n with q | q
    · have := fb_si_upd f v q
      have e : (if n = i then v else f n) = f n := if_neg (by omega)
      rw [e]
      omega
    · have e : i = n := by omega
      subst e
      rw [fb_si_out f v (Nat.le_refl _)]
      simp only [if_true]
      omega
theorem fb_si_add (f g : Nat → Int) : ∀ n, fb_si (fun k => f k + g k) n = fb_si f n + fb_si g n
  | 0 => rfl
  | n + 1 => by
    have h := fb_si_add f g n
    rw [fb_si_succ, fb_si_succ, fb_si_succ, h]
    omega
theorem fb_si_sub (f g : Nat → Int) : ∀ n, fb_si (fun k => f k - g k) n = fb_si f n - fb_si g n
  | 0 => rfl
  | n + 1 => by
    have h := fb_si_sub f g n
    rw [fb_si_succ, fb_si_succ, fb_si_succ, h]
    omega
theorem fb_si_mul (c : Int) (f : Nat → Int) : ∀ n, fb_si (fun k => c * f k) n = c * fb_si f n
  | 0 => (Int.mul_zero c).symm
  | n + 1 => by
    have h := fb_si_mul c f n
    rw [fb_si_succ, fb_si_succ, h, Int.mul_add]
theorem fb_si_split (f : Nat → Int) (m : Nat) : ∀ n, fb_si f (m + n) = fb_si f m + fb_si (fun k => f (m + k)) n
  | 0 => (Int.add_zero _).symm
  | n + 1 => by
    have h := fb_si_split f m n
    show fb_si f (m + n + 1) = _
    rw [fb_si_succ, fb_si_succ, h, Int.add_assoc]
theorem fb_si_nat (f : Nat → Nat) : ∀ n, fb_si (fun k => (f k : Int)) n = (fb_sm f n : Int)
  | 0 => rfl
  | n + 1 => by
    have h := fb_si_nat f n
    rw [fb_si_succ, fb_sm_succ, h]
    omega
theorem fb_si_bound {f : Nat → Int} {c : Int} (hc : 0 ≤ c) : ∀ {n : Nat}, (∀ k, k < n → -c ≤ f k ∧ f k ≤ c) → -(n * c) ≤ fb_si f n ∧ fb_si f n ≤ n * c
  | 0, _ => by simp [fb_si]
  | n + 1, h => by
    have h1 := fb_si_bound (n := n) (f := f) hc (fun k hk => h k (by omega))
    have h2 := h n (by omega)
    have e : ((n + 1 : Nat) : Int) * c = n * c + c := by rw [Int.natCast_add, Int.add_mul]; simp
    rw [fb_si_succ, e]
    omega
/-! ===== bits of a long that isn't negative ===== -/
theorem fb_andL (a b : Nat) : lN a &&& lN b = lN (a &&& b) := by
  apply Int64.toBitVec_inj.1
  show BitVec.ofNat 64 a &&& BitVec.ofNat 64 b = BitVec.ofNat 64 (a &&& b)
  apply BitVec.eq_of_getLsbD_eq
  intro i hi
  simp [hi]
theorem fb_orL (a b : Nat) : lN a ||| lN b = lN (a ||| b) := by
  apply Int64.toBitVec_inj.1
  show BitVec.ofNat 64 a ||| BitVec.ofNat 64 b = BitVec.ofNat 64 (a ||| b)
  apply BitVec.eq_of_getLsbD_eq
  intro i hi
  simp [hi]
theorem fb_xorL (a b : Nat) : lN a ^^^ lN b = lN (a ^^^ b) := by
  apply Int64.toBitVec_inj.1
  show BitVec.ofNat 64 a ^^^ BitVec.ofNat 64 b = BitVec.ofNat 64 (a ^^^ b)
  apply BitVec.eq_of_getLsbD_eq
  intro i hi
  simp [hi]
theorem fb_xorI (a b : Nat) : nI a ^^^ nI b = nI (a ^^^ b) := by
  apply Int32.toBitVec_inj.1
  show BitVec.ofNat 32 a ^^^ BitVec.ofNat 32 b = BitVec.ofNat 32 (a ^^^ b)
  apply BitVec.eq_of_getLsbD_eq
  intro i hi
  simp [hi]
theorem fb_maskL (n k : Nat) : lN n &&& lN (2 ^ k - 1) = lN (n % 2 ^ k) := by rw [fb_andL, Nat.and_two_pow_sub_one_eq_mod]
theorem fb_or_sumL {a k : Nat} (b : Nat) (h : a < 2 ^ k) : lN (2 ^ k * b) ||| lN a = lN (2 ^ k * b + a) := by rw [fb_orL, Nat.two_pow_add_eq_or_of_lt h]
theorem fb_lN_inj {a b : Nat} (ha : a < 2 ^ 63) (hb : b < 2 ^ 63) : lN a = lN b ↔ a = b := by
  constructor
  · intro h
    have h1 : (BitVec.ofNat 64 a).toNat = (BitVec.ofNat 64 b).toNat := congrArg (fun x : Int64 => x.toBitVec.toNat) h
    rw [BitVec.toNat_ofNat, BitVec.toNat_ofNat, Nat.mod_eq_of_lt (by omega), Nat.mod_eq_of_lt (by omega)] at h1
    exact h1
  · rintro rfl; rfl
theorem fb_bit_nat (n j : Nat) : n &&& 2 ^ j = 0 ↔ n.testBit j = false := by
  constructor
  · intro h
    have h1 : (n &&& 2 ^ j).testBit j = false := by rw [h]; simp
    rw [Nat.testBit_and] at h1
    simpa using h1
  · intro h
    apply Nat.eq_of_testBit_eq
    intro i
    rw [Nat.testBit_and]
    by_cases hi : j = i
    · subst hi; simp [h]
    · first | (simp [Nat.testBit_two_pow, hi]; done) | (simp [Nat.testBit_two_pow_of_ne hi]; done)
/-- one bit of a long -/
theorem fb_bitL {n j : Nat} (hj : j < 63) : lN n &&& lN (2 ^ j) = 0 ↔ n.testBit j = false := by
  have h2 : (2 : Nat) ^ j < 2 ^ 63 := Nat.pow_lt_pow_right (by decide) hj
  have hle : n &&& 2 ^ j ≤ 2 ^ j := Nat.and_le_right
  rw [fb_andL, ← fb_bit_nat, show (0 : Int64) = lN 0 from rfl]
  exact fb_lN_inj (by omega) (by decide)
/-- a bit set, a bit taken off -/
theorem fb_bit_set (n j i : Nat) : (n ||| 2 ^ j).testBit i = (n.testBit i || decide (i = j)) := by
  rw [Nat.testBit_or]
  by_cases h : j = i
  · subst h; simp
  · have h2 : ¬ i = j := fun e => h e.symm
    first | (simp [Nat.testBit_two_pow, h, h2]; done) | (simp [Nat.testBit_two_pow_of_ne h, h2]; done)
theorem fb_bit_flip (n j i : Nat) : (n ^^^ 2 ^ j).testBit i = (n.testBit i ^^ decide (i = j)) := by
  rw [Nat.testBit_xor]
  by_cases h : j = i
  · subst h; simp
  · have h2 : ¬ i = j := fun e => h e.symm
    first | (simp [Nat.testBit_two_pow, h, h2]; done) | (simp [Nat.testBit_two_pow_of_ne h, h2]; done)
/-! ===== a stretch of an array written over by a function ===== -/
def fb_put {α : Type} (f g : Nat → α) (a n : Nat) : Nat → α := fun k => if a ≤ k ∧ k < a + n then g (k - a) else f k
theorem fb_put_0 {α : Type} (f g : Nat → α) (a : Nat) : fb_put f g a 0 = f := funext fun k => if_neg (by omega)
theorem fb_put_in {α : Type} {f g : Nat → α} {a n k : Nat} (h1 : a ≤ k) (h2 : k < a + n) : fb_put f g a n k = g (k - a) := if_pos ⟨h1, h2⟩
theorem fb_put_out {α : Type} {f g : Nat → α} {a n k : Nat} (h : k < a ∨ a + n ≤ k) : fb_put f g a n k = f k := if_neg (by omega)
theorem fb_put_succ (f g : Nat → Int32) (a n : Nat) : upd (fb_put f g a n) (a + n) (g n) = fb_put f g a (n + 1) := by
  funext k
  by_cases h : k = a + n
  · subst h
    simp [upd, fb_put]
  · by_cases h1 : a ≤ k ∧ k < a + n
    · have h2 : a ≤ k ∧ k < a + (n + 1) := by omega
      simp only [upd, fb_put, if_neg h, if_pos h1, if_pos h2]
    · have h2 : ¬ (a ≤ k ∧ k < a + (n + 1)) := by omega
      simp only [upd, fb_put, if_neg h, if_neg h1, if_neg h2]
/-- .. from the far end down -/
theorem fb_put_down (f g : Nat → Int32) {a n m : Nat} (h : m < n) : upd (fb_put f (fun k => g (k + (m + 1))) (a + (m + 1)) (n - (m + 1))) (a + m) (g m) = fb_put f (fun k => g (k + m)) (a + m) (n - m) := by
  funext k
  by_cases h0 : k = a + m
  · subst h0
    simp only [upd, if_true]
    rw [fb_put_in (by omega) (by omega)]
    exact congrArg g (by omega)
  · simp only [upd, if_neg h0]
    by_cases h1 : a + (m + 1) ≤ k ∧ k < a + (m + 1) + (n - (m + 1))
    · rw [fb_put_in h1.1 h1.2, fb_put_in (by omega) (by omega)]
      exact congrArg g (by omega)
    · rw [fb_put_out (by omega), fb_put_out (by omega)]
theorem fb_put_cong {α : Type} {f f2 g g2 : Nat → α} {a n : Nat} (hf : ∀ k, (k < a ∨ a + n ≤ k) → f k = f2 k) (hg : ∀ k, k < n → g k = g2 k) : fb_put f g a n = fb_put f2 g2 a n := by
  funext k
  by_cases h : a ≤ k ∧ k < a + n
  · rw [fb_put_in h.1 h.2, fb_put_in h.1 h.2, hg _ (by omega)]
  · rw [fb_put_out (by omega), fb_put_out (by omega), hf _ (by omega)]
/-! ===== the least, the first, the best so far; that there is one alone ===== -/
theorem fb_first {p : Nat → Prop} [DecidablePred p] : ∀ {n : Nat}, (∃ i, i < n ∧ p i) → ∃ i, i < n ∧ p i ∧ ∀ j, j < i → ¬ p j
  | 0, h => by obtain ⟨i, hi, -⟩ := h; exact absurd hi (Nat.not_lt_zero i)
  | n + 1, h => by
    by_cases q : ∃ i, i < n ∧ p i
    · obtain ⟨i, h1, h2⟩ := fb_first q
      exact ⟨i, by omega, h2⟩
    · obtain ⟨i, h1, h2⟩ := h
      have e : i = n := by
        rcases Nat.lt_or_ge i n with r | r
        · exact absurd ⟨i, r, h2⟩ q
        · omega
      subst e
      exact ⟨i, by omega, h2, fun j hj hp => q ⟨j, hj, hp⟩⟩
theorem fb_first_one {p : Nat → Prop} {i j : Nat} (hi : p i) (hi2 : ∀ k, k < i → ¬ p k) (hj : p j) (hj2 : ∀ k, k < j → ¬ p k) : i = j := by
  rcases Nat.lt_trichotomy i j with q | q | q
  · exact absurd hi (hj2 i q)
  · exact q
  · exact absurd hj (hi2 j q)
theorem fb_last {p : Nat → Prop} [DecidablePred p] : ∀ {n : Nat}, (∃ i, i < n ∧ p i) → ∃ i, i < n ∧ p i ∧ ∀ j, i < j → j < n → ¬ p j
  | 0, h => by obtain ⟨i, hi, -⟩ := h; exact absurd hi (Nat.not_lt_zero i)
  | n + 1, h => by
    by_cases q : p n
    · exact ⟨n, by omega, q, fun j h1 h2 => by omega⟩
    · obtain ⟨i, h1, h2⟩ := h
      have hi : i < n := by
        rcases Nat.lt_or_ge i n with r | r
        · exact r
        · have e : i = n := by omega
          subst e
          exact absurd h2 q
      obtain ⟨i2, a1, a2, a3⟩ := fb_last (n := n) ⟨i, hi, h2⟩
      refine ⟨i2, by omega, a2, fun j b1 b2 => ?_⟩
      rcases Nat.lt_or_ge j n with r | r
      · exact a3 j b1 r
      · have e : j = n := by omega
        subst e
        exact q
/-- the first greatest -/
theorem fb_best (f : Nat → Int) : ∀ {n : Nat}, 0 < n → ∃ i, i < n ∧ (∀ j, j < n → f j ≤ f i) ∧ ∀ j, j < i → f j < f i
  | 0, h => absurd h (Nat.lt_irrefl 0)
  | 1, _ => ⟨0, by omega, fun j hj => by have e : j = 0 := by omega
                                         subst e; exact Int.le_refl _, fun j hj => absurd hj (Nat.not_lt_zero j)⟩
  | n + 2, _ => by
    obtain ⟨i, h1, h2, h3⟩ := fb_best f (n := n + 1) (by omega)
    by_cases q : f i < f (n + 1)
    · refine ⟨n + 1, by omega, fun j hj => ?_, fun j hj => ?_⟩
      · rcases Nat.lt_or_ge j (n + 1) with r | r
        · have := h2 j r; omega
        · have e : j = n + 1 := by omega
          subst e; exact Int.le_refl _
      · have := h2 j hj; omega
    · refine ⟨i, by omega, fun j hj => ?_, h3⟩
      rcases Nat.lt_or_ge j (n + 1) with r | r
      · exact h2 j r
      · have e : j = n + 1 := by omega
        subst e; omega
theorem fb_best_one {f : Nat → Int} {n i j : Nat} (hi : i < n) (hi2 : ∀ k, k < n → f k ≤ f i) (hi3 : ∀ k, k < i → f k < f i) (hj : j < n) (hj2 : ∀ k, k < n → f k ≤ f j) (hj3 : ∀ k, k < j → f k < f j) : i = j := by
  rcases Nat.lt_trichotomy i j with q | q | q
  · have a := hj3 i q
    have b := hi2 j hj
    omega
  · exact q
  · have a := hi3 j q
    have b := hj2 i hi
    omega
/-- the first least -/
theorem fb_low (f : Nat → Int) {n : Nat} (h : 0 < n) : ∃ i, i < n ∧ (∀ j, j < n → f i ≤ f j) ∧ ∀ j, j < i → f i < f j := by
  obtain ⟨i, h1, h2, h3⟩ := fb_best (fun k => -f k) h
  exact ⟨i, h1, fun j hj => by have := h2 j hj; omega, fun j hj => by have := h3 j hj; omega⟩
/-! ===== signed ints as whole numbers, within bounds ===== -/
theorem fb_rng (x : Int32) : -2147483648 ≤ x.toInt ∧ x.toInt < 2147483648 := by
  have h1 := Int32.le_toInt x
  have h2 := Int32.toInt_lt x
  omega
theorem fb_bmod {z : Int} (h1 : -2147483648 ≤ z) (h2 : z < 2147483648) : z.bmod (2 ^ 32) = z := by
  rw [Int.bmod_eq_of_le (by omega) (by omega)]
theorem fb_addI {x y : Int32} (h1 : -2147483648 ≤ x.toInt + y.toInt) (h2 : x.toInt + y.toInt < 2147483648) : (x + y).toInt = x.toInt + y.toInt := by
  rw [Int32.toInt_add, fb_bmod h1 h2]
theorem fb_subI {x y : Int32} (h1 : -2147483648 ≤ x.toInt - y.toInt) (h2 : x.toInt - y.toInt < 2147483648) : (x - y).toInt = x.toInt - y.toInt := by
  rw [Int32.toInt_sub, fb_bmod h1 h2]
theorem fb_mulI {x y : Int32} (h1 : -2147483648 ≤ x.toInt * y.toInt) (h2 : x.toInt * y.toInt < 2147483648) : (x * y).toInt = x.toInt * y.toInt := by
  rw [Int32.toInt_mul, fb_bmod h1 h2]
theorem fb_negI {x : Int32} (h : x.toInt ≠ -2147483648) : (-x).toInt = -x.toInt := by
  have := fb_rng x
  rw [Int32.toInt_neg, fb_bmod (by omega) (by omega)]
theorem fb_ofI {z : Int} (h1 : -2147483648 ≤ z) (h2 : z < 2147483648) : (Int32.ofInt z).toInt = z := by
  rw [Int32.toInt_ofInt, fb_bmod h1 h2]
theorem fb_asI (x : Int32) : Int32.ofInt x.toInt = x := Int32.ofInt_toInt x
theorem fb_rngL (x : Int64) : -9223372036854775808 ≤ x.toInt ∧ x.toInt < 9223372036854775808 := by
  have h1 := Int64.le_toInt x
  have h2 := Int64.toInt_lt x
  omega
theorem fb_bmodL {z : Int} (h1 : -9223372036854775808 ≤ z) (h2 : z < 9223372036854775808) : z.bmod (2 ^ 64) = z := by
  rw [Int.bmod_eq_of_le (by omega) (by omega)]
theorem fb_addL {x y : Int64} (h1 : -9223372036854775808 ≤ x.toInt + y.toInt) (h2 : x.toInt + y.toInt < 9223372036854775808) : (x + y).toInt = x.toInt + y.toInt := by
  rw [Int64.toInt_add, fb_bmodL h1 h2]
theorem fb_subL {x y : Int64} (h1 : -9223372036854775808 ≤ x.toInt - y.toInt) (h2 : x.toInt - y.toInt < 9223372036854775808) : (x - y).toInt = x.toInt - y.toInt := by
  rw [Int64.toInt_sub, fb_bmodL h1 h2]
theorem fb_mulL {x y : Int64} (h1 : -9223372036854775808 ≤ x.toInt * y.toInt) (h2 : x.toInt * y.toInt < 9223372036854775808) : (x * y).toInt = x.toInt * y.toInt := by
  rw [Int64.toInt_mul, fb_bmodL h1 h2]
/-! ===== cuts of what is narrow already ===== -/
theorem fb_byte {x : Int32} (h1 : -128 ≤ x.toInt) (h2 : x.toInt < 128) : x.toInt8.toInt32 = x := by
  apply Int32.toInt_inj.1
  rw [Int8.toInt_toInt32, Int32.toInt_toInt8, Int.bmod_eq_of_le (by omega) (by omega)]
theorem fb_short {x : Int32} (h1 : -32768 ≤ x.toInt) (h2 : x.toInt < 32768) : x.toInt16.toInt32 = x := by
  apply Int32.toInt_inj.1
  rw [Int16.toInt_toInt32, Int32.toInt_toInt16, Int.bmod_eq_of_le (by omega) (by omega)]
theorem fb_byte_rng (x : Int32) : -128 ≤ x.toInt8.toInt32.toInt ∧ x.toInt8.toInt32.toInt < 128 := by
  rw [Int8.toInt_toInt32]
  have h1 := Int8.le_toInt x.toInt8
  have h2 := Int8.toInt_lt x.toInt8
  omega
theorem fb_short_rng (x : Int32) : -32768 ≤ x.toInt16.toInt32.toInt ∧ x.toInt16.toInt32.toInt < 32768 := by
  rw [Int16.toInt_toInt32]
  have h1 := Int16.le_toInt x.toInt16
  have h2 := Int16.toInt_lt x.toInt16
  omega
theorem fb_byte_twice (x : Int32) : x.toInt8.toInt32.toInt8.toInt32 = x.toInt8.toInt32 := fb_byte (fb_byte_rng x).1 (fb_byte_rng x).2
theorem fb_short_twice (x : Int32) : x.toInt16.toInt32.toInt16.toInt32 = x.toInt16.toInt32 := fb_short (fb_short_rng x).1 (fb_short_rng x).2
theorem fb_char {n : Nat} (h : n < 65536) : (nI n).toUInt32.toUInt16.toUInt32.toInt32 = nI n := by
  apply Int32.toBitVec_inj.1
  apply BitVec.eq_of_toNat_eq
  have e1 : (nI n).toBitVec.toNat = n := by
    show (BitVec.ofNat 32 n).toNat = n
    rw [BitVec.toNat_ofNat, Nat.mod_eq_of_lt (by omega)]
  have e2 : ((nI n).toUInt32.toUInt16.toUInt32).toNat = n := by
    rw [UInt16.toNat_toUInt32, UInt32.toNat_toUInt16]
    show (nI n).toBitVec.toNat % 2 ^ 16 = n
    rw [e1, Nat.mod_eq_of_lt (by omega)]
  rw [e1]
  exact e2
end
section
/-! numbers and bits, as both sides use them -/
theorem iinc1 (k : Nat) : nI k + Int32.ofInt 1 = nI (k + 1) := nI_1 k
theorem sl32 : ∀ n, n < 32 → ((nI n &&& 31).toBitVec.smod 32).toNat = n := by decide +kernel
theorem sh_1 : ∀ k, k < 31 → (1 : Int32) <<< (nI k &&& 31) = nI (2 ^ k) := by decide +kernel
theorem sh_r {c k : Nat} (hc : c < 2 ^ 31) (hk : k < 32) : nI c >>> (nI k &&& 31) = nI (c / 2 ^ k) := pk_shrN hc _ k (sl32 k hk)
theorem sh_l {c k : Nat} (hk : k < 32) (h : c * 2 ^ k < 2 ^ 32) : nI c <<< (nI k &&& 31) = nI (c * 2 ^ k) := pk_shlN _ k (sl32 k hk) h
theorem tb_div (c k : Nat) : c / 2 ^ k % 2 = (c.testBit k).toNat := by
  rw [Nat.testBit_eq_decide_div_mod_eq]
  rcases Nat.mod_two_eq_zero_or_one (c / 2 ^ k) with h | h <;> simp [h]
theorem bit1 {c k : Nat} (hc : c < 2 ^ 31) (hk : k < 32) : (nI c >>> (nI k &&& 31)) &&& 1 = nI (c.testBit k).toNat := by
  rw [sh_r hc hk, show (1 : Int32) = nI 1 from rfl, fa_and, Nat.and_one_is_mod, tb_div]
theorem bI_nI (b : Bool) : bI b = nI b.toNat := by cases b <;> rfl
theorem bit_1 {c k : Nat} (hc : c < 2 ^ 31) (hk : k < 32) : (nI c >>> (nI k &&& 31)) &&& 1 = bI (c.testBit k) := by rw [bit1 hc hk, bI_nI]
/-- a number by its bits below N -/
def bits : Nat → (Nat → Bool) → Nat
  | 0, _ => 0
  | k + 1, f => bits k f ||| (if f k then 2 ^ k else 0)
theorem bits_lt (f : Nat → Bool) : ∀ N, bits N f < 2 ^ N
  | 0 => by simp [bits]
  | k + 1 => by
    have h := bits_lt f k
    have h2 : 2 ^ k < 2 ^ (k + 1) := Nat.pow_lt_pow_right (by omega) (by omega)
    unfold bits
    apply Nat.or_lt_two_pow
    · omega
    · split
      · exact h2
      · exact Nat.two_pow_pos _
theorem bits_test (f : Nat → Bool) : ∀ N k, (bits N f).testBit k = (decide (k < N) && f k)
  | 0, k => by simp [bits]
  | N + 1, k => by
    unfold bits
    rw [Nat.testBit_or, bits_test f N k]
    by_cases e : k = N
    · subst e
      cases h : f k <;> simp [Nat.testBit_two_pow_self]
    · have h1 : (if f N = true then 2 ^ N else 0).testBit k = false := by
        split
        · exact Nat.testBit_two_pow_of_ne (fun q => e q.symm)
        · simp
      rw [h1, Bool.or_false]
      have h2 : decide (k < N + 1) = decide (k < N) := by
        by_cases q : k < N
        · simp [q, show k < N + 1 by omega]
        · simp [q, show ¬ k < N + 1 by omega]
      rw [h2]
theorem bits_ext {a b N : Nat} (ha : a < 2 ^ N) (hb : b < 2 ^ N) (h : ∀ k, k < N → a.testBit k = b.testBit k) : a = b := by
  apply Nat.eq_of_testBit_eq
  intro k
  by_cases q : k < N
  · exact h k q
  · have p : 2 ^ N ≤ 2 ^ k := Nat.pow_le_pow_right (by omega) (by omega)
    rw [Nat.testBit_lt_two_pow (by omega), Nat.testBit_lt_two_pow (by omega)]
theorem bits_self {c N : Nat} (h : c < 2 ^ N) : bits N c.testBit = c := bits_ext (bits_lt _ N) h (fun k hk => by rw [bits_test]; simp [hk])
theorem bits_congr {f f2 : Nat → Bool} {N : Nat} (h : ∀ k, k < N → f k = f2 k) : bits N f = bits N f2 := bits_ext (bits_lt _ N) (bits_lt _ N) (fun k hk => by rw [bits_test, bits_test, h k hk])
theorem tb_hi {c N k : Nat} (h : c < 2 ^ N) (hk : N ≤ k) : c.testBit k = false := by
  have p : 2 ^ N ≤ 2 ^ k := Nat.pow_le_pow_right (by omega) hk
  exact Nat.testBit_lt_two_pow (by omega)
theorem orb {o k : Nat} (b : Bool) (hk : k < 31) : nI o ||| (bI b <<< (nI k &&& 31)) = nI (o ||| (if b then 2 ^ k else 0)) := by
  cases b
  · rw [show bI false = nI 0 from rfl, sh_l (by omega) (by simp), Nat.zero_mul, fa_or]
    simp
  · rw [show bI true = (1 : Int32) from rfl, sh_1 k hk, fa_or]
    simp
/-- is x one of 0 .. N - 1 -/
def inN (x : Int32) (N : Nat) : Bool := decide (0 ≤ x.toInt ∧ x.toInt < (N : Int))
theorem inN_of {x : Int32} {N : Nat} (h : inN x N = true) : ∃ k, k < N ∧ x = nI k := by
  have h1 := of_decide_eq_true h
  refine ⟨x.toInt.toNat, by omega, ?_⟩
  have h2 := fb_rng x
  rw [fa_eq, nI_toInt (by omega)]
  omega
theorem inN_nI {k N : Nat} (h : k < 2 ^ 31) : inN (nI k) N = decide (k < N) := by
  unfold inN
  rw [nI_toInt h]
  by_cases q : k < N
  · simp [q]
  · simp [q]
theorem inN_no {x : Int32} {N : Nat} (h : inN x N = false) : x.toInt < 0 ∨ (N : Int) ≤ x.toInt := by
  have h1 := of_decide_eq_false h
  omega
theorem inN_yes {x : Int32} {N : Nat} : inN x N = true ↔ 0 ≤ x.toInt ∧ x.toInt < (N : Int) := by simp [inN]
def btw (v a b : Int64) : Bool := decide (a ≤ v ∧ v ≤ b)
theorem btw_in {x : Int32} {b : Int64} {N : Nat} (hb : b.toInt = (N : Int) - 1) : btw x.toInt64 0 b = inN x N := by
  unfold btw inN
  apply decide_eq_decide.mpr
  rw [fa_le64, fa_le64, Int32.toInt_toInt64, hb]
  have h0 : (0 : Int64).toInt = 0 := rfl
  rw [h0]
  omega
theorem btw_ab {x : Int32} {a b : Int64} (A B : Int) (ha : a.toInt = A) (hb : b.toInt = B) : btw x.toInt64 a b = decide (A ≤ x.toInt ∧ x.toInt ≤ B) := by
  unfold btw
  apply decide_eq_decide.mpr
  rw [fa_le64, fa_le64, Int32.toInt_toInt64, ha, hb]
theorem lgc_lt (x y : Int64) : lg_cmp x y < 0 ↔ x < y := by
  unfold lg_cmp
  rw [fa_lt64]
  by_cases h : x > y
  · have h1 := (fa_lt64 y x).mp h
    simp only [h, if_true]
    constructor
    · intro q; exact absurd q (by decide)
    · intro q; omega
  · by_cases h2 : x = y
    · subst h2
      simp
    · have h1 : ¬ y.toInt < x.toInt := fun q => h ((fa_lt64 y x).mpr q)
      have h3 : ¬ x.toInt = y.toInt := fun q => h2 ((fa_eq64 x y).mpr q)
      simp only [h, h2, if_false]
      constructor
      · intro _; omega
      · intro _; decide
theorem lgc_gt (x y : Int64) : 0 < lg_cmp x y ↔ y < x := by
  unfold lg_cmp
  by_cases h : x > y
  · rw [if_pos h]
    exact ⟨fun _ => h, fun _ => by decide⟩
  · rw [if_neg h]
    by_cases h2 : x = y
    · rw [if_pos h2]
      exact ⟨fun q => absurd q (by decide), fun q => absurd q h⟩
    · rw [if_neg h2]
      exact ⟨fun q => absurd q (by decide), fun q => absurd q h⟩
theorem lgc_eq (x y : Int64) : lg_cmp x y = 0 ↔ x = y := by
  unfold lg_cmp
  by_cases h : x > y
  · have h1 : ¬ x = y := fun q => by
      subst q
      have := (fa_lt64 x x).mp h
      omega
    simp only [h, h1, if_true]
    exact ⟨fun q => absurd q (by decide), fun q => q.elim⟩
  · by_cases h2 : x = y
    · subst h2
      simp
    · simp only [h, h2, if_false]
      exact ⟨fun q => absurd q (by decide), fun q => q.elim⟩
theorem nle_lt {a b : Int32} (h : ¬ a ≤ b) : b < a := fa_of_nle h
theorem pow4 {n : Nat} (h : n ≤ 4) : 2 ^ n ≤ 16 := by
  have : 2 ^ n ≤ 2 ^ 4 := Nat.pow_le_pow_right (by omega) h
  omega
theorem pow16 {n : Nat} (h : n ≤ 16) : 2 ^ n ≤ 65536 := by
  have : 2 ^ n ≤ 2 ^ 16 := Nat.pow_le_pow_right (by omega) h
  omega
end
section
section Join
variable {g : GC} {d : Nat} {own : String} {cc : ByteArray} {nL : Nat} {ret : Option FieldType} {Qc : QC} {pc : Nat} {l : List (Option Value)} {st : List Value} {M : MI} {L : ML}
/-- two ways that come together at J with one number more on the stack -/
theorem tm_join1 {x : Int32} (J : Nat) (V : Int32) (k1 : Tm g d own cc nL ret Qc J l (.int V :: st) M L) (k2 : Tm g d own cc nL ret Qc J l (.int V :: st) M L → Tm g d own cc nL ret Qc pc l (.int x :: st) M L) : Tm g d own cc nL ret Qc pc l (.int x :: st) M L := k2 k1
theorem tm_join2 {x y : Int32} (J : Nat) (V : Int32) (k1 : Tm g d own cc nL ret Qc J l (.int V :: st) M L) (k2 : Tm g d own cc nL ret Qc J l (.int V :: st) M L → Tm g d own cc nL ret Qc pc l (.int y :: .int x :: st) M L) : Tm g d own cc nL ret Qc pc l (.int y :: .int x :: st) M L := k2 k1
/-- the same with nothing more on the stack -/
theorem tm_joinV1 {x : Int32} (J : Nat) (M1 : MI) (L1 : ML) (k1 : Tm g d own cc nL ret Qc J l st M1 L1) (k2 : Tm g d own cc nL ret Qc J l st M1 L1 → Tm g d own cc nL ret Qc pc l (.int x :: st) M L) : Tm g d own cc nL ret Qc pc l (.int x :: st) M L := k2 k1
theorem tm_joinV2 {x y : Int32} (J : Nat) (M1 : MI) (L1 : ML) (k1 : Tm g d own cc nL ret Qc J l st M1 L1) (k2 : Tm g d own cc nL ret Qc J l st M1 L1 → Tm g d own cc nL ret Qc pc l (.int y :: .int x :: st) M L) : Tm g d own cc nL ret Qc pc l (.int y :: .int x :: st) M L := k2 k1
theorem tm_top {x V : Int32} (h : V = x) (k : Tm g d own cc nL ret Qc pc l (.int V :: st) M L) : Tm g d own cc nL ret Qc pc l (.int x :: st) M L := h ▸ k
theorem tm_mem {M' : MI} {L' : ML} (h : M = M') (h2 : L = L') (k : Tm g d own cc nL ret Qc pc l st M L) : Tm g d own cc nL ret Qc pc l st M' L' := h ▸ h2 ▸ k
theorem tm_wkr {l' : List (Option Value)} (k : Tm g d own cc nL ret Qc pc l st M L) (hk : wkL l l') : Tm g d own cc nL ret Qc pc l' st M L := tm_wk hk k
end Join
end
section
theorem in_1 {v a b : Int64} (h : lg_cmp v a < 0) : (0 : Int32) = bI (btw v a b) := by
  have h1 := (lgc_lt v a).mp h
  rw [fa_lt64] at h1
  have : btw v a b = false := decide_eq_false (fun q => by have := (fa_le64 a v).mp q.1; omega)
  rw [this]; rfl
theorem in_2 {v a b : Int64} (h : 0 < lg_cmp v b) : (0 : Int32) = bI (btw v a b) := by
  have h1 := (lgc_gt v b).mp h
  rw [fa_lt64] at h1
  have : btw v a b = false := decide_eq_false (fun q => by have := (fa_le64 v b).mp q.2; omega)
  rw [this]; rfl
theorem in_3 {v a b : Int64} (h : ¬ lg_cmp v a < 0) (h2 : ¬ 0 < lg_cmp v b) : (1 : Int32) = bI (btw v a b) := by
  have h1 : ¬ v < a := fun q => h ((lgc_lt v a).mpr q)
  have h3 : ¬ b < v := fun q => h2 ((lgc_gt v b).mpr q)
  rw [fa_lt64] at h1 h3
  have : btw v a b = true := decide_eq_true ⟨(fa_le64 a v).mpr (by omega), (fa_le64 v b).mpr (by omega)⟩
  rw [this]; rfl
set_option maxRecDepth 100000 in
set_option maxHeartbeats 4000000 in
theorem c_X10_in {g : GC} {d : Nat} {M : MI} {L : ML} {v a b : Int64} : CfI g (d) yX10_in cX10_in 6 .boolean [.long v, .long a, .long b] M L (bI (btw v a b)) (M) (L) := by
  refine cfI_of (own := RX10) (l := [some (.long v), none, some (.long a), none, some (.long b), none]) 0 rfl rfl rfl (Nat.le_of_ble_eq_true rfl) ?_
  refine tm_lload_0 1 rfl dX10_in_0 ?_
  refine tm_lload_2 2 rfl dX10_in_1 ?_
  refine tm_lcmp 3 rfl dX10_in_2 ?_
  refine tm_if_lt 17 6 rfl rfl dX10_in_3 (fun h3 => ?_) (fun h3 => ?_)
  · refine tm_iconst (0) rfl 18 rfl dX10_in_17 ?_
    exact tm_zret (by decide) (by first | exact in_1 h3 | exact in_2 h10 | exact in_3 h3 h10) rfl rfl dX10_in_18
  · refine tm_lload_0 7 rfl dX10_in_6 ?_
    refine tm_lload_4 9 rfl dX10_in_7 ?_
    refine tm_lcmp 10 rfl dX10_in_9 ?_
    refine tm_if_gt 17 13 rfl rfl dX10_in_10 (fun h10 => ?_) (fun h10 => ?_)
    · refine tm_iconst (0) rfl 18 rfl dX10_in_17 ?_
      exact tm_zret (by decide) (by first | exact in_1 h3 | exact in_2 h10 | exact in_3 h3 h10) rfl rfl dX10_in_18
    · refine tm_iconst (1) rfl 14 rfl dX10_in_13 ?_
      refine tm_goto 18 rfl dX10_in_14 ?_
      exact tm_zret (by decide) (by first | exact in_1 h3 | exact in_2 h10 | exact in_3 h3 h10) rfl rfl dX10_in_18

set_option maxRecDepth 100000 in
set_option maxHeartbeats 4000000 in
theorem c_X10_lots {g : GC} {d : Nat} {M : MI} {L : ML} {n : Nat} (hn : M 55 0 = nI n) (h4 : n ≤ 4) : CfI g (d) yX10_lots cX10_lots 1 .int [rf g 54] M L (nI (2 ^ n)) (M) (L) := by
  refine cfI_of (own := RX10) (l := [some (rf g 54)]) 0 rfl rfl rfl (Nat.le_of_ble_eq_true rfl) ?_
  refine tm_iconst (1) rfl 1 rfl dX10_lots_0 ?_
  refine tm_aload_0 2 rfl dX10_lots_1 ?_
  refine tm_getr fl_X10_11 rfl rfl 5 rfl dX10_lots_2 ?_
  refine tm_iconst (0) rfl 6 rfl dX10_lots_5 ?_
  refine tm_ald rfl (ix := 0) ⟨by decide, by decide, by decide⟩ 7 rfl dX10_lots_6 ?_
  rw [hn]
  refine tm_ishl 8 rfl dX10_lots_7 ?_
  exact tm_iret (sh_1 n (by omega)) rfl rfl dX10_lots_8

theorem nI_m1 {n : Nat} (h : 1 ≤ n) : nI n - 1 = nI (n - 1) := pk_sub h
set_option maxRecDepth 100000 in
set_option maxHeartbeats 4000000 in
theorem c_X10_most {g : GC} {d : Nat} {M : MI} {L : ML} {n : Nat} (hn : M 55 0 = nI n) (h4 : n ≤ 4) : CfI g (d + 1) yX10_most cX10_most 1 .int [rf g 54] M L (nI (2 ^ 2 ^ n - 1)) (M) (L) := by
  have h16 := pow4 h4
  refine cfI_of (own := RX10) (l := [some (rf g 54)]) 0 rfl rfl rfl (Nat.le_of_ble_eq_true rfl) ?_
  refine tm_iconst (1) rfl 1 rfl dX10_most_0 ?_
  refine tm_aload_0 2 rfl dX10_most_1 ?_
  refine tm_callV_I (ci := 9) (c_X10_lots hn h4) mv_X10_lots ml_X10_56 rfl rfl rfl rfl rfl (Nat.le_of_ble_eq_true rfl) 5 rfl dX10_most_2 ?_
  refine tm_ishl 6 rfl dX10_most_5 ?_
  rw [sh_1 _ (by omega)]
  refine tm_iconst (1) rfl 7 rfl dX10_most_6 ?_
  refine tm_isub 8 rfl dX10_most_7 ?_
  exact tm_iret (nI_m1 (Nat.two_pow_pos _)) rfl rfl dX10_most_8

theorem isL_1 {x : Int32} {N : Nat} (h : 1 ≤ N) (h2 : N < 2 ^ 31) : bI (btw x.toInt64 0 (nI N - 1).toInt64) = bI (inN x N) := by
  rw [nI_m1 h, btw_in (N := N)]
  rw [Int32.toInt_toInt64, nI_toInt (by omega)]
  omega
set_option maxRecDepth 100000 in
set_option maxHeartbeats 4000000 in
theorem c_X10_isLot {g : GC} {d : Nat} {M : MI} {L : ML} {n : Nat} (hn : M 55 0 = nI n) (h4 : n ≤ 4) {x : Int32} : CfI g (d + 1) yX10_isLot cX10_isLot 2 .boolean [rf g 54, .int x] M L (bI (inN x (2 ^ n))) (M) (L) := by
  have h16 := pow4 h4
  have hp := Nat.two_pow_pos n
  refine cfI_of (own := RX10) (l := [some (rf g 54), some (.int x)]) 0 rfl rfl rfl (Nat.le_of_ble_eq_true rfl) ?_
  refine tm_iload_1 1 rfl dX10_isLot_0 ?_
  refine tm_i2l 2 rfl dX10_isLot_1 ?_
  refine tm_lconst 0 rfl 3 rfl dX10_isLot_2 ?_
  refine tm_aload_0 4 rfl dX10_isLot_3 ?_
  refine tm_callV_I (ci := 9) (c_X10_lots hn h4) mv_X10_lots ml_X10_56 rfl rfl rfl rfl rfl (Nat.le_of_ble_eq_true rfl) 7 rfl dX10_isLot_4 ?_
  refine tm_iconst (1) rfl 8 rfl dX10_isLot_7 ?_
  refine tm_isub 9 rfl dX10_isLot_8 ?_
  refine tm_i2l 10 rfl dX10_isLot_9 ?_
  refine tm_callS_I (c_X10_in) ms_X10_in ml_X10_60 rfl rfl (Nat.le_of_ble_eq_true rfl) 13 rfl dX10_isLot_10 ?_
  exact tm_zret (bI_01 _) (isL_1 (by omega) (by omega)) rfl rfl dX10_isLot_13

set_option maxRecDepth 100000 in
set_option maxHeartbeats 4000000 in
theorem c_X10_isVoter {g : GC} {d : Nat} {M : MI} {L : ML} {n : Nat} (hn : M 55 0 = nI n) (h4 : n ≤ 4) (h1 : 1 ≤ n) {x : Int32} : CfI g (d + 1) yX10_isVoter cX10_isVoter 2 .boolean [rf g 54, .int x] M L (bI (inN x n)) (M) (L) := by
  refine cfI_of (own := RX10) (l := [some (rf g 54), some (.int x)]) 0 rfl rfl rfl (Nat.le_of_ble_eq_true rfl) ?_
  refine tm_iload_1 1 rfl dX10_isVoter_0 ?_
  refine tm_i2l 2 rfl dX10_isVoter_1 ?_
  refine tm_lconst 0 rfl 3 rfl dX10_isVoter_2 ?_
  refine tm_aload_0 4 rfl dX10_isVoter_3 ?_
  refine tm_getr fl_X10_11 rfl rfl 7 rfl dX10_isVoter_4 ?_
  refine tm_iconst (0) rfl 8 rfl dX10_isVoter_7 ?_
  refine tm_ald rfl (ix := 0) ⟨by decide, by decide, by decide⟩ 9 rfl dX10_isVoter_8 ?_
  rw [hn]
  refine tm_iconst (1) rfl 10 rfl dX10_isVoter_9 ?_
  refine tm_isub 11 rfl dX10_isVoter_10 ?_
  refine tm_i2l 12 rfl dX10_isVoter_11 ?_
  refine tm_callS_I (c_X10_in) ms_X10_in ml_X10_60 rfl rfl (Nat.le_of_ble_eq_true rfl) 15 rfl dX10_isVoter_12 ?_
  exact tm_zret (bI_01 _) (isL_1 (by omega) (by omega)) rfl rfl dX10_isVoter_15

set_option maxRecDepth 100000 in
set_option maxHeartbeats 4000000 in
theorem c_X10_is {g : GC} {d : Nat} {M : MI} {L : ML} {c k : Nat} (hc : c < 2 ^ 31) (hk : k < 32) : CfI g (d) yX10_is cX10_is 2 .boolean [.int (nI c), .int (nI k)] M L (bI (c.testBit k)) (M) (L) := by
  refine cfI_of (own := RX10) (l := [some (.int (nI c)), some (.int (nI k))]) 0 rfl rfl rfl (Nat.le_of_ble_eq_true rfl) ?_
  refine tm_iload_0 1 rfl dX10_is_0 ?_
  refine tm_iload_1 2 rfl dX10_is_1 ?_
  refine tm_ishr 3 rfl dX10_is_2 ?_
  refine tm_iconst (1) rfl 4 rfl dX10_is_3 ?_
  refine tm_iand 5 rfl dX10_is_4 ?_
  rw [bit_1 hc hk]
  refine tm_iconst (1) rfl 6 rfl dX10_is_5 ?_
  refine tm_icmp_ne 13 9 rfl rfl dX10_is_6 (fun h6 => ?_) (fun h6 => ?_)
  · refine tm_iconst (0) rfl 14 rfl dX10_is_13 ?_
    exact tm_zret (by decide) (by first | (rw [(bI_n1 _).mp h6]; rfl) | (rw [(bI_1 _).mp h6]; rfl)) rfl rfl dX10_is_14
  · refine tm_iconst (1) rfl 10 rfl dX10_is_9 ?_
    refine tm_goto 14 rfl dX10_is_10 ?_
    exact tm_zret (by decide) (by first | (rw [(bI_n1 _).mp h6]; rfl) | (rw [(bI_1 _).mp h6]; rfl)) rfl rfl dX10_is_14

set_option maxRecDepth 100000 in
set_option maxHeartbeats 4000000 in
theorem c_X10_bit {g : GC} {d : Nat} {M : MI} {L : ML} {b : Bool} : CfI g (d) yX10_bit cX10_bit 1 .int [.int (bI b)] M L (bI b) (M) (L) := by
  refine cfI_of (own := RX10) (l := [some (.int (bI b))]) 0 rfl rfl rfl (Nat.le_of_ble_eq_true rfl) ?_
  refine tm_iload_0 1 rfl dX10_bit_0 ?_
  refine tm_if_eq 8 4 rfl rfl dX10_bit_1 (fun h1 => ?_) (fun h1 => ?_)
  · refine tm_iconst (0) rfl 9 rfl dX10_bit_8 ?_
    exact tm_iret (by first | exact h1.symm | (rw [(bI_n0 b).mp h1]; rfl)) rfl rfl dX10_bit_9
  · refine tm_iconst (1) rfl 5 rfl dX10_bit_4 ?_
    refine tm_goto 9 rfl dX10_bit_5 ?_
    exact tm_iret (by first | exact h1.symm | (rw [(bI_n0 b).mp h1]; rfl)) rfl rfl dX10_bit_9

theorem xor16 {a b : Nat} (ha : a < 16) (hb : b < 16) : a ^^^ b < 16 := Nat.xor_lt_two_pow (n := 4) ha hb
theorem p2v {v n : Nat} (hv : v < n) (h4 : n ≤ 4) : 2 ^ v < 16 := by
  have : 2 ^ v ≤ 2 ^ 3 := Nat.pow_le_pow_right (by omega) (by omega)
  omega
def tnd (n c v : Nat) : Nat := bits (2 ^ n) (fun k => c.testBit (k ^^^ 2 ^ v))
set_option maxRecDepth 100000 in
set_option maxHeartbeats 4000000 in
theorem c_X10_turned {g : GC} {d : Nat} {M : MI} {L : ML} {n : Nat} (hn : M 55 0 = nI n) (h4 : n ≤ 4) {c v : Nat} (hc : c < 2 ^ 31) (hv : v < n) : CfI g (d + 1) yX10_turned cX10_turned 5 .int [rf g 54, .int (nI c), .int (nI v)] M L (nI (tnd n c v)) (M) (L) := by
  have h16 := pow4 h4
  have hv2 := p2v hv h4
  refine cfI_of (own := RX10) (l := [some (rf g 54), some (.int (nI c)), some (.int (nI v)), none, none]) 2 rfl rfl rfl (Nat.le_of_ble_eq_true rfl) ?_
  refine tm_iconst (0) rfl 1 rfl dX10_turned_0 ?_
  refine tm_istore_3 (by decide) rfl 2 rfl dX10_turned_1 ?_
  refine tm_iconst (0) rfl 3 rfl dX10_turned_2 ?_
  refine tm_istore_4 (by decide) rfl 5 rfl dX10_turned_3 ?_
  refine tm_loop (N := 2 ^ n) (fun k => Tm g (d + 1) RX10 cX10_turned 5 (some .int) (QI g (nI (tnd n c v)) (M) (L)) 5 [some (rf g 54), some (.int (nI c)), some (.int (nI v)), some (.int (nI (bits k (fun k => c.testBit (k ^^^ 2 ^ v))))), some (.int (nI k))] [] (M) (L)) (fun k hk ih => ?_) ?_
  · refine tm_iload_4 7 rfl dX10_turned_5 ?_
    refine tm_aload_0 8 rfl dX10_turned_7 ?_
    refine tm_callV_I (ci := 9) (c_X10_lots hn h4) mv_X10_lots ml_X10_56 rfl rfl rfl rfl rfl (Nat.le_of_ble_eq_true rfl) 11 rfl dX10_turned_8 ?_
    refine tm_icmp_ge_f 14 (nI_ge hk (by omega)) rfl rfl dX10_turned_11 ?_
    refine tm_iload_3 15 rfl dX10_turned_14 ?_
    refine tm_iload_1 16 rfl dX10_turned_15 ?_
    refine tm_iload_4 18 rfl dX10_turned_16 ?_
    refine tm_iconst (1) rfl 19 rfl dX10_turned_18 ?_
    refine tm_iload_2 20 rfl dX10_turned_19 ?_
    refine tm_ishl 21 rfl dX10_turned_20 ?_
    rw [sh_1 v (by omega)]
    refine tm_ixor 22 rfl dX10_turned_21 ?_
    rw [fb_xorI]
    refine tm_callS_I (c_X10_is hc (k := k ^^^ 2 ^ v) (by have := xor16 (show k < 16 by omega) hv2; omega)) ms_X10_is ml_X10_97 rfl rfl (Nat.le_of_ble_eq_true rfl) 25 rfl dX10_turned_22 ?_
    refine tm_callS_I (c_X10_bit) ms_X10_bit ml_X10_90 rfl rfl (Nat.le_of_ble_eq_true rfl) 28 rfl dX10_turned_25 ?_
    refine tm_iload_4 30 rfl dX10_turned_28 ?_
    refine tm_ishl 31 rfl dX10_turned_30 ?_
    refine tm_ior 32 rfl dX10_turned_31 ?_
    rw [orb _ (by omega)]
    refine tm_istore_3 (by decide) rfl 33 rfl dX10_turned_32 ?_
    refine tm_iinc_4 (nI (k + 1)) (iinc1 k) (by decide) rfl 36 rfl dX10_turned_33 ?_
    refine tm_goto 5 rfl dX10_turned_36 ?_
    exact ih
  · refine tm_iload_4 7 rfl dX10_turned_5 ?_
    refine tm_aload_0 8 rfl dX10_turned_7 ?_
    refine tm_callV_I (ci := 9) (c_X10_lots hn h4) mv_X10_lots ml_X10_56 rfl rfl rfl rfl rfl (Nat.le_of_ble_eq_true rfl) 11 rfl dX10_turned_8 ?_
    refine tm_icmp_ge_t 39 (nI_le (Nat.le_refl _) (by omega)) rfl dX10_turned_11 ?_
    refine tm_iload_3 40 rfl dX10_turned_39 ?_
    exact tm_iret rfl rfl rfl dX10_turned_40
end
section
def dlN (n c : Nat) : Nat := bits (2 ^ n) (fun k => !c.testBit (2 ^ n - 1 - k))
/-- the lot in which voters i and j have changed places -/
def swp (i j k : Nat) : Nat := k ^^^ (if (k.testBit i ^^ k.testBit j) then 2 ^ i ||| 2 ^ j else 0)
def chN (n c i j : Nat) : Nat := bits (2 ^ n) (fun k => c.testBit (swp i j k))
theorem bsh {k : Nat} (b : Bool) (hk : k < 31) : bI b <<< (nI k &&& 31) = nI (if b then 2 ^ k else 0) := by
  cases b
  · rw [show bI false = nI 0 from rfl, sh_l (by omega) (by simp), Nat.zero_mul]; rfl
  · rw [show bI true = (1 : Int32) from rfl, sh_1 k hk]; rfl
theorem xb1 (a b : Nat) : nI (a ^^^ b) &&& 1 = bI (decide (a % 2 = 1) ^^ decide (b % 2 = 1)) := by
  rw [show (1 : Int32) = nI 1 from rfl, fa_and, Nat.and_one_is_mod]
  have h2 : decide ((a ^^^ b) % 2 = 1) = (decide (a % 2 = 1) ^^ decide (b % 2 = 1)) := by
    have h := Nat.testBit_xor a b 0
    simp only [Nat.testBit_zero] at h
    exact h
  rw [← h2, bI_nI]
  rcases Nat.mod_two_eq_zero_or_one (a ^^^ b) with q | q <;> simp [q]
theorem dvb (k i : Nat) : decide (k / 2 ^ i % 2 = 1) = k.testBit i := Nat.testBit_eq_decide_div_mod_eq.symm
theorem swp_1 {k i j : Nat} (hk : k < 2 ^ 31) (hi : i < 31) (hj : j < 31) : ((nI k >>> (nI i &&& 31)) ^^^ (nI k >>> (nI j &&& 31))) &&& 1 = bI (k.testBit i ^^ k.testBit j) := by
  rw [sh_r hk (by omega), sh_r hk (by omega), fb_xorI, xb1, dvb, dvb]
theorem swp_2 {k i j : Nat} (b : Bool) (hi : i < 31) (hj : j < 31) : nI k ^^^ ((bI b <<< (nI i &&& 31)) ||| (bI b <<< (nI j &&& 31))) = nI (k ^^^ (if b then 2 ^ i ||| 2 ^ j else 0)) := by
  rw [bsh b hi, bsh b hj, fa_or, fb_xorI]
  cases b <;> simp
theorem swp_lt {i j k n : Nat} (hk : k < 2 ^ n) (hi : i < n) (hj : j < n) : swp i j k < 2 ^ n := by
  unfold swp
  apply Nat.xor_lt_two_pow hk
  split
  · exact Nat.or_lt_two_pow (Nat.pow_lt_pow_right (by omega) hi) (Nat.pow_lt_pow_right (by omega) hj)
  · exact Nat.two_pow_pos n
theorem dl_1 {a k : Nat} (h : k < a) : nI a - 1 - nI k = nI (a - 1 - k) := by
  rw [nI_m1 (by omega), pk_sub (by omega)]
set_option maxRecDepth 100000 in
set_option maxHeartbeats 4000000 in
theorem c_X10_dual {g : GC} {d : Nat} {M : MI} {L : ML} {n : Nat} (hn : M 55 0 = nI n) (h4 : n ≤ 4) {c : Nat} (hc : c < 2 ^ 31) : CfI g (d + 1) yX10_dual cX10_dual 4 .int [rf g 54, .int (nI c)] M L (nI (dlN n c)) (M) (L) := by
  have h16 := pow4 h4
  have hp1 := Nat.two_pow_pos n
  refine cfI_of (own := RX10) (l := [some (rf g 54), some (.int (nI c)), none, none]) 2 rfl rfl rfl (Nat.le_of_ble_eq_true rfl) ?_
  refine tm_iconst (0) rfl 1 rfl dX10_dual_0 ?_
  refine tm_istore_2 (by decide) rfl 2 rfl dX10_dual_1 ?_
  refine tm_iconst (0) rfl 3 rfl dX10_dual_2 ?_
  refine tm_istore_3 (by decide) rfl 4 rfl dX10_dual_3 ?_
  refine tm_loop (N := 2 ^ n) (fun k => Tm g (d + 1) RX10 cX10_dual 4 (some .int) (QI g (nI (dlN n c)) (M) (L)) 4 [some (rf g 54), some (.int (nI c)), some (.int (nI (bits k (fun k => !c.testBit (2 ^ n - 1 - k))))), some (.int (nI k))] [] (M) (L)) (fun k hk ih => ?_) ?_
  · refine tm_iload_3 5 rfl dX10_dual_4 ?_
    refine tm_aload_0 6 rfl dX10_dual_5 ?_
    refine tm_callV_I (ci := 9) (c_X10_lots hn h4) mv_X10_lots ml_X10_56 rfl rfl rfl rfl rfl (Nat.le_of_ble_eq_true rfl) 9 rfl dX10_dual_6 ?_
    refine tm_icmp_ge_f 12 (nI_ge hk (by omega)) rfl rfl dX10_dual_9 ?_
    refine tm_iload_2 13 rfl dX10_dual_12 ?_
    refine tm_iload_1 14 rfl dX10_dual_13 ?_
    refine tm_aload_0 15 rfl dX10_dual_14 ?_
    refine tm_callV_I (ci := 9) (c_X10_lots hn h4) mv_X10_lots ml_X10_56 rfl rfl rfl rfl rfl (Nat.le_of_ble_eq_true rfl) 18 rfl dX10_dual_15 ?_
    refine tm_iconst (1) rfl 19 rfl dX10_dual_18 ?_
    refine tm_isub 20 rfl dX10_dual_19 ?_
    refine tm_iload_3 21 rfl dX10_dual_20 ?_
    refine tm_isub 22 rfl dX10_dual_21 ?_
    rw [dl_1 hk]
    refine tm_callS_I (c_X10_is hc (k := 2 ^ n - 1 - k) (by omega)) ms_X10_is ml_X10_97 rfl rfl (Nat.le_of_ble_eq_true rfl) 25 rfl dX10_dual_22 ?_
    refine tm_join1 33 (bI (!c.testBit (2 ^ n - 1 - k))) ?_ (fun hJ33 => ?_)
    · refine tm_callS_I (c_X10_bit) ms_X10_bit ml_X10_90 rfl rfl (Nat.le_of_ble_eq_true rfl) 36 rfl dX10_dual_33 ?_
      refine tm_iload_3 37 rfl dX10_dual_36 ?_
      refine tm_ishl 38 rfl dX10_dual_37 ?_
      refine tm_ior 39 rfl dX10_dual_38 ?_
      rw [orb _ (by omega)]
      refine tm_istore_2 (by decide) rfl 40 rfl dX10_dual_39 ?_
      refine tm_iinc_3 (nI (k + 1)) (iinc1 k) (by decide) rfl 43 rfl dX10_dual_40 ?_
      refine tm_goto 4 rfl dX10_dual_43 ?_
      exact ih
    · refine tm_if_neB 32 28 rfl rfl dX10_dual_25 (fun h25 => ?_) (fun h25 => ?_)
      · refine tm_iconst (0) rfl 33 rfl dX10_dual_32 ?_
        exact tm_top (by rw [h25]; rfl) hJ33
      · refine tm_iconst (1) rfl 29 rfl dX10_dual_28 ?_
        refine tm_goto 33 rfl dX10_dual_29 ?_
        exact tm_top (by rw [h25]; rfl) hJ33
  · refine tm_iload_3 5 rfl dX10_dual_4 ?_
    refine tm_aload_0 6 rfl dX10_dual_5 ?_
    refine tm_callV_I (ci := 9) (c_X10_lots hn h4) mv_X10_lots ml_X10_56 rfl rfl rfl rfl rfl (Nat.le_of_ble_eq_true rfl) 9 rfl dX10_dual_6 ?_
    refine tm_icmp_ge_t 46 (nI_le (Nat.le_refl _) (by omega)) rfl dX10_dual_9 ?_
    refine tm_iload_2 47 rfl dX10_dual_46 ?_
    exact tm_iret rfl rfl rfl dX10_dual_47

set_option maxRecDepth 100000 in
set_option maxHeartbeats 4000000 in
theorem c_X10_changed {g : GC} {d : Nat} {M : MI} {L : ML} {n : Nat} (hn : M 55 0 = nI n) (h4 : n ≤ 4) {c i j : Nat} (hc : c < 2 ^ 31) (hi : i < n) (hj : j < n) : CfI g (d + 1) yX10_changed cX10_changed 7 .int [rf g 54, .int (nI c), .int (nI i), .int (nI j)] M L (nI (chN n c i j)) (M) (L) := by
  have h16 := pow4 h4
  have hp1 := Nat.two_pow_pos n
  refine cfI_of (own := RX10) (l := [some (rf g 54), some (.int (nI c)), some (.int (nI i)), some (.int (nI j)), none, none, none]) 3 rfl rfl rfl (Nat.le_of_ble_eq_true rfl) ?_
  refine tm_iconst (0) rfl 1 rfl dX10_changed_0 ?_
  refine tm_istore_4 (by decide) rfl 3 rfl dX10_changed_1 ?_
  refine tm_iconst (0) rfl 4 rfl dX10_changed_3 ?_
  refine tm_istore_5 (by decide) rfl 6 rfl dX10_changed_4 ?_
  refine tm_loop (N := 2 ^ n) (fun k => Tm g (d + 1) RX10 cX10_changed 7 (some .int) (QI g (nI (chN n c i j)) (M) (L)) 6 [some (rf g 54), some (.int (nI c)), some (.int (nI i)), some (.int (nI j)), some (.int (nI (bits k (fun k => c.testBit (swp i j k))))), some (.int (nI k)), none] [] (M) (L)) (fun k hk ih => ?_) ?_
  · refine tm_iload_5 8 rfl dX10_changed_6 ?_
    refine tm_aload_0 9 rfl dX10_changed_8 ?_
    refine tm_callV_I (ci := 9) (c_X10_lots hn h4) mv_X10_lots ml_X10_56 rfl rfl rfl rfl rfl (Nat.le_of_ble_eq_true rfl) 12 rfl dX10_changed_9 ?_
    refine tm_icmp_ge_f 15 (nI_ge hk (by omega)) rfl rfl dX10_changed_12 ?_
    refine tm_iload_5 17 rfl dX10_changed_15 ?_
    refine tm_iload_2 18 rfl dX10_changed_17 ?_
    refine tm_ishr 19 rfl dX10_changed_18 ?_
    refine tm_iload_5 21 rfl dX10_changed_19 ?_
    refine tm_iload_3 22 rfl dX10_changed_21 ?_
    refine tm_ishr 23 rfl dX10_changed_22 ?_
    refine tm_ixor 24 rfl dX10_changed_23 ?_
    refine tm_iconst (1) rfl 25 rfl dX10_changed_24 ?_
    refine tm_iand 26 rfl dX10_changed_25 ?_
    rw [swp_1 (by omega) (by omega) (by omega)]
    refine tm_istore_6 (by decide) rfl 28 rfl dX10_changed_26 ?_
    refine tm_iload_4 30 rfl dX10_changed_28 ?_
    refine tm_iload_1 31 rfl dX10_changed_30 ?_
    refine tm_iload_5 33 rfl dX10_changed_31 ?_
    refine tm_iload_6 35 rfl dX10_changed_33 ?_
    refine tm_iload_2 36 rfl dX10_changed_35 ?_
    refine tm_ishl 37 rfl dX10_changed_36 ?_
    refine tm_iload_6 39 rfl dX10_changed_37 ?_
    refine tm_iload_3 40 rfl dX10_changed_39 ?_
    refine tm_ishl 41 rfl dX10_changed_40 ?_
    refine tm_ior 42 rfl dX10_changed_41 ?_
    refine tm_ixor 43 rfl dX10_changed_42 ?_
    rw [swp_2 _ (by omega) (by omega)]
    refine tm_callS_I (c_X10_is hc (k := swp i j k) (by have := swp_lt hk hi hj; omega)) ms_X10_is ml_X10_97 rfl rfl (Nat.le_of_ble_eq_true rfl) 46 rfl dX10_changed_43 ?_
    refine tm_callS_I (c_X10_bit) ms_X10_bit ml_X10_90 rfl rfl (Nat.le_of_ble_eq_true rfl) 49 rfl dX10_changed_46 ?_
    refine tm_iload_5 51 rfl dX10_changed_49 ?_
    refine tm_ishl 52 rfl dX10_changed_51 ?_
    refine tm_ior 53 rfl dX10_changed_52 ?_
    rw [orb _ (by omega)]
    refine tm_istore_4 (by decide) rfl 55 rfl dX10_changed_53 ?_
    refine tm_iinc_5 (nI (k + 1)) (iinc1 k) (by decide) rfl 58 rfl dX10_changed_55 ?_
    refine tm_goto 6 rfl dX10_changed_58 ?_
    exact tm_wkr ih (And.intro rfl (And.intro rfl (And.intro rfl (And.intro rfl (And.intro rfl (And.intro rfl trivial))))))
  · refine tm_iload_5 8 rfl dX10_changed_6 ?_
    refine tm_aload_0 9 rfl dX10_changed_8 ?_
    refine tm_callV_I (ci := 9) (c_X10_lots hn h4) mv_X10_lots ml_X10_56 rfl rfl rfl rfl rfl (Nat.le_of_ble_eq_true rfl) 12 rfl dX10_changed_9 ?_
    refine tm_icmp_ge_t 61 (nI_le (Nat.le_refl _) (by omega)) rfl dX10_changed_12 ?_
    refine tm_iload_4 63 rfl dX10_changed_61 ?_
    exact tm_iret rfl rfl rfl dX10_changed_63

/-- the worth of lot k by the first so many weights -/
def wth (w : Nat → Int32) (k : Nat) : Nat → Int32
  | 0 => 0
  | v + 1 => wth w k v + bI (k.testBit v) * w v
set_option maxRecDepth 100000 in
set_option maxHeartbeats 4000000 in
theorem c_X10_worth {g : GC} {d : Nat} {M : MI} {L : ML} {n : Nat} (hn : M 55 0 = nI n) (h4 : n ≤ 4) {k : Nat} (hk : k < 2 ^ 31) : CfI g (d) yX10_worth cX10_worth 4 .int [rf g 54, .int (nI k)] M L (wth (fun v => M 55 (4 + v)) k n) (M) (L) := by
  refine cfI_of (own := RX10) (l := [some (rf g 54), some (.int (nI k)), none, none]) 2 rfl rfl rfl (Nat.le_of_ble_eq_true rfl) ?_
  refine tm_iconst (0) rfl 1 rfl dX10_worth_0 ?_
  refine tm_istore_2 (by decide) rfl 2 rfl dX10_worth_1 ?_
  refine tm_iconst (0) rfl 3 rfl dX10_worth_2 ?_
  refine tm_istore_3 (by decide) rfl 4 rfl dX10_worth_3 ?_
  refine tm_loop (N := n) (fun v => Tm g (d) RX10 cX10_worth 4 (some .int) (QI g (wth (fun v => M 55 (4 + v)) k n) (M) (L)) 4 [some (rf g 54), some (.int (nI k)), some (.int (wth (fun v => M 55 (4 + v)) k v)), some (.int (nI v))] [] (M) (L)) (fun v hv ih => ?_) ?_
  · refine tm_iload_3 5 rfl dX10_worth_4 ?_
    refine tm_aload_0 6 rfl dX10_worth_5 ?_
    refine tm_getr fl_X10_11 rfl rfl 9 rfl dX10_worth_6 ?_
    refine tm_iconst (0) rfl 10 rfl dX10_worth_9 ?_
    refine tm_ald rfl (ix := 0) ⟨by decide, by decide, by decide⟩ 11 rfl dX10_worth_10 ?_
    rw [hn]
    refine tm_icmp_ge_f 14 (nI_ge hv (by omega)) rfl rfl dX10_worth_11 ?_
    refine tm_iload_2 15 rfl dX10_worth_14 ?_
    refine tm_iload_1 16 rfl dX10_worth_15 ?_
    refine tm_iload_3 17 rfl dX10_worth_16 ?_
    refine tm_ishr 18 rfl dX10_worth_17 ?_
    refine tm_iconst (1) rfl 19 rfl dX10_worth_18 ?_
    refine tm_iand 20 rfl dX10_worth_19 ?_
    rw [bit_1 hk (by omega)]
    refine tm_aload_0 21 rfl dX10_worth_20 ?_
    refine tm_getr fl_X10_11 rfl rfl 24 rfl dX10_worth_21 ?_
    refine tm_iconst (4) rfl 25 rfl dX10_worth_24 ?_
    refine tm_iload_3 26 rfl dX10_worth_25 ?_
    refine tm_iadd 27 rfl dX10_worth_26 ?_
    rw [show (4 : Int32) = nI 4 from rfl, nI_add]
    refine tm_ald rfl (ix := 4 + v) (ix_nI (by omega) (by decide)) 28 rfl dX10_worth_27 ?_
    refine tm_imul 29 rfl dX10_worth_28 ?_
    refine tm_iadd 30 rfl dX10_worth_29 ?_
    refine tm_istore_2 (by decide) rfl 31 rfl dX10_worth_30 ?_
    refine tm_iinc_3 (nI (v + 1)) (iinc1 v) (by decide) rfl 34 rfl dX10_worth_31 ?_
    refine tm_goto 4 rfl dX10_worth_34 ?_
    exact ih
  · refine tm_iload_3 5 rfl dX10_worth_4 ?_
    refine tm_aload_0 6 rfl dX10_worth_5 ?_
    refine tm_getr fl_X10_11 rfl rfl 9 rfl dX10_worth_6 ?_
    refine tm_iconst (0) rfl 10 rfl dX10_worth_9 ?_
    refine tm_ald rfl (ix := 0) ⟨by decide, by decide, by decide⟩ 11 rfl dX10_worth_10 ?_
    rw [hn]
    refine tm_icmp_ge_t 37 (nI_le (Nat.le_refl _) (by omega)) rfl dX10_worth_11 ?_
    refine tm_iload_2 38 rfl dX10_worth_37 ?_
    exact tm_iret rfl rfl rfl dX10_worth_38

def wgN (n : Nat) (w : Nat → Int32) (q : Int32) : Nat := bits (2 ^ n) (fun k => decide (q ≤ wth w k n))
set_option maxRecDepth 100000 in
set_option maxHeartbeats 4000000 in
theorem c_X10_weighed {g : GC} {d : Nat} {M : MI} {L : ML} {n : Nat} (hn : M 55 0 = nI n) (h4 : n ≤ 4) : CfI g (d + 1) yX10_weighed cX10_weighed 3 .int [rf g 54] M L (nI (wgN n (fun v => M 55 (4 + v)) (M 55 3))) (M) (L) := by
  have h16 := pow4 h4
  have hp1 := Nat.two_pow_pos n
  refine cfI_of (own := RX10) (l := [some (rf g 54), none, none]) 2 rfl rfl rfl (Nat.le_of_ble_eq_true rfl) ?_
  refine tm_iconst (0) rfl 1 rfl dX10_weighed_0 ?_
  refine tm_istore_1 (by decide) rfl 2 rfl dX10_weighed_1 ?_
  refine tm_iconst (0) rfl 3 rfl dX10_weighed_2 ?_
  refine tm_istore_2 (by decide) rfl 4 rfl dX10_weighed_3 ?_
  refine tm_loop (N := 2 ^ n) (fun k => Tm g (d + 1) RX10 cX10_weighed 3 (some .int) (QI g (nI (wgN n (fun v => M 55 (4 + v)) (M 55 3))) (M) (L)) 4 [some (rf g 54), some (.int (nI (bits k (fun k => decide (M 55 3 ≤ wth (fun v => M 55 (4 + v)) k n))))), some (.int (nI k))] [] (M) (L)) (fun k hk ih => ?_) ?_
  · refine tm_iload_2 5 rfl dX10_weighed_4 ?_
    refine tm_aload_0 6 rfl dX10_weighed_5 ?_
    refine tm_callV_I (ci := 9) (c_X10_lots hn h4) mv_X10_lots ml_X10_56 rfl rfl rfl rfl rfl (Nat.le_of_ble_eq_true rfl) 9 rfl dX10_weighed_6 ?_
    refine tm_icmp_ge_f 12 (nI_ge hk (by omega)) rfl rfl dX10_weighed_9 ?_
    refine tm_iload_1 13 rfl dX10_weighed_12 ?_
    refine tm_aload_0 14 rfl dX10_weighed_13 ?_
    refine tm_iload_2 15 rfl dX10_weighed_14 ?_
    refine tm_callV_I (ci := 9) (c_X10_worth hn h4 (k := k) (by omega)) mv_X10_worth ml_X10_86 rfl rfl rfl rfl rfl (Nat.le_of_ble_eq_true rfl) 18 rfl dX10_weighed_15 ?_
    refine tm_aload_0 19 rfl dX10_weighed_18 ?_
    refine tm_getr fl_X10_11 rfl rfl 22 rfl dX10_weighed_19 ?_
    refine tm_iconst (3) rfl 23 rfl dX10_weighed_22 ?_
    refine tm_ald rfl (ix := 3) ⟨by decide, by decide, by decide⟩ 24 rfl dX10_weighed_23 ?_
    refine tm_join2 32 (bI (decide (M 55 3 ≤ wth (fun v => M 55 (4 + v)) k n))) ?_ (fun hJ32 => ?_)
    · refine tm_callS_I (c_X10_bit) ms_X10_bit ml_X10_90 rfl rfl (Nat.le_of_ble_eq_true rfl) 35 rfl dX10_weighed_32 ?_
      refine tm_iload_2 36 rfl dX10_weighed_35 ?_
      refine tm_ishl 37 rfl dX10_weighed_36 ?_
      refine tm_ior 38 rfl dX10_weighed_37 ?_
      rw [orb _ (by omega)]
      refine tm_istore_1 (by decide) rfl 39 rfl dX10_weighed_38 ?_
      refine tm_iinc_2 (nI (k + 1)) (iinc1 k) (by decide) rfl 42 rfl dX10_weighed_39 ?_
      refine tm_goto 4 rfl dX10_weighed_42 ?_
      exact ih
    · refine tm_icmp_lt 31 27 rfl rfl dX10_weighed_24 (fun h24 => ?_) (fun h24 => ?_)
      · refine tm_iconst (0) rfl 32 rfl dX10_weighed_31 ?_
        exact tm_top (by first | (rw [decide_eq_true (fa_of_nlt h24)]; rfl) | (rw [decide_eq_false (fa_of_lt h24).2.1]; rfl)) hJ32
      · refine tm_iconst (1) rfl 28 rfl dX10_weighed_27 ?_
        refine tm_goto 32 rfl dX10_weighed_28 ?_
        exact tm_top (by first | (rw [decide_eq_true (fa_of_nlt h24)]; rfl) | (rw [decide_eq_false (fa_of_lt h24).2.1]; rfl)) hJ32
  · refine tm_iload_2 5 rfl dX10_weighed_4 ?_
    refine tm_aload_0 6 rfl dX10_weighed_5 ?_
    refine tm_callV_I (ci := 9) (c_X10_lots hn h4) mv_X10_lots ml_X10_56 rfl rfl rfl rfl rfl (Nat.le_of_ble_eq_true rfl) 9 rfl dX10_weighed_6 ?_
    refine tm_icmp_ge_t 45 (nI_le (Nat.le_refl _) (by omega)) rfl dX10_weighed_9 ?_
    refine tm_iload_1 46 rfl dX10_weighed_45 ?_
    exact tm_iret rfl rfl rfl dX10_weighed_46

set_option maxRecDepth 100000 in
set_option maxHeartbeats 4000000 in
theorem c_X10_worthBy {g : GC} {d : Nat} {M : MI} {L : ML} {n : Nat} (hn : M 55 0 = nI n) (h4 : n ≤ 4) {j k : Nat} (hj : shp j = some (.inr (0, 4, []))) (hk : k < 2 ^ 31) : CfI g (d) yX10_worthBy cX10_worthBy 5 .int [rf g 54, rf g j, .int (nI k)] M L (wth (M j) k n) (M) (L) := by
  refine cfI_of (own := RX10) (l := [some (rf g 54), some (rf g j), some (.int (nI k)), none, none]) 2 rfl rfl rfl (Nat.le_of_ble_eq_true rfl) ?_
  refine tm_iconst (0) rfl 1 rfl dX10_worthBy_0 ?_
  refine tm_istore_3 (by decide) rfl 2 rfl dX10_worthBy_1 ?_
  refine tm_iconst (0) rfl 3 rfl dX10_worthBy_2 ?_
  refine tm_istore_4 (by decide) rfl 5 rfl dX10_worthBy_3 ?_
  refine tm_loop (N := n) (fun v => Tm g (d) RX10 cX10_worthBy 5 (some .int) (QI g (wth (M j) k n) (M) (L)) 5 [some (rf g 54), some (rf g j), some (.int (nI k)), some (.int (wth (M j) k v)), some (.int (nI v))] [] (M) (L)) (fun v hv ih => ?_) ?_
  · refine tm_iload_4 7 rfl dX10_worthBy_5 ?_
    refine tm_aload_0 8 rfl dX10_worthBy_7 ?_
    refine tm_getr fl_X10_11 rfl rfl 11 rfl dX10_worthBy_8 ?_
    refine tm_iconst (0) rfl 12 rfl dX10_worthBy_11 ?_
    refine tm_ald rfl (ix := 0) ⟨by decide, by decide, by decide⟩ 13 rfl dX10_worthBy_12 ?_
    rw [hn]
    refine tm_icmp_ge_f 16 (nI_ge hv (by omega)) rfl rfl dX10_worthBy_13 ?_
    refine tm_iload_3 17 rfl dX10_worthBy_16 ?_
    refine tm_iload_2 18 rfl dX10_worthBy_17 ?_
    refine tm_iload_4 20 rfl dX10_worthBy_18 ?_
    refine tm_ishr 21 rfl dX10_worthBy_20 ?_
    refine tm_iconst (1) rfl 22 rfl dX10_worthBy_21 ?_
    refine tm_iand 23 rfl dX10_worthBy_22 ?_
    rw [bit_1 hk (by omega)]
    refine tm_aload_1 24 rfl dX10_worthBy_23 ?_
    refine tm_iload_4 26 rfl dX10_worthBy_24 ?_
    refine tm_ald hj (ix := v) (ix_nI (by omega) (by decide)) 27 rfl dX10_worthBy_26 ?_
    refine tm_imul 28 rfl dX10_worthBy_27 ?_
    refine tm_iadd 29 rfl dX10_worthBy_28 ?_
    refine tm_istore_3 (by decide) rfl 30 rfl dX10_worthBy_29 ?_
    refine tm_iinc_4 (nI (v + 1)) (iinc1 v) (by decide) rfl 33 rfl dX10_worthBy_30 ?_
    refine tm_goto 5 rfl dX10_worthBy_33 ?_
    exact ih
  · refine tm_iload_4 7 rfl dX10_worthBy_5 ?_
    refine tm_aload_0 8 rfl dX10_worthBy_7 ?_
    refine tm_getr fl_X10_11 rfl rfl 11 rfl dX10_worthBy_8 ?_
    refine tm_iconst (0) rfl 12 rfl dX10_worthBy_11 ?_
    refine tm_ald rfl (ix := 0) ⟨by decide, by decide, by decide⟩ 13 rfl dX10_worthBy_12 ?_
    rw [hn]
    refine tm_icmp_ge_t 36 (nI_le (Nat.le_refl _) (by omega)) rfl dX10_worthBy_13 ?_
    refine tm_iload_3 37 rfl dX10_worthBy_36 ?_
    exact tm_iret rfl rfl rfl dX10_worthBy_37

/-- the least worth of a lot below k that is yes (from a), the greatest of one that is no (from b) -/
def lsF (p : Nat → Bool) (wt : Nat → Int32) (a : Int32) : Nat → Int32
  | 0 => a
  | k + 1 => if p k = true ∧ wt k < lsF p wt a k then wt k else lsF p wt a k
def gtF (p : Nat → Bool) (wt : Nat → Int32) (a : Int32) : Nat → Int32
  | 0 => a
  | k + 1 => if p k = true ∧ gtF p wt a k < wt k then wt k else gtF p wt a k
set_option maxRecDepth 100000 in
set_option maxHeartbeats 4000000 in
theorem c_X10_tells {g : GC} {d : Nat} {M : MI} {L : ML} {n : Nat} (hn : M 55 0 = nI n) (h4 : n ≤ 4) {c : Nat} (hc : c < 2 ^ 31) : CfI g (d + 1) yX10_tells cX10_tells 6 .boolean [rf g 54, .int (nI c)] M L (bI (decide (gtF (fun k => !c.testBit k) (fun k => wth (M 57) k n) (-99) (2 ^ n) < lsF c.testBit (fun k => wth (M 57) k n) 99 (2 ^ n)))) (M) (L) := by
  have h16 := pow4 h4
  have hp1 := Nat.two_pow_pos n
  refine cfI_of (own := RX10) (l := [some (rf g 54), some (.int (nI c)), none, none, none, none]) 4 rfl rfl rfl (Nat.le_of_ble_eq_true rfl) ?_
  refine tm_bipush (99) (by decide) 2 rfl dX10_tells_0 ?_
  refine tm_istore_2 (by decide) rfl 3 rfl dX10_tells_2 ?_
  refine tm_bipush (-99) (by decide) 5 rfl dX10_tells_3 ?_
  refine tm_istore_3 (by decide) rfl 6 rfl dX10_tells_5 ?_
  refine tm_iconst (0) rfl 7 rfl dX10_tells_6 ?_
  refine tm_istore_4 (by decide) rfl 9 rfl dX10_tells_7 ?_
  refine tm_loop (N := 2 ^ n) (fun k => Tm g (d + 1) RX10 cX10_tells 6 (some .boolean) (QI g (bI (decide (gtF (fun k => !c.testBit k) (fun k => wth (M 57) k n) (-99) (2 ^ n) < lsF c.testBit (fun k => wth (M 57) k n) 99 (2 ^ n)))) (M) (L)) 9 [some (rf g 54), some (.int (nI c)), some (.int (lsF c.testBit (fun k => wth (M 57) k n) 99 k)), some (.int (gtF (fun k => !c.testBit k) (fun k => wth (M 57) k n) (-99) k)), some (.int (nI k)), none] [] (M) (L)) (fun k hk ih => ?_) ?_
  · refine tm_iload_4 11 rfl dX10_tells_9 ?_
    refine tm_aload_0 12 rfl dX10_tells_11 ?_
    refine tm_callV_I (ci := 9) (c_X10_lots hn h4) mv_X10_lots ml_X10_56 rfl rfl rfl rfl rfl (Nat.le_of_ble_eq_true rfl) 15 rfl dX10_tells_12 ?_
    refine tm_icmp_ge_f 18 (nI_ge hk (by omega)) rfl rfl dX10_tells_15 ?_
    refine tm_aload_0 19 rfl dX10_tells_18 ?_
    refine tm_aload_0 20 rfl dX10_tells_19 ?_
    refine tm_getr fl_X10_18 rfl rfl 23 rfl dX10_tells_20 ?_
    refine tm_iload_4 25 rfl dX10_tells_23 ?_
    refine tm_callV_I (ci := 9) (c_X10_worthBy hn h4 (j := 57) (k := k) rfl (by omega)) mv_X10_worthBy ml_X10_118 rfl rfl rfl rfl rfl (Nat.le_of_ble_eq_true rfl) 28 rfl dX10_tells_25 ?_
    refine tm_istore_5 (by decide) rfl 30 rfl dX10_tells_28 ?_
    refine tm_iload_1 31 rfl dX10_tells_30 ?_
    refine tm_iload_4 33 rfl dX10_tells_31 ?_
    refine tm_callS_I (c_X10_is hc (k := k) (by omega)) ms_X10_is ml_X10_97 rfl rfl (Nat.le_of_ble_eq_true rfl) 36 rfl dX10_tells_33 ?_
    refine tm_join1 51 (lsF c.testBit (fun k => wth (M 57) k n) 99 (k + 1)) ?_ (fun hJ51 => ?_)
    · refine tm_istore_2 (by decide) rfl 52 rfl dX10_tells_51 ?_
      refine tm_iload_1 53 rfl dX10_tells_52 ?_
      refine tm_iload_4 55 rfl dX10_tells_53 ?_
      refine tm_callS_I (c_X10_is hc (k := k) (by omega)) ms_X10_is ml_X10_97 rfl rfl (Nat.le_of_ble_eq_true rfl) 58 rfl dX10_tells_55 ?_
      refine tm_join1 73 (gtF (fun k => !c.testBit k) (fun k => wth (M 57) k n) (-99) (k + 1)) ?_ (fun hJ73 => ?_)
      · refine tm_istore_3 (by decide) rfl 74 rfl dX10_tells_73 ?_
        refine tm_iinc_4 (nI (k + 1)) (iinc1 k) (by decide) rfl 77 rfl dX10_tells_74 ?_
        refine tm_goto 9 rfl dX10_tells_77 ?_
        exact tm_wkr ih (And.intro rfl (And.intro rfl (And.intro rfl (And.intro rfl (And.intro rfl trivial)))))
      · refine tm_if_neB 72 61 rfl rfl dX10_tells_58 (fun h58 => ?_) (fun h58 => ?_)
        · refine tm_iload_3 73 rfl dX10_tells_72 ?_
          exact tm_top (by first | exact if_pos ⟨by simp [h58], nle_lt h64⟩ | exact if_neg (fun q => (fa_of_lt q.2).2.1 h64) | exact if_neg (fun q => by have := q.1; simp [h58] at this)) hJ73
        · refine tm_iload_5 63 rfl dX10_tells_61 ?_
          refine tm_iload_3 64 rfl dX10_tells_63 ?_
          refine tm_icmp_le 72 67 rfl rfl dX10_tells_64 (fun h64 => ?_) (fun h64 => ?_)
          · refine tm_iload_3 73 rfl dX10_tells_72 ?_
            exact tm_top (by first | exact if_pos ⟨by simp [h58], nle_lt h64⟩ | exact if_neg (fun q => (fa_of_lt q.2).2.1 h64) | exact if_neg (fun q => by have := q.1; simp [h58] at this)) hJ73
          · refine tm_iload_5 69 rfl dX10_tells_67 ?_
            refine tm_goto 73 rfl dX10_tells_69 ?_
            exact tm_top (by first | exact if_pos ⟨by simp [h58], nle_lt h64⟩ | exact if_neg (fun q => (fa_of_lt q.2).2.1 h64) | exact if_neg (fun q => by have := q.1; simp [h58] at this)) hJ73
    · refine tm_if_eqB 50 39 rfl rfl dX10_tells_36 (fun h36 => ?_) (fun h36 => ?_)
      · refine tm_iload_2 51 rfl dX10_tells_50 ?_
        exact tm_top (by first | exact if_pos ⟨h36, nle_lt h42⟩ | exact if_neg (fun q => (fa_of_lt q.2).2.1 h42) | exact if_neg (fun q => by rw [h36] at q; exact absurd q.1 (by decide))) hJ51
      · refine tm_iload_5 41 rfl dX10_tells_39 ?_
        refine tm_iload_2 42 rfl dX10_tells_41 ?_
        refine tm_icmp_ge 50 45 rfl rfl dX10_tells_42 (fun h42 => ?_) (fun h42 => ?_)
        · refine tm_iload_2 51 rfl dX10_tells_50 ?_
          exact tm_top (by first | exact if_pos ⟨h36, nle_lt h42⟩ | exact if_neg (fun q => (fa_of_lt q.2).2.1 h42) | exact if_neg (fun q => by rw [h36] at q; exact absurd q.1 (by decide))) hJ51
        · refine tm_iload_5 47 rfl dX10_tells_45 ?_
          refine tm_goto 51 rfl dX10_tells_47 ?_
          exact tm_top (by first | exact if_pos ⟨h36, nle_lt h42⟩ | exact if_neg (fun q => (fa_of_lt q.2).2.1 h42) | exact if_neg (fun q => by rw [h36] at q; exact absurd q.1 (by decide))) hJ51
  · refine tm_iload_4 11 rfl dX10_tells_9 ?_
    refine tm_aload_0 12 rfl dX10_tells_11 ?_
    refine tm_callV_I (ci := 9) (c_X10_lots hn h4) mv_X10_lots ml_X10_56 rfl rfl rfl rfl rfl (Nat.le_of_ble_eq_true rfl) 15 rfl dX10_tells_12 ?_
    refine tm_icmp_ge_t 80 (nI_le (Nat.le_refl _) (by omega)) rfl dX10_tells_15 ?_
    refine tm_iload_2 81 rfl dX10_tells_80 ?_
    refine tm_iload_3 82 rfl dX10_tells_81 ?_
    refine tm_icmp_le 89 85 rfl rfl dX10_tells_82 (fun h82 => ?_) (fun h82 => ?_)
    · refine tm_iconst (0) rfl 90 rfl dX10_tells_89 ?_
      exact tm_zret (by decide) (by first | (rw [decide_eq_false (fun q => (fa_of_lt q).2.1 h82)]; rfl) | (rw [decide_eq_true (fa_of_nle h82)]; rfl)) rfl rfl dX10_tells_90
    · refine tm_iconst (1) rfl 86 rfl dX10_tells_85 ?_
      refine tm_goto 90 rfl dX10_tells_86 ?_
      exact tm_zret (by decide) (by first | (rw [decide_eq_false (fun q => (fa_of_lt q).2.1 h82)]; rfl) | (rw [decide_eq_true (fa_of_nle h82)]; rfl)) rfl rfl dX10_tells_90

set_option maxRecDepth 100000 in
set_option maxHeartbeats 4000000 in
theorem c_X10_leastQuota {g : GC} {d : Nat} {M : MI} {L : ML} {n : Nat} (hn : M 55 0 = nI n) (h4 : n ≤ 4) {c : Nat} (hc : c < 2 ^ 31) : CfI g (d + 1) yX10_leastQuota cX10_leastQuota 6 .int [rf g 54, .int (nI c)] M L (if c = 0 then gtF (fun _ => true) (fun k => wth (M 58) k n) (-99) (2 ^ n) + 1 else lsF c.testBit (fun k => wth (M 58) k n) 99 (2 ^ n)) (M) (L) := by
  have h16 := pow4 h4
  have hp1 := Nat.two_pow_pos n
  refine cfI_of (own := RX10) (l := [some (rf g 54), some (.int (nI c)), none, none, none, none]) 4 rfl rfl rfl (Nat.le_of_ble_eq_true rfl) ?_
  refine tm_bipush (99) (by decide) 2 rfl dX10_leastQuota_0 ?_
  refine tm_istore_2 (by decide) rfl 3 rfl dX10_leastQuota_2 ?_
  refine tm_bipush (-99) (by decide) 5 rfl dX10_leastQuota_3 ?_
  refine tm_istore_3 (by decide) rfl 6 rfl dX10_leastQuota_5 ?_
  refine tm_iconst (0) rfl 7 rfl dX10_leastQuota_6 ?_
  refine tm_istore_4 (by decide) rfl 9 rfl dX10_leastQuota_7 ?_
  refine tm_loop (N := 2 ^ n) (fun k => Tm g (d + 1) RX10 cX10_leastQuota 6 (some .int) (QI g (if c = 0 then gtF (fun _ => true) (fun k => wth (M 58) k n) (-99) (2 ^ n) + 1 else lsF c.testBit (fun k => wth (M 58) k n) 99 (2 ^ n)) (M) (L)) 9 [some (rf g 54), some (.int (nI c)), some (.int (lsF c.testBit (fun k => wth (M 58) k n) 99 k)), some (.int (gtF (fun _ => true) (fun k => wth (M 58) k n) (-99) k)), some (.int (nI k)), none] [] (M) (L)) (fun k hk ih => ?_) ?_
  · refine tm_iload_4 11 rfl dX10_leastQuota_9 ?_
    refine tm_aload_0 12 rfl dX10_leastQuota_11 ?_
    refine tm_callV_I (ci := 9) (c_X10_lots hn h4) mv_X10_lots ml_X10_56 rfl rfl rfl rfl rfl (Nat.le_of_ble_eq_true rfl) 15 rfl dX10_leastQuota_12 ?_
    refine tm_icmp_ge_f 18 (nI_ge hk (by omega)) rfl rfl dX10_leastQuota_15 ?_
    refine tm_aload_0 19 rfl dX10_leastQuota_18 ?_
    refine tm_aload_0 20 rfl dX10_leastQuota_19 ?_
    refine tm_getr fl_X10_21 rfl rfl 23 rfl dX10_leastQuota_20 ?_
    refine tm_iload_4 25 rfl dX10_leastQuota_23 ?_
    refine tm_callV_I (ci := 9) (c_X10_worthBy hn h4 (j := 58) (k := k) rfl (by omega)) mv_X10_worthBy ml_X10_118 rfl rfl rfl rfl rfl (Nat.le_of_ble_eq_true rfl) 28 rfl dX10_leastQuota_25 ?_
    refine tm_istore_5 (by decide) rfl 30 rfl dX10_leastQuota_28 ?_
    refine tm_iload_1 31 rfl dX10_leastQuota_30 ?_
    refine tm_iload_4 33 rfl dX10_leastQuota_31 ?_
    refine tm_callS_I (c_X10_is hc (k := k) (by omega)) ms_X10_is ml_X10_97 rfl rfl (Nat.le_of_ble_eq_true rfl) 36 rfl dX10_leastQuota_33 ?_
    refine tm_join1 51 (lsF c.testBit (fun k => wth (M 58) k n) 99 (k + 1)) ?_ (fun hJ51 => ?_)
    · refine tm_istore_2 (by decide) rfl 52 rfl dX10_leastQuota_51 ?_
      refine tm_iload_5 54 rfl dX10_leastQuota_52 ?_
      refine tm_iload_3 55 rfl dX10_leastQuota_54 ?_
      refine tm_join2 64 (gtF (fun _ => true) (fun k => wth (M 58) k n) (-99) (k + 1)) ?_ (fun hJ64 => ?_)
      · refine tm_istore_3 (by decide) rfl 65 rfl dX10_leastQuota_64 ?_
        refine tm_iinc_4 (nI (k + 1)) (iinc1 k) (by decide) rfl 68 rfl dX10_leastQuota_65 ?_
        refine tm_goto 9 rfl dX10_leastQuota_68 ?_
        exact tm_wkr ih (And.intro rfl (And.intro rfl (And.intro rfl (And.intro rfl (And.intro rfl trivial)))))
      · refine tm_icmp_le 63 58 rfl rfl dX10_leastQuota_55 (fun h55 => ?_) (fun h55 => ?_)
        · refine tm_iload_3 64 rfl dX10_leastQuota_63 ?_
          exact tm_top (by first | exact if_pos ⟨rfl, nle_lt h55⟩ | exact if_neg (fun q => (fa_of_lt q.2).2.1 h55)) hJ64
        · refine tm_iload_5 60 rfl dX10_leastQuota_58 ?_
          refine tm_goto 64 rfl dX10_leastQuota_60 ?_
          exact tm_top (by first | exact if_pos ⟨rfl, nle_lt h55⟩ | exact if_neg (fun q => (fa_of_lt q.2).2.1 h55)) hJ64
    · refine tm_if_eqB 50 39 rfl rfl dX10_leastQuota_36 (fun h36 => ?_) (fun h36 => ?_)
      · refine tm_iload_2 51 rfl dX10_leastQuota_50 ?_
        exact tm_top (by first | exact if_pos ⟨h36, nle_lt h42⟩ | exact if_neg (fun q => (fa_of_lt q.2).2.1 h42) | exact if_neg (fun q => by rw [h36] at q; exact absurd q.1 (by decide))) hJ51
      · refine tm_iload_5 41 rfl dX10_leastQuota_39 ?_
        refine tm_iload_2 42 rfl dX10_leastQuota_41 ?_
        refine tm_icmp_ge 50 45 rfl rfl dX10_leastQuota_42 (fun h42 => ?_) (fun h42 => ?_)
        · refine tm_iload_2 51 rfl dX10_leastQuota_50 ?_
          exact tm_top (by first | exact if_pos ⟨h36, nle_lt h42⟩ | exact if_neg (fun q => (fa_of_lt q.2).2.1 h42) | exact if_neg (fun q => by rw [h36] at q; exact absurd q.1 (by decide))) hJ51
        · refine tm_iload_5 47 rfl dX10_leastQuota_45 ?_
          refine tm_goto 51 rfl dX10_leastQuota_47 ?_
          exact tm_top (by first | exact if_pos ⟨h36, nle_lt h42⟩ | exact if_neg (fun q => (fa_of_lt q.2).2.1 h42) | exact if_neg (fun q => by rw [h36] at q; exact absurd q.1 (by decide))) hJ51
  · refine tm_iload_4 11 rfl dX10_leastQuota_9 ?_
    refine tm_aload_0 12 rfl dX10_leastQuota_11 ?_
    refine tm_callV_I (ci := 9) (c_X10_lots hn h4) mv_X10_lots ml_X10_56 rfl rfl rfl rfl rfl (Nat.le_of_ble_eq_true rfl) 15 rfl dX10_leastQuota_12 ?_
    refine tm_icmp_ge_t 71 (nI_le (Nat.le_refl _) (by omega)) rfl dX10_leastQuota_15 ?_
    refine tm_iload_1 72 rfl dX10_leastQuota_71 ?_
    refine tm_if_ne 81 75 rfl rfl dX10_leastQuota_72 (fun h72 => ?_) (fun h72 => ?_)
    · refine tm_iload_2 82 rfl dX10_leastQuota_81 ?_
      exact tm_iret (by first | exact (if_pos (by rw [← nI_0] at h72; exact (nI_eq hc (by decide)).mp h72)).symm | exact (if_neg (fun q => h72 (by rw [q]; rfl))).symm) rfl rfl dX10_leastQuota_82
    · refine tm_iload_3 76 rfl dX10_leastQuota_75 ?_
      refine tm_iconst (1) rfl 77 rfl dX10_leastQuota_76 ?_
      refine tm_iadd 78 rfl dX10_leastQuota_77 ?_
      refine tm_goto 82 rfl dX10_leastQuota_78 ?_
      exact tm_iret (by first | exact (if_pos (by rw [← nI_0] at h72; exact (nI_eq hc (by decide)).mp h72)).symm | exact (if_neg (fun q => h72 (by rw [q]; rfl))).symm) rfl rfl dX10_leastQuota_82
end
