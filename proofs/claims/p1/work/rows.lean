section
-- ===== PART A: goes FIRST, ahead of the names: the tables' words, and 'selects' of the private methods out of them =====
/-- a private method of a class that the tables say can be made, by its rows of tables_1 -/
def lw_okq (q : MethodName × Nat) : Prop := (q.1.cls ≠ "java/lang/invoke/MethodHandle" ∧ q.1.cls ≠ "java/lang/invoke/VarHandle") ∧ Cond.instantiable q.1.cls q.2 ∈ tables_1 ∧ Cond.privateMethod q.1 ∈ tables_1 ∧ Cond.instanceMethod q.1 ∈ tables_1
theorem lw_p0 : lw_okq (⟨"SnowMules", "writeBytes", "(I)V"⟩, 13) := ⟨⟨by decide +kernel, by decide +kernel⟩, List.mem_of_getElem? (i := 21) (by decide +kernel), List.mem_of_getElem? (i := 479) (by decide +kernel), List.mem_of_getElem? (i := 480) (by decide +kernel)⟩
theorem lw_p1 : lw_okq (⟨"SnowMules$LawReader", "cut", "([II)V"⟩, 8) := ⟨⟨by decide +kernel, by decide +kernel⟩, List.mem_of_getElem? (i := 123) (by decide +kernel), List.mem_of_getElem? (i := 499) (by decide +kernel), List.mem_of_getElem? (i := 500) (by decide +kernel)⟩
theorem lw_p2 : lw_okq (⟨"SnowMules$LawReader", "addToken", "(II)V"⟩, 8) := ⟨⟨by decide +kernel, by decide +kernel⟩, List.mem_of_getElem? (i := 123) (by decide +kernel), List.mem_of_getElem? (i := 570) (by decide +kernel), List.mem_of_getElem? (i := 571) (by decide +kernel)⟩
theorem lw_p3 : lw_okq (⟨"SnowMules$LawReader", "readClause", "(I)Z"⟩, 8) := ⟨⟨by decide +kernel, by decide +kernel⟩, List.mem_of_getElem? (i := 123) (by decide +kernel), List.mem_of_getElem? (i := 578) (by decide +kernel), List.mem_of_getElem? (i := 579) (by decide +kernel)⟩
theorem lw_p4 : lw_okq (⟨"SnowMules$LawReader", "token", "()I"⟩, 8) := ⟨⟨by decide +kernel, by decide +kernel⟩, List.mem_of_getElem? (i := 123) (by decide +kernel), List.mem_of_getElem? (i := 582) (by decide +kernel), List.mem_of_getElem? (i := 583) (by decide +kernel)⟩
theorem lw_p5 : lw_okq (⟨"SnowMules$LawReader", "refuse", "(I)Z"⟩, 8) := ⟨⟨by decide +kernel, by decide +kernel⟩, List.mem_of_getElem? (i := 123) (by decide +kernel), List.mem_of_getElem? (i := 586) (by decide +kernel), List.mem_of_getElem? (i := 587) (by decide +kernel)⟩
theorem lw_p6 : lw_okq (⟨"SnowMules$LawReader", "readChain", "()Z"⟩, 8) := ⟨⟨by decide +kernel, by decide +kernel⟩, List.mem_of_getElem? (i := 123) (by decide +kernel), List.mem_of_getElem? (i := 590) (by decide +kernel), List.mem_of_getElem? (i := 591) (by decide +kernel)⟩
theorem lw_p7 : lw_okq (⟨"SnowMules$LawReader", "readSum", "()Z"⟩, 8) := ⟨⟨by decide +kernel, by decide +kernel⟩, List.mem_of_getElem? (i := 123) (by decide +kernel), List.mem_of_getElem? (i := 598) (by decide +kernel), List.mem_of_getElem? (i := 599) (by decide +kernel)⟩
theorem lw_p8 : lw_okq (⟨"SnowMules$LawReader", "readValue", "(I)Z"⟩, 8) := ⟨⟨by decide +kernel, by decide +kernel⟩, List.mem_of_getElem? (i := 123) (by decide +kernel), List.mem_of_getElem? (i := 602) (by decide +kernel), List.mem_of_getElem? (i := 603) (by decide +kernel)⟩
theorem lw_p9 : lw_okq (⟨"SnowMules$LawReader", "readTest", "(I)Z"⟩, 8) := ⟨⟨by decide +kernel, by decide +kernel⟩, List.mem_of_getElem? (i := 123) (by decide +kernel), List.mem_of_getElem? (i := 617) (by decide +kernel), List.mem_of_getElem? (i := 618) (by decide +kernel)⟩
theorem lw_p10 : lw_okq (⟨"SnowMules$LawReader", "readPart", "(I)Z"⟩, 8) := ⟨⟨by decide +kernel, by decide +kernel⟩, List.mem_of_getElem? (i := 123) (by decide +kernel), List.mem_of_getElem? (i := 621) (by decide +kernel), List.mem_of_getElem? (i := 622) (by decide +kernel)⟩
theorem lw_p11 : lw_okq (⟨"SnowMules$LawReader", "readFact", "(I)Z"⟩, 8) := ⟨⟨by decide +kernel, by decide +kernel⟩, List.mem_of_getElem? (i := 123) (by decide +kernel), List.mem_of_getElem? (i := 625) (by decide +kernel), List.mem_of_getElem? (i := 626) (by decide +kernel)⟩
theorem lw_p12 : lw_okq (⟨"SnowMules$LawReader", "readComparison", "()Z"⟩, 8) := ⟨⟨by decide +kernel, by decide +kernel⟩, List.mem_of_getElem? (i := 123) (by decide +kernel), List.mem_of_getElem? (i := 629) (by decide +kernel), List.mem_of_getElem? (i := 630) (by decide +kernel)⟩
theorem lw_p13 : lw_okq (⟨"SnowMules$LawReader", "take", "(I)Z"⟩, 8) := ⟨⟨by decide +kernel, by decide +kernel⟩, List.mem_of_getElem? (i := 123) (by decide +kernel), List.mem_of_getElem? (i := 644) (by decide +kernel), List.mem_of_getElem? (i := 645) (by decide +kernel)⟩
theorem lw_p14 : lw_okq (⟨"SnowMules", "lawOf", "(I)LSnowMules$Law;"⟩, 13) := ⟨⟨by decide +kernel, by decide +kernel⟩, List.mem_of_getElem? (i := 21) (by decide +kernel), List.mem_of_getElem? (i := 704) (by decide +kernel), List.mem_of_getElem? (i := 705) (by decide +kernel)⟩
theorem lw_p15 : lw_okq (⟨"SnowMules$Hours", "stepJar", "(LSnowMules$World;LSnowMules$Law;I)V"⟩, 1) := ⟨⟨by decide +kernel, by decide +kernel⟩, List.mem_of_getElem? (i := 215) (by decide +kernel), List.mem_of_getElem? (i := 713) (by decide +kernel), List.mem_of_getElem? (i := 714) (by decide +kernel)⟩
def lw_privs_1 : List (MethodName × Nat) := [(⟨"SnowMules", "writeBytes", "(I)V"⟩, 13), (⟨"SnowMules$LawReader", "cut", "([II)V"⟩, 8), (⟨"SnowMules$LawReader", "addToken", "(II)V"⟩, 8), (⟨"SnowMules$LawReader", "readClause", "(I)Z"⟩, 8), (⟨"SnowMules$LawReader", "token", "()I"⟩, 8), (⟨"SnowMules$LawReader", "refuse", "(I)Z"⟩, 8), (⟨"SnowMules$LawReader", "readChain", "()Z"⟩, 8), (⟨"SnowMules$LawReader", "readSum", "()Z"⟩, 8), (⟨"SnowMules$LawReader", "readValue", "(I)Z"⟩, 8), (⟨"SnowMules$LawReader", "readTest", "(I)Z"⟩, 8), (⟨"SnowMules$LawReader", "readPart", "(I)Z"⟩, 8), (⟨"SnowMules$LawReader", "readFact", "(I)Z"⟩, 8), (⟨"SnowMules$LawReader", "readComparison", "()Z"⟩, 8), (⟨"SnowMules$LawReader", "take", "(I)Z"⟩, 8), (⟨"SnowMules", "lawOf", "(I)LSnowMules$Law;"⟩, 13), (⟨"SnowMules$Hours", "stepJar", "(LSnowMules$World;LSnowMules$Law;I)V"⟩, 1)]
theorem lw_r1 : ∀ q ∈ lw_privs_1, lw_okq q := List.forall_mem_cons.mpr ⟨lw_p0, List.forall_mem_cons.mpr ⟨lw_p1, List.forall_mem_cons.mpr ⟨lw_p2, List.forall_mem_cons.mpr ⟨lw_p3, List.forall_mem_cons.mpr ⟨lw_p4, List.forall_mem_cons.mpr ⟨lw_p5, List.forall_mem_cons.mpr ⟨lw_p6, List.forall_mem_cons.mpr ⟨lw_p7, List.forall_mem_cons.mpr ⟨lw_p8, List.forall_mem_cons.mpr ⟨lw_p9, List.forall_mem_cons.mpr ⟨lw_p10, List.forall_mem_cons.mpr ⟨lw_p11, List.forall_mem_cons.mpr ⟨lw_p12, List.forall_mem_cons.mpr ⟨lw_p13, List.forall_mem_cons.mpr ⟨lw_p14, List.forall_mem_cons.mpr ⟨lw_p15, fun _ h => absurd h List.not_mem_nil⟩⟩⟩⟩⟩⟩⟩⟩⟩⟩⟩⟩⟩⟩⟩⟩
theorem lw_p16 : lw_okq (⟨"SnowMules$Hours", "setLoadOf", "(LSnowMules$World;I)V"⟩, 1) := ⟨⟨by decide +kernel, by decide +kernel⟩, List.mem_of_getElem? (i := 215) (by decide +kernel), List.mem_of_getElem? (i := 740) (by decide +kernel), List.mem_of_getElem? (i := 741) (by decide +kernel)⟩
theorem lw_p17 : lw_okq (⟨"SnowMules$Law", "holds", "(II[I)Z"⟩, 17) := ⟨⟨by decide +kernel, by decide +kernel⟩, List.mem_of_getElem? (i := 129) (by decide +kernel), List.mem_of_getElem? (i := 752) (by decide +kernel), List.mem_of_getElem? (i := 753) (by decide +kernel)⟩
theorem lw_p18 : lw_okq (⟨"SnowMules$Law", "total", "(II[I)J"⟩, 17) := ⟨⟨by decide +kernel, by decide +kernel⟩, List.mem_of_getElem? (i := 129) (by decide +kernel), List.mem_of_getElem? (i := 757) (by decide +kernel), List.mem_of_getElem? (i := 758) (by decide +kernel)⟩
theorem lw_p19 : lw_okq (⟨"SnowMules$Hours", "arrive", "(LSnowMules$World;LSnowMules$Law;I)V"⟩, 1) := ⟨⟨by decide +kernel, by decide +kernel⟩, List.mem_of_getElem? (i := 215) (by decide +kernel), List.mem_of_getElem? (i := 768) (by decide +kernel), List.mem_of_getElem? (i := 769) (by decide +kernel)⟩
theorem lw_p20 : lw_okq (⟨"SnowMules$Hours", "burstFrom", "(LSnowMules$World;IIII)V"⟩, 1) := ⟨⟨by decide +kernel, by decide +kernel⟩, List.mem_of_getElem? (i := 215) (by decide +kernel), List.mem_of_getElem? (i := 787) (by decide +kernel), List.mem_of_getElem? (i := 788) (by decide +kernel)⟩
theorem lw_p21 : lw_okq (⟨"SnowMules$Hours", "nextBehind", "(LSnowMules$World;III)I"⟩, 1) := ⟨⟨by decide +kernel, by decide +kernel⟩, List.mem_of_getElem? (i := 215) (by decide +kernel), List.mem_of_getElem? (i := 791) (by decide +kernel), List.mem_of_getElem? (i := 792) (by decide +kernel)⟩
theorem lw_p22 : lw_okq (⟨"SnowMules$Hours", "restOf", "(LSnowMules$World;LSnowMules$Law;III)I"⟩, 1) := ⟨⟨by decide +kernel, by decide +kernel⟩, List.mem_of_getElem? (i := 215) (by decide +kernel), List.mem_of_getElem? (i := 795) (by decide +kernel), List.mem_of_getElem? (i := 796) (by decide +kernel)⟩
theorem lw_p23 : lw_okq (⟨"SnowMules$Trip", "meltOneHour", "()V"⟩, 9) := ⟨⟨by decide +kernel, by decide +kernel⟩, List.mem_of_getElem? (i := 246) (by decide +kernel), List.mem_of_getElem? (i := 856) (by decide +kernel), List.mem_of_getElem? (i := 857) (by decide +kernel)⟩
theorem lw_p24 : lw_okq (⟨"SnowMules", "isJourney", "(II)Z"⟩, 13) := ⟨⟨by decide +kernel, by decide +kernel⟩, List.mem_of_getElem? (i := 21) (by decide +kernel), List.mem_of_getElem? (i := 869) (by decide +kernel), List.mem_of_getElem? (i := 870) (by decide +kernel)⟩
theorem lw_p25 : lw_okq (⟨"SnowMules$Search", "shorten", "(IZ)Z"⟩, 13) := ⟨⟨by decide +kernel, by decide +kernel⟩, List.mem_of_getElem? (i := 294) (by decide +kernel), List.mem_of_getElem? (i := 882) (by decide +kernel), List.mem_of_getElem? (i := 883) (by decide +kernel)⟩
theorem lw_p26 : lw_okq (⟨"SnowMules$Search", "reach", "(II)Z"⟩, 13) := ⟨⟨by decide +kernel, by decide +kernel⟩, List.mem_of_getElem? (i := 294) (by decide +kernel), List.mem_of_getElem? (i := 891) (by decide +kernel), List.mem_of_getElem? (i := 892) (by decide +kernel)⟩
theorem lw_p27 : lw_okq (⟨"SnowMules$Search", "seek", "(III)V"⟩, 13) := ⟨⟨by decide +kernel, by decide +kernel⟩, List.mem_of_getElem? (i := 294) (by decide +kernel), List.mem_of_getElem? (i := 899) (by decide +kernel), List.mem_of_getElem? (i := 900) (by decide +kernel)⟩
theorem lw_p28 : lw_okq (⟨"SnowMules$Search", "keep", "(I)V"⟩, 13) := ⟨⟨by decide +kernel, by decide +kernel⟩, List.mem_of_getElem? (i := 294) (by decide +kernel), List.mem_of_getElem? (i := 903) (by decide +kernel), List.mem_of_getElem? (i := 904) (by decide +kernel)⟩
theorem lw_p29 : lw_okq (⟨"SnowMules$Waits", "spread", "(III)V"⟩, 7) := ⟨⟨by decide +kernel, by decide +kernel⟩, List.mem_of_getElem? (i := 343) (by decide +kernel), List.mem_of_getElem? (i := 939) (by decide +kernel), List.mem_of_getElem? (i := 940) (by decide +kernel)⟩
theorem lw_p30 : lw_okq (⟨"SnowMules$Waits", "note", "(I)V"⟩, 7) := ⟨⟨by decide +kernel, by decide +kernel⟩, List.mem_of_getElem? (i := 343) (by decide +kernel), List.mem_of_getElem? (i := 943) (by decide +kernel), List.mem_of_getElem? (i := 944) (by decide +kernel)⟩
theorem lw_p31 : lw_okq (⟨"SnowMules$Market", "greatest", "(II)I"⟩, 4) := ⟨⟨by decide +kernel, by decide +kernel⟩, List.mem_of_getElem? (i := 372) (by decide +kernel), List.mem_of_getElem? (i := 996) (by decide +kernel), List.mem_of_getElem? (i := 997) (by decide +kernel)⟩
def lw_privs_2 : List (MethodName × Nat) := [(⟨"SnowMules$Hours", "setLoadOf", "(LSnowMules$World;I)V"⟩, 1), (⟨"SnowMules$Law", "holds", "(II[I)Z"⟩, 17), (⟨"SnowMules$Law", "total", "(II[I)J"⟩, 17), (⟨"SnowMules$Hours", "arrive", "(LSnowMules$World;LSnowMules$Law;I)V"⟩, 1), (⟨"SnowMules$Hours", "burstFrom", "(LSnowMules$World;IIII)V"⟩, 1), (⟨"SnowMules$Hours", "nextBehind", "(LSnowMules$World;III)I"⟩, 1), (⟨"SnowMules$Hours", "restOf", "(LSnowMules$World;LSnowMules$Law;III)I"⟩, 1), (⟨"SnowMules$Trip", "meltOneHour", "()V"⟩, 9), (⟨"SnowMules", "isJourney", "(II)Z"⟩, 13), (⟨"SnowMules$Search", "shorten", "(IZ)Z"⟩, 13), (⟨"SnowMules$Search", "reach", "(II)Z"⟩, 13), (⟨"SnowMules$Search", "seek", "(III)V"⟩, 13), (⟨"SnowMules$Search", "keep", "(I)V"⟩, 13), (⟨"SnowMules$Waits", "spread", "(III)V"⟩, 7), (⟨"SnowMules$Waits", "note", "(I)V"⟩, 7), (⟨"SnowMules$Market", "greatest", "(II)I"⟩, 4)]
theorem lw_r2 : ∀ q ∈ lw_privs_2, lw_okq q := List.forall_mem_cons.mpr ⟨lw_p16, List.forall_mem_cons.mpr ⟨lw_p17, List.forall_mem_cons.mpr ⟨lw_p18, List.forall_mem_cons.mpr ⟨lw_p19, List.forall_mem_cons.mpr ⟨lw_p20, List.forall_mem_cons.mpr ⟨lw_p21, List.forall_mem_cons.mpr ⟨lw_p22, List.forall_mem_cons.mpr ⟨lw_p23, List.forall_mem_cons.mpr ⟨lw_p24, List.forall_mem_cons.mpr ⟨lw_p25, List.forall_mem_cons.mpr ⟨lw_p26, List.forall_mem_cons.mpr ⟨lw_p27, List.forall_mem_cons.mpr ⟨lw_p28, List.forall_mem_cons.mpr ⟨lw_p29, List.forall_mem_cons.mpr ⟨lw_p30, List.forall_mem_cons.mpr ⟨lw_p31, fun _ h => absurd h List.not_mem_nil⟩⟩⟩⟩⟩⟩⟩⟩⟩⟩⟩⟩⟩⟩⟩⟩
theorem lw_p32 : lw_okq (⟨"SnowMules$Market", "priceOf", "(I)I"⟩, 4) := ⟨⟨by decide +kernel, by decide +kernel⟩, List.mem_of_getElem? (i := 372) (by decide +kernel), List.mem_of_getElem? (i := 1000) (by decide +kernel), List.mem_of_getElem? (i := 1001) (by decide +kernel)⟩
theorem lw_p33 : lw_okq (⟨"SnowMules$Market", "canServe", "(II)Z"⟩, 4) := ⟨⟨by decide +kernel, by decide +kernel⟩, List.mem_of_getElem? (i := 372) (by decide +kernel), List.mem_of_getElem? (i := 1005) (by decide +kernel), List.mem_of_getElem? (i := 1006) (by decide +kernel)⟩
theorem lw_p34 : lw_okq (⟨"SnowMules$Market", "firstJar", "(III)I"⟩, 4) := ⟨⟨by decide +kernel, by decide +kernel⟩, List.mem_of_getElem? (i := 372) (by decide +kernel), List.mem_of_getElem? (i := 1015) (by decide +kernel), List.mem_of_getElem? (i := 1016) (by decide +kernel)⟩
theorem lw_p35 : lw_okq (⟨"SnowMules$Hours", "owedAt", "(LSnowMules$World;I)I"⟩, 1) := ⟨⟨by decide +kernel, by decide +kernel⟩, List.mem_of_getElem? (i := 215) (by decide +kernel), List.mem_of_getElem? (i := 1036) (by decide +kernel), List.mem_of_getElem? (i := 1037) (by decide +kernel)⟩
theorem lw_p36 : lw_okq (⟨"SnowMules$Hours", "eatenOn", "(LSnowMules$World;II)I"⟩, 1) := ⟨⟨by decide +kernel, by decide +kernel⟩, List.mem_of_getElem? (i := 215) (by decide +kernel), List.mem_of_getElem? (i := 1040) (by decide +kernel), List.mem_of_getElem? (i := 1041) (by decide +kernel)⟩
theorem lw_p37 : lw_okq (⟨"SnowMulesModel", "four", "(I)V"⟩, 42) := ⟨⟨by decide +kernel, by decide +kernel⟩, List.mem_of_getElem? (i := 1097) (by decide +kernel), List.mem_of_getElem? (i := 1236) (by decide +kernel), List.mem_of_getElem? (i := 1237) (by decide +kernel)⟩
theorem lw_p38 : lw_okq (⟨"SnowMulesModel", "clauseHere", "()Z"⟩, 42) := ⟨⟨by decide +kernel, by decide +kernel⟩, List.mem_of_getElem? (i := 1097) (by decide +kernel), List.mem_of_getElem? (i := 1248) (by decide +kernel), List.mem_of_getElem? (i := 1249) (by decide +kernel)⟩
theorem lw_p39 : lw_okq (⟨"SnowMulesModel", "see", "()I"⟩, 42) := ⟨⟨by decide +kernel, by decide +kernel⟩, List.mem_of_getElem? (i := 1097) (by decide +kernel), List.mem_of_getElem? (i := 1252) (by decide +kernel), List.mem_of_getElem? (i := 1253) (by decide +kernel)⟩
theorem lw_p40 : lw_okq (⟨"SnowMulesModel", "isWord", "(J)Z"⟩, 42) := ⟨⟨by decide +kernel, by decide +kernel⟩, List.mem_of_getElem? (i := 1097) (by decide +kernel), List.mem_of_getElem? (i := 1257) (by decide +kernel), List.mem_of_getElem? (i := 1258) (by decide +kernel)⟩
theorem lw_p41 : lw_okq (⟨"SnowMulesModel", "isLetter", "(I)Z"⟩, 42) := ⟨⟨by decide +kernel, by decide +kernel⟩, List.mem_of_getElem? (i := 1097) (by decide +kernel), List.mem_of_getElem? (i := 1261) (by decide +kernel), List.mem_of_getElem? (i := 1262) (by decide +kernel)⟩
theorem lw_p42 : lw_okq (⟨"SnowMulesModel", "fails", "(II)Z"⟩, 42) := ⟨⟨by decide +kernel, by decide +kernel⟩, List.mem_of_getElem? (i := 1097) (by decide +kernel), List.mem_of_getElem? (i := 1269) (by decide +kernel), List.mem_of_getElem? (i := 1270) (by decide +kernel)⟩
theorem lw_p43 : lw_okq (⟨"SnowMulesModel", "clauseOf", "(I)Z"⟩, 42) := ⟨⟨by decide +kernel, by decide +kernel⟩, List.mem_of_getElem? (i := 1097) (by decide +kernel), List.mem_of_getElem? (i := 1273) (by decide +kernel), List.mem_of_getElem? (i := 1274) (by decide +kernel)⟩
theorem lw_p44 : lw_okq (⟨"SnowMulesModel", "passWord", "()V"⟩, 42) := ⟨⟨by decide +kernel, by decide +kernel⟩, List.mem_of_getElem? (i := 1097) (by decide +kernel), List.mem_of_getElem? (i := 1277) (by decide +kernel), List.mem_of_getElem? (i := 1278) (by decide +kernel)⟩
theorem lw_p45 : lw_okq (⟨"SnowMulesModel", "sum", "()Z"⟩, 42) := ⟨⟨by decide +kernel, by decide +kernel⟩, List.mem_of_getElem? (i := 1097) (by decide +kernel), List.mem_of_getElem? (i := 1281) (by decide +kernel), List.mem_of_getElem? (i := 1282) (by decide +kernel)⟩
theorem lw_p46 : lw_okq (⟨"SnowMulesModel", "term", "()Z"⟩, 42) := ⟨⟨by decide +kernel, by decide +kernel⟩, List.mem_of_getElem? (i := 1097) (by decide +kernel), List.mem_of_getElem? (i := 1285) (by decide +kernel), List.mem_of_getElem? (i := 1286) (by decide +kernel)⟩
theorem lw_p47 : lw_okq (⟨"SnowMulesModel", "value", "()Z"⟩, 42) := ⟨⟨by decide +kernel, by decide +kernel⟩, List.mem_of_getElem? (i := 1097) (by decide +kernel), List.mem_of_getElem? (i := 1289) (by decide +kernel), List.mem_of_getElem? (i := 1290) (by decide +kernel)⟩
def lw_privs_3 : List (MethodName × Nat) := [(⟨"SnowMules$Market", "priceOf", "(I)I"⟩, 4), (⟨"SnowMules$Market", "canServe", "(II)Z"⟩, 4), (⟨"SnowMules$Market", "firstJar", "(III)I"⟩, 4), (⟨"SnowMules$Hours", "owedAt", "(LSnowMules$World;I)I"⟩, 1), (⟨"SnowMules$Hours", "eatenOn", "(LSnowMules$World;II)I"⟩, 1), (⟨"SnowMulesModel", "four", "(I)V"⟩, 42), (⟨"SnowMulesModel", "clauseHere", "()Z"⟩, 42), (⟨"SnowMulesModel", "see", "()I"⟩, 42), (⟨"SnowMulesModel", "isWord", "(J)Z"⟩, 42), (⟨"SnowMulesModel", "isLetter", "(I)Z"⟩, 42), (⟨"SnowMulesModel", "fails", "(II)Z"⟩, 42), (⟨"SnowMulesModel", "clauseOf", "(I)Z"⟩, 42), (⟨"SnowMulesModel", "passWord", "()V"⟩, 42), (⟨"SnowMulesModel", "sum", "()Z"⟩, 42), (⟨"SnowMulesModel", "term", "()Z"⟩, 42), (⟨"SnowMulesModel", "value", "()Z"⟩, 42)]
theorem lw_r3 : ∀ q ∈ lw_privs_3, lw_okq q := List.forall_mem_cons.mpr ⟨lw_p32, List.forall_mem_cons.mpr ⟨lw_p33, List.forall_mem_cons.mpr ⟨lw_p34, List.forall_mem_cons.mpr ⟨lw_p35, List.forall_mem_cons.mpr ⟨lw_p36, List.forall_mem_cons.mpr ⟨lw_p37, List.forall_mem_cons.mpr ⟨lw_p38, List.forall_mem_cons.mpr ⟨lw_p39, List.forall_mem_cons.mpr ⟨lw_p40, List.forall_mem_cons.mpr ⟨lw_p41, List.forall_mem_cons.mpr ⟨lw_p42, List.forall_mem_cons.mpr ⟨lw_p43, List.forall_mem_cons.mpr ⟨lw_p44, List.forall_mem_cons.mpr ⟨lw_p45, List.forall_mem_cons.mpr ⟨lw_p46, List.forall_mem_cons.mpr ⟨lw_p47, fun _ h => absurd h List.not_mem_nil⟩⟩⟩⟩⟩⟩⟩⟩⟩⟩⟩⟩⟩⟩⟩⟩
theorem lw_p48 : lw_okq (⟨"SnowMulesModel", "isDigit", "(I)Z"⟩, 42) := ⟨⟨by decide +kernel, by decide +kernel⟩, List.mem_of_getElem? (i := 1097) (by decide +kernel), List.mem_of_getElem? (i := 1293) (by decide +kernel), List.mem_of_getElem? (i := 1294) (by decide +kernel)⟩
theorem lw_p49 : lw_okq (⟨"SnowMulesModel", "numberHere", "(II)Z"⟩, 42) := ⟨⟨by decide +kernel, by decide +kernel⟩, List.mem_of_getElem? (i := 1097) (by decide +kernel), List.mem_of_getElem? (i := 1298) (by decide +kernel), List.mem_of_getElem? (i := 1299) (by decide +kernel)⟩
theorem lw_p50 : lw_okq (⟨"SnowMulesModel", "makes", "(I)Z"⟩, 42) := ⟨⟨by decide +kernel, by decide +kernel⟩, List.mem_of_getElem? (i := 1097) (by decide +kernel), List.mem_of_getElem? (i := 1305) (by decide +kernel), List.mem_of_getElem? (i := 1306) (by decide +kernel)⟩
theorem lw_p51 : lw_okq (⟨"SnowMulesModel", "puts", "(II)V"⟩, 42) := ⟨⟨by decide +kernel, by decide +kernel⟩, List.mem_of_getElem? (i := 1097) (by decide +kernel), List.mem_of_getElem? (i := 1309) (by decide +kernel), List.mem_of_getElem? (i := 1310) (by decide +kernel)⟩
theorem lw_p52 : lw_okq (⟨"SnowMulesModel", "wordHere", "()I"⟩, 42) := ⟨⟨by decide +kernel, by decide +kernel⟩, List.mem_of_getElem? (i := 1097) (by decide +kernel), List.mem_of_getElem? (i := 1313) (by decide +kernel), List.mem_of_getElem? (i := 1314) (by decide +kernel)⟩
theorem lw_p53 : lw_okq (⟨"SnowMulesModel", "takesWord", "(J)Z"⟩, 42) := ⟨⟨by decide +kernel, by decide +kernel⟩, List.mem_of_getElem? (i := 1097) (by decide +kernel), List.mem_of_getElem? (i := 1329) (by decide +kernel), List.mem_of_getElem? (i := 1330) (by decide +kernel)⟩
theorem lw_p54 : lw_okq (⟨"SnowMulesModel", "tested", "()Z"⟩, 42) := ⟨⟨by decide +kernel, by decide +kernel⟩, List.mem_of_getElem? (i := 1097) (by decide +kernel), List.mem_of_getElem? (i := 1333) (by decide +kernel), List.mem_of_getElem? (i := 1334) (by decide +kernel)⟩
theorem lw_p55 : lw_okq (⟨"SnowMulesModel", "fact", "()Z"⟩, 42) := ⟨⟨by decide +kernel, by decide +kernel⟩, List.mem_of_getElem? (i := 1097) (by decide +kernel), List.mem_of_getElem? (i := 1337) (by decide +kernel), List.mem_of_getElem? (i := 1338) (by decide +kernel)⟩
theorem lw_p56 : lw_okq (⟨"SnowMulesModel", "opens", "(I)Z"⟩, 42) := ⟨⟨by decide +kernel, by decide +kernel⟩, List.mem_of_getElem? (i := 1097) (by decide +kernel), List.mem_of_getElem? (i := 1342) (by decide +kernel), List.mem_of_getElem? (i := 1343) (by decide +kernel)⟩
theorem lw_p57 : lw_okq (⟨"SnowMulesModel", "compare", "()Z"⟩, 42) := ⟨⟨by decide +kernel, by decide +kernel⟩, List.mem_of_getElem? (i := 1097) (by decide +kernel), List.mem_of_getElem? (i := 1346) (by decide +kernel), List.mem_of_getElem? (i := 1347) (by decide +kernel)⟩
theorem lw_p58 : lw_okq (⟨"SnowMulesModel", "closes", "()V"⟩, 42) := ⟨⟨by decide +kernel, by decide +kernel⟩, List.mem_of_getElem? (i := 1097) (by decide +kernel), List.mem_of_getElem? (i := 1350) (by decide +kernel), List.mem_of_getElem? (i := 1351) (by decide +kernel)⟩
theorem lw_p59 : lw_okq (⟨"SnowMulesModel", "settles", "(I)V"⟩, 42) := ⟨⟨by decide +kernel, by decide +kernel⟩, List.mem_of_getElem? (i := 1097) (by decide +kernel), List.mem_of_getElem? (i := 1354) (by decide +kernel), List.mem_of_getElem? (i := 1355) (by decide +kernel)⟩
theorem lw_p60 : lw_okq (⟨"SnowMulesModel", "isInside", "()Z"⟩, 42) := ⟨⟨by decide +kernel, by decide +kernel⟩, List.mem_of_getElem? (i := 1097) (by decide +kernel), List.mem_of_getElem? (i := 1361) (by decide +kernel), List.mem_of_getElem? (i := 1362) (by decide +kernel)⟩
theorem lw_p61 : lw_okq (⟨"SnowMulesModel", "isNode", "(I)Z"⟩, 42) := ⟨⟨by decide +kernel, by decide +kernel⟩, List.mem_of_getElem? (i := 1097) (by decide +kernel), List.mem_of_getElem? (i := 1378) (by decide +kernel), List.mem_of_getElem? (i := 1379) (by decide +kernel)⟩
theorem lw_p62 : lw_okq (⟨"SnowMulesModel", "stands", "(I)Z"⟩, 42) := ⟨⟨by decide +kernel, by decide +kernel⟩, List.mem_of_getElem? (i := 1097) (by decide +kernel), List.mem_of_getElem? (i := 1403) (by decide +kernel), List.mem_of_getElem? (i := 1404) (by decide +kernel)⟩
theorem lw_p63 : lw_okq (⟨"SnowMulesModel", "isJar", "(I)Z"⟩, 42) := ⟨⟨by decide +kernel, by decide +kernel⟩, List.mem_of_getElem? (i := 1097) (by decide +kernel), List.mem_of_getElem? (i := 1407) (by decide +kernel), List.mem_of_getElem? (i := 1408) (by decide +kernel)⟩
def lw_privs_4 : List (MethodName × Nat) := [(⟨"SnowMulesModel", "isDigit", "(I)Z"⟩, 42), (⟨"SnowMulesModel", "numberHere", "(II)Z"⟩, 42), (⟨"SnowMulesModel", "makes", "(I)Z"⟩, 42), (⟨"SnowMulesModel", "puts", "(II)V"⟩, 42), (⟨"SnowMulesModel", "wordHere", "()I"⟩, 42), (⟨"SnowMulesModel", "takesWord", "(J)Z"⟩, 42), (⟨"SnowMulesModel", "tested", "()Z"⟩, 42), (⟨"SnowMulesModel", "fact", "()Z"⟩, 42), (⟨"SnowMulesModel", "opens", "(I)Z"⟩, 42), (⟨"SnowMulesModel", "compare", "()Z"⟩, 42), (⟨"SnowMulesModel", "closes", "()V"⟩, 42), (⟨"SnowMulesModel", "settles", "(I)V"⟩, 42), (⟨"SnowMulesModel", "isInside", "()Z"⟩, 42), (⟨"SnowMulesModel", "isNode", "(I)Z"⟩, 42), (⟨"SnowMulesModel", "stands", "(I)Z"⟩, 42), (⟨"SnowMulesModel", "isJar", "(I)Z"⟩, 42)]
theorem lw_r4 : ∀ q ∈ lw_privs_4, lw_okq q := List.forall_mem_cons.mpr ⟨lw_p48, List.forall_mem_cons.mpr ⟨lw_p49, List.forall_mem_cons.mpr ⟨lw_p50, List.forall_mem_cons.mpr ⟨lw_p51, List.forall_mem_cons.mpr ⟨lw_p52, List.forall_mem_cons.mpr ⟨lw_p53, List.forall_mem_cons.mpr ⟨lw_p54, List.forall_mem_cons.mpr ⟨lw_p55, List.forall_mem_cons.mpr ⟨lw_p56, List.forall_mem_cons.mpr ⟨lw_p57, List.forall_mem_cons.mpr ⟨lw_p58, List.forall_mem_cons.mpr ⟨lw_p59, List.forall_mem_cons.mpr ⟨lw_p60, List.forall_mem_cons.mpr ⟨lw_p61, List.forall_mem_cons.mpr ⟨lw_p62, List.forall_mem_cons.mpr ⟨lw_p63, fun _ h => absurd h List.not_mem_nil⟩⟩⟩⟩⟩⟩⟩⟩⟩⟩⟩⟩⟩⟩⟩⟩
theorem lw_p64 : lw_okq (⟨"SnowMulesModel", "jarOf", "(II)I"⟩, 42) := ⟨⟨by decide +kernel, by decide +kernel⟩, List.mem_of_getElem? (i := 1097) (by decide +kernel), List.mem_of_getElem? (i := 1411) (by decide +kernel), List.mem_of_getElem? (i := 1412) (by decide +kernel)⟩
theorem lw_p65 : lw_okq (⟨"SnowMulesModel", "monthAt", "(I)I"⟩, 42) := ⟨⟨by decide +kernel, by decide +kernel⟩, List.mem_of_getElem? (i := 1097) (by decide +kernel), List.mem_of_getElem? (i := 1416) (by decide +kernel), List.mem_of_getElem? (i := 1417) (by decide +kernel)⟩
theorem lw_p66 : lw_okq (⟨"SnowMulesModel", "hasSnow", "(II)Z"⟩, 42) := ⟨⟨by decide +kernel, by decide +kernel⟩, List.mem_of_getElem? (i := 1097) (by decide +kernel), List.mem_of_getElem? (i := 1420) (by decide +kernel), List.mem_of_getElem? (i := 1421) (by decide +kernel)⟩
theorem lw_p67 : lw_okq (⟨"SnowMulesModel", "nodeOf", "(II)I"⟩, 42) := ⟨⟨by decide +kernel, by decide +kernel⟩, List.mem_of_getElem? (i := 1097) (by decide +kernel), List.mem_of_getElem? (i := 1424) (by decide +kernel), List.mem_of_getElem? (i := 1425) (by decide +kernel)⟩
theorem lw_p68 : lw_okq (⟨"SnowMulesModel", "stores", "(II)I"⟩, 42) := ⟨⟨by decide +kernel, by decide +kernel⟩, List.mem_of_getElem? (i := 1097) (by decide +kernel), List.mem_of_getElem? (i := 1432) (by decide +kernel), List.mem_of_getElem? (i := 1433) (by decide +kernel)⟩
theorem lw_p69 : lw_okq (⟨"SnowMulesModel", "isPass", "(I)Z"⟩, 42) := ⟨⟨by decide +kernel, by decide +kernel⟩, List.mem_of_getElem? (i := 1097) (by decide +kernel), List.mem_of_getElem? (i := 1446) (by decide +kernel), List.mem_of_getElem? (i := 1447) (by decide +kernel)⟩
theorem lw_p70 : lw_okq (⟨"SnowMulesModel", "other", "(II)I"⟩, 42) := ⟨⟨by decide +kernel, by decide +kernel⟩, List.mem_of_getElem? (i := 1097) (by decide +kernel), List.mem_of_getElem? (i := 1450) (by decide +kernel), List.mem_of_getElem? (i := 1451) (by decide +kernel)⟩
theorem lw_p71 : lw_okq (⟨"SnowMulesModel", "passOf", "(II)I"⟩, 42) := ⟨⟨by decide +kernel, by decide +kernel⟩, List.mem_of_getElem? (i := 1097) (by decide +kernel), List.mem_of_getElem? (i := 1454) (by decide +kernel), List.mem_of_getElem? (i := 1455) (by decide +kernel)⟩
theorem lw_p72 : lw_okq (⟨"SnowMulesModel", "isLaw", "(I)Z"⟩, 42) := ⟨⟨by decide +kernel, by decide +kernel⟩, List.mem_of_getElem? (i := 1097) (by decide +kernel), List.mem_of_getElem? (i := 1462) (by decide +kernel), List.mem_of_getElem? (i := 1463) (by decide +kernel)⟩
theorem lw_p73 : lw_okq (⟨"SnowMulesModel", "hour", "(I)V"⟩, 42) := ⟨⟨by decide +kernel, by decide +kernel⟩, List.mem_of_getElem? (i := 1097) (by decide +kernel), List.mem_of_getElem? (i := 1467) (by decide +kernel), List.mem_of_getElem? (i := 1468) (by decide +kernel)⟩
theorem lw_p74 : lw_okq (⟨"SnowMulesModel", "meltOf", "(II)I"⟩, 42) := ⟨⟨by decide +kernel, by decide +kernel⟩, List.mem_of_getElem? (i := 1097) (by decide +kernel), List.mem_of_getElem? (i := 1471) (by decide +kernel), List.mem_of_getElem? (i := 1472) (by decide +kernel)⟩
theorem lw_p75 : lw_okq (⟨"SnowMulesModel", "passWords", "(IIIIIII)V"⟩, 42) := ⟨⟨by decide +kernel, by decide +kernel⟩, List.mem_of_getElem? (i := 1097) (by decide +kernel), List.mem_of_getElem? (i := 1475) (by decide +kernel), List.mem_of_getElem? (i := 1476) (by decide +kernel)⟩
theorem lw_p76 : lw_okq (⟨"SnowMulesModel", "hourWords", "(IIII)V"⟩, 42) := ⟨⟨by decide +kernel, by decide +kernel⟩, List.mem_of_getElem? (i := 1097) (by decide +kernel), List.mem_of_getElem? (i := 1479) (by decide +kernel), List.mem_of_getElem? (i := 1480) (by decide +kernel)⟩
theorem lw_p77 : lw_okq (⟨"SnowMulesModel", "nodeWords", "(IIIII)V"⟩, 42) := ⟨⟨by decide +kernel, by decide +kernel⟩, List.mem_of_getElem? (i := 1097) (by decide +kernel), List.mem_of_getElem? (i := 1484) (by decide +kernel), List.mem_of_getElem? (i := 1485) (by decide +kernel)⟩
theorem lw_p78 : lw_okq (⟨"SnowMulesModel", "meltBy", "(III)I"⟩, 42) := ⟨⟨by decide +kernel, by decide +kernel⟩, List.mem_of_getElem? (i := 1097) (by decide +kernel), List.mem_of_getElem? (i := 1488) (by decide +kernel), List.mem_of_getElem? (i := 1489) (by decide +kernel)⟩
theorem lw_p79 : lw_okq (⟨"SnowMulesModel", "summed", "(II)J"⟩, 42) := ⟨⟨by decide +kernel, by decide +kernel⟩, List.mem_of_getElem? (i := 1097) (by decide +kernel), List.mem_of_getElem? (i := 1492) (by decide +kernel), List.mem_of_getElem? (i := 1493) (by decide +kernel)⟩
def lw_privs_5 : List (MethodName × Nat) := [(⟨"SnowMulesModel", "jarOf", "(II)I"⟩, 42), (⟨"SnowMulesModel", "monthAt", "(I)I"⟩, 42), (⟨"SnowMulesModel", "hasSnow", "(II)Z"⟩, 42), (⟨"SnowMulesModel", "nodeOf", "(II)I"⟩, 42), (⟨"SnowMulesModel", "stores", "(II)I"⟩, 42), (⟨"SnowMulesModel", "isPass", "(I)Z"⟩, 42), (⟨"SnowMulesModel", "other", "(II)I"⟩, 42), (⟨"SnowMulesModel", "passOf", "(II)I"⟩, 42), (⟨"SnowMulesModel", "isLaw", "(I)Z"⟩, 42), (⟨"SnowMulesModel", "hour", "(I)V"⟩, 42), (⟨"SnowMulesModel", "meltOf", "(II)I"⟩, 42), (⟨"SnowMulesModel", "passWords", "(IIIIIII)V"⟩, 42), (⟨"SnowMulesModel", "hourWords", "(IIII)V"⟩, 42), (⟨"SnowMulesModel", "nodeWords", "(IIIII)V"⟩, 42), (⟨"SnowMulesModel", "meltBy", "(III)I"⟩, 42), (⟨"SnowMulesModel", "summed", "(II)J"⟩, 42)]
theorem lw_r5 : ∀ q ∈ lw_privs_5, lw_okq q := List.forall_mem_cons.mpr ⟨lw_p64, List.forall_mem_cons.mpr ⟨lw_p65, List.forall_mem_cons.mpr ⟨lw_p66, List.forall_mem_cons.mpr ⟨lw_p67, List.forall_mem_cons.mpr ⟨lw_p68, List.forall_mem_cons.mpr ⟨lw_p69, List.forall_mem_cons.mpr ⟨lw_p70, List.forall_mem_cons.mpr ⟨lw_p71, List.forall_mem_cons.mpr ⟨lw_p72, List.forall_mem_cons.mpr ⟨lw_p73, List.forall_mem_cons.mpr ⟨lw_p74, List.forall_mem_cons.mpr ⟨lw_p75, List.forall_mem_cons.mpr ⟨lw_p76, List.forall_mem_cons.mpr ⟨lw_p77, List.forall_mem_cons.mpr ⟨lw_p78, List.forall_mem_cons.mpr ⟨lw_p79, fun _ h => absurd h List.not_mem_nil⟩⟩⟩⟩⟩⟩⟩⟩⟩⟩⟩⟩⟩⟩⟩⟩
theorem lw_p80 : lw_okq (⟨"SnowMulesModel", "reckons", "(III)J"⟩, 42) := ⟨⟨by decide +kernel, by decide +kernel⟩, List.mem_of_getElem? (i := 1097) (by decide +kernel), List.mem_of_getElem? (i := 1496) (by decide +kernel), List.mem_of_getElem? (i := 1497) (by decide +kernel)⟩
theorem lw_p81 : lw_okq (⟨"SnowMulesModel", "push", "(J)V"⟩, 42) := ⟨⟨by decide +kernel, by decide +kernel⟩, List.mem_of_getElem? (i := 1097) (by decide +kernel), List.mem_of_getElem? (i := 1500) (by decide +kernel), List.mem_of_getElem? (i := 1501) (by decide +kernel)⟩
theorem lw_p82 : lw_okq (⟨"SnowMulesModel", "pop", "()J"⟩, 42) := ⟨⟨by decide +kernel, by decide +kernel⟩, List.mem_of_getElem? (i := 1097) (by decide +kernel), List.mem_of_getElem? (i := 1504) (by decide +kernel), List.mem_of_getElem? (i := 1505) (by decide +kernel)⟩
theorem lw_p83 : lw_okq (⟨"SnowMulesModel", "comes", "(II)V"⟩, 42) := ⟨⟨by decide +kernel, by decide +kernel⟩, List.mem_of_getElem? (i := 1097) (by decide +kernel), List.mem_of_getElem? (i := 1514) (by decide +kernel), List.mem_of_getElem? (i := 1515) (by decide +kernel)⟩
theorem lw_p84 : lw_okq (⟨"SnowMulesModel", "draw", "()I"⟩, 42) := ⟨⟨by decide +kernel, by decide +kernel⟩, List.mem_of_getElem? (i := 1097) (by decide +kernel), List.mem_of_getElem? (i := 1519) (by decide +kernel), List.mem_of_getElem? (i := 1520) (by decide +kernel)⟩
theorem lw_p85 : lw_okq (⟨"SnowMulesModel", "goesFor", "(I)V"⟩, 42) := ⟨⟨by decide +kernel, by decide +kernel⟩, List.mem_of_getElem? (i := 1097) (by decide +kernel), List.mem_of_getElem? (i := 1527) (by decide +kernel), List.mem_of_getElem? (i := 1528) (by decide +kernel)⟩
theorem lw_p86 : lw_okq (⟨"SnowMulesModel", "bursts", "(IIII)V"⟩, 42) := ⟨⟨by decide +kernel, by decide +kernel⟩, List.mem_of_getElem? (i := 1097) (by decide +kernel), List.mem_of_getElem? (i := 1531) (by decide +kernel), List.mem_of_getElem? (i := 1532) (by decide +kernel)⟩
theorem lw_p87 : lw_okq (⟨"SnowMulesModel", "wayEnd", "()I"⟩, 42) := ⟨⟨by decide +kernel, by decide +kernel⟩, List.mem_of_getElem? (i := 1097) (by decide +kernel), List.mem_of_getElem? (i := 1553) (by decide +kernel), List.mem_of_getElem? (i := 1554) (by decide +kernel)⟩
theorem lw_p88 : lw_okq (⟨"SnowMulesModel", "isOfWay", "(I)Z"⟩, 42) := ⟨⟨by decide +kernel, by decide +kernel⟩, List.mem_of_getElem? (i := 1097) (by decide +kernel), List.mem_of_getElem? (i := 1557) (by decide +kernel), List.mem_of_getElem? (i := 1558) (by decide +kernel)⟩
theorem lw_p89 : lw_okq (⟨"SnowMulesModel", "canTry", "(IIIII)Z"⟩, 42) := ⟨⟨by decide +kernel, by decide +kernel⟩, List.mem_of_getElem? (i := 1097) (by decide +kernel), List.mem_of_getElem? (i := 1569) (by decide +kernel), List.mem_of_getElem? (i := 1570) (by decide +kernel)⟩
theorem lw_p90 : lw_okq (⟨"SnowMulesModel", "sets", "(IIIII)V"⟩, 42) := ⟨⟨by decide +kernel, by decide +kernel⟩, List.mem_of_getElem? (i := 1097) (by decide +kernel), List.mem_of_getElem? (i := 1576) (by decide +kernel), List.mem_of_getElem? (i := 1577) (by decide +kernel)⟩
theorem lw_p91 : lw_okq (⟨"SnowMulesModel", "travels", "(II)V"⟩, 42) := ⟨⟨by decide +kernel, by decide +kernel⟩, List.mem_of_getElem? (i := 1097) (by decide +kernel), List.mem_of_getElem? (i := 1580) (by decide +kernel), List.mem_of_getElem? (i := 1581) (by decide +kernel)⟩
theorem lw_p92 : lw_okq (⟨"SnowMulesModel", "searchesDay", "(IIIIIIII)V"⟩, 42) := ⟨⟨by decide +kernel, by decide +kernel⟩, List.mem_of_getElem? (i := 1097) (by decide +kernel), List.mem_of_getElem? (i := 1588) (by decide +kernel), List.mem_of_getElem? (i := 1589) (by decide +kernel)⟩
theorem lw_p93 : lw_okq (⟨"SnowMulesModel", "searches", "(IIIIIIIII)V"⟩, 42) := ⟨⟨by decide +kernel, by decide +kernel⟩, List.mem_of_getElem? (i := 1097) (by decide +kernel), List.mem_of_getElem? (i := 1593) (by decide +kernel), List.mem_of_getElem? (i := 1594) (by decide +kernel)⟩
theorem lw_p94 : lw_okq (⟨"SnowMulesModel", "wasAt", "(II)Z"⟩, 42) := ⟨⟨by decide +kernel, by decide +kernel⟩, List.mem_of_getElem? (i := 1097) (by decide +kernel), List.mem_of_getElem? (i := 1597) (by decide +kernel), List.mem_of_getElem? (i := 1598) (by decide +kernel)⟩
theorem lw_p95 : lw_okq (⟨"SnowMulesModel", "spreads", "(I)V"⟩, 42) := ⟨⟨by decide +kernel, by decide +kernel⟩, List.mem_of_getElem? (i := 1097) (by decide +kernel), List.mem_of_getElem? (i := 1605) (by decide +kernel), List.mem_of_getElem? (i := 1606) (by decide +kernel)⟩
def lw_privs_6 : List (MethodName × Nat) := [(⟨"SnowMulesModel", "reckons", "(III)J"⟩, 42), (⟨"SnowMulesModel", "push", "(J)V"⟩, 42), (⟨"SnowMulesModel", "pop", "()J"⟩, 42), (⟨"SnowMulesModel", "comes", "(II)V"⟩, 42), (⟨"SnowMulesModel", "draw", "()I"⟩, 42), (⟨"SnowMulesModel", "goesFor", "(I)V"⟩, 42), (⟨"SnowMulesModel", "bursts", "(IIII)V"⟩, 42), (⟨"SnowMulesModel", "wayEnd", "()I"⟩, 42), (⟨"SnowMulesModel", "isOfWay", "(I)Z"⟩, 42), (⟨"SnowMulesModel", "canTry", "(IIIII)Z"⟩, 42), (⟨"SnowMulesModel", "sets", "(IIIII)V"⟩, 42), (⟨"SnowMulesModel", "travels", "(II)V"⟩, 42), (⟨"SnowMulesModel", "searchesDay", "(IIIIIIII)V"⟩, 42), (⟨"SnowMulesModel", "searches", "(IIIIIIIII)V"⟩, 42), (⟨"SnowMulesModel", "wasAt", "(II)Z"⟩, 42), (⟨"SnowMulesModel", "spreads", "(I)V"⟩, 42)]
theorem lw_r6 : ∀ q ∈ lw_privs_6, lw_okq q := List.forall_mem_cons.mpr ⟨lw_p80, List.forall_mem_cons.mpr ⟨lw_p81, List.forall_mem_cons.mpr ⟨lw_p82, List.forall_mem_cons.mpr ⟨lw_p83, List.forall_mem_cons.mpr ⟨lw_p84, List.forall_mem_cons.mpr ⟨lw_p85, List.forall_mem_cons.mpr ⟨lw_p86, List.forall_mem_cons.mpr ⟨lw_p87, List.forall_mem_cons.mpr ⟨lw_p88, List.forall_mem_cons.mpr ⟨lw_p89, List.forall_mem_cons.mpr ⟨lw_p90, List.forall_mem_cons.mpr ⟨lw_p91, List.forall_mem_cons.mpr ⟨lw_p92, List.forall_mem_cons.mpr ⟨lw_p93, List.forall_mem_cons.mpr ⟨lw_p94, List.forall_mem_cons.mpr ⟨lw_p95, fun _ h => absurd h List.not_mem_nil⟩⟩⟩⟩⟩⟩⟩⟩⟩⟩⟩⟩⟩⟩⟩⟩
theorem lw_p96 : lw_okq (⟨"SnowMulesModel", "waits", "(I)V"⟩, 42) := ⟨⟨by decide +kernel, by decide +kernel⟩, List.mem_of_getElem? (i := 1097) (by decide +kernel), List.mem_of_getElem? (i := 1622) (by decide +kernel), List.mem_of_getElem? (i := 1623) (by decide +kernel)⟩
theorem lw_p97 : lw_okq (⟨"SnowMulesModel", "waitsOtherwise", "()Z"⟩, 42) := ⟨⟨by decide +kernel, by decide +kernel⟩, List.mem_of_getElem? (i := 1097) (by decide +kernel), List.mem_of_getElem? (i := 1626) (by decide +kernel), List.mem_of_getElem? (i := 1627) (by decide +kernel)⟩
theorem lw_p98 : lw_okq (⟨"SnowMulesModel", "servesBy", "(III)I"⟩, 42) := ⟨⟨by decide +kernel, by decide +kernel⟩, List.mem_of_getElem? (i := 1097) (by decide +kernel), List.mem_of_getElem? (i := 1639) (by decide +kernel), List.mem_of_getElem? (i := 1640) (by decide +kernel)⟩
theorem lw_p99 : lw_okq (⟨"SnowMulesModel", "priceFrom", "(II)I"⟩, 42) := ⟨⟨by decide +kernel, by decide +kernel⟩, List.mem_of_getElem? (i := 1097) (by decide +kernel), List.mem_of_getElem? (i := 1648) (by decide +kernel), List.mem_of_getElem? (i := 1649) (by decide +kernel)⟩
theorem lw_p100 : lw_okq (⟨"SnowMulesModel", "canServe", "(II)Z"⟩, 42) := ⟨⟨by decide +kernel, by decide +kernel⟩, List.mem_of_getElem? (i := 1097) (by decide +kernel), List.mem_of_getElem? (i := 1652) (by decide +kernel), List.mem_of_getElem? (i := 1653) (by decide +kernel)⟩
theorem lw_p101 : lw_okq (⟨"SnowMulesModel", "isEnough", "(III)Z"⟩, 42) := ⟨⟨by decide +kernel, by decide +kernel⟩, List.mem_of_getElem? (i := 1097) (by decide +kernel), List.mem_of_getElem? (i := 1668) (by decide +kernel), List.mem_of_getElem? (i := 1669) (by decide +kernel)⟩
def lw_privs_7 : List (MethodName × Nat) := [(⟨"SnowMulesModel", "waits", "(I)V"⟩, 42), (⟨"SnowMulesModel", "waitsOtherwise", "()Z"⟩, 42), (⟨"SnowMulesModel", "servesBy", "(III)I"⟩, 42), (⟨"SnowMulesModel", "priceFrom", "(II)I"⟩, 42), (⟨"SnowMulesModel", "canServe", "(II)Z"⟩, 42), (⟨"SnowMulesModel", "isEnough", "(III)Z"⟩, 42)]
theorem lw_r7 : ∀ q ∈ lw_privs_7, lw_okq q := List.forall_mem_cons.mpr ⟨lw_p96, List.forall_mem_cons.mpr ⟨lw_p97, List.forall_mem_cons.mpr ⟨lw_p98, List.forall_mem_cons.mpr ⟨lw_p99, List.forall_mem_cons.mpr ⟨lw_p100, List.forall_mem_cons.mpr ⟨lw_p101, fun _ h => absurd h List.not_mem_nil⟩⟩⟩⟩⟩⟩
def lw_privs : List (MethodName × Nat) := lw_privs_1 ++ (lw_privs_2 ++ (lw_privs_3 ++ (lw_privs_4 ++ (lw_privs_5 ++ (lw_privs_6 ++ (lw_privs_7))))))
def lw_tbl : List Cond := k2_sels lw_privs ++ tables_1
theorem lw_privs_ok : ∀ q ∈ lw_privs, lw_okq q := by
  show ∀ q ∈ lw_privs_1 ++ (lw_privs_2 ++ (lw_privs_3 ++ (lw_privs_4 ++ (lw_privs_5 ++ (lw_privs_6 ++ (lw_privs_7)))))), lw_okq q
  exact List.forall_mem_append.mpr ⟨lw_r1, List.forall_mem_append.mpr ⟨lw_r2, List.forall_mem_append.mpr ⟨lw_r3, List.forall_mem_append.mpr ⟨lw_r4, List.forall_mem_append.mpr ⟨lw_r5, List.forall_mem_append.mpr ⟨lw_r6, lw_r7⟩⟩⟩⟩⟩⟩
end
section
theorem goodIn_r {big : List Cond} (ws : List Cond) (ps : List Nat) (hp : ws = ps.filterMap (fun i => big[i]?)) (h : ws.all goodWord = true) : GoodIn big ws := by
  intro w hw
  have h1 := List.all_eq_true.mp h w hw
  rw [hp] at hw
  obtain ⟨i, -, hi⟩ := List.mem_filterMap.mp hw
  have hm : w ∈ big := by first | exact List.mem_of_getElem? hi | exact List.getElem?_mem hi
  exact ⟨hm, good_of_word h1⟩
theorem goodIn_app {big a b : List Cond} (ha : GoodIn big a) (hb : GoodIn big b) : GoodIn big (a ++ b) := fun w h => (List.mem_append.mp h).elim (ha w) (hb w)
theorem goodIn_ca {big a b : List Cond} {c : Cond} (ha : GoodIn big (c :: a)) (hb : GoodIn big b) : GoodIn big (c :: (a ++ b)) := fun w h => (List.mem_cons.mp h).elim (fun e => ha w (List.mem_cons.mpr (Or.inl e))) (fun h => (List.mem_append.mp h).elim (fun h => ha w (List.mem_cons.mpr (Or.inr h))) (hb w))
theorem goodIn_sub {big ws : List Cond} (hm : ∀ w ∈ ws, w ∈ big) (h : ws.all goodWord = true) : GoodIn big ws := fun w hw => ⟨hm w hw, good_of_word (List.all_eq_true.mp h w hw)⟩
def RX0 : String := "SnowMules$Hours"
def TX0 : u_T := fun k => match k with
  | _ => ("SnowMules$Hours", "scene", "LSnowMules$Scene;", true)
def tyX0 : Nat → FieldType := fun k => match k with
  | _ => .object "SnowMules$Scene"
abbrev wsX00 : List Cond := u_ws RX0 TX0 1
theorem nmX0 : ∀ a, a < 1 → ∀ b, b < 1 → a ≠ b → (TX0 a).2.1 ≠ (TX0 b).2.1 := by decide +kernel
theorem tyX0_ok : ∀ k, k < 1 → parseFieldDescriptor (TX0 k).2.2.1 = some (tyX0 k) := by decide +kernel
abbrev cX0_init : ByteArray := prog_2_method_1_code
def yX0_init : MethodName := ⟨RX0, "<init>", "()V"⟩
abbrev cX0_step : ByteArray := prog_2_method_2_code
def yX0_step : MethodName := ⟨RX0, "step", "(LSnowMules$World;LSnowMules$Law;)V"⟩
abbrev cX0_stepJar : ByteArray := prog_2_method_3_code
def yX0_stepJar : MethodName := ⟨RX0, "stepJar", "(LSnowMules$World;LSnowMules$Law;I)V"⟩
abbrev cX0_meltOf : ByteArray := prog_2_method_4_code
def yX0_meltOf : MethodName := ⟨RX0, "meltOf", "(LSnowMules$World;LSnowMules$Law;I)I"⟩
abbrev cX0_setLoadOf : ByteArray := prog_2_method_5_code
def yX0_setLoadOf : MethodName := ⟨RX0, "setLoadOf", "(LSnowMules$World;I)V"⟩
abbrev cX0_arrive : ByteArray := prog_2_method_6_code
def yX0_arrive : MethodName := ⟨RX0, "arrive", "(LSnowMules$World;LSnowMules$Law;I)V"⟩
abbrev cX0_burstFrom : ByteArray := prog_2_method_7_code
def yX0_burstFrom : MethodName := ⟨RX0, "burstFrom", "(LSnowMules$World;IIII)V"⟩
abbrev cX0_nextBehind : ByteArray := prog_2_method_8_code
def yX0_nextBehind : MethodName := ⟨RX0, "nextBehind", "(LSnowMules$World;III)I"⟩
abbrev cX0_restOf : ByteArray := prog_2_method_9_code
def yX0_restOf : MethodName := ⟨RX0, "restOf", "(LSnowMules$World;LSnowMules$Law;III)I"⟩
abbrev cX0_lasts : ByteArray := prog_2_method_10_code
def yX0_lasts : MethodName := ⟨RX0, "lasts", "(LSnowMules$World;LSnowMules$Law;II)Z"⟩
abbrev cX0_owedAt : ByteArray := prog_2_method_11_code
def yX0_owedAt : MethodName := ⟨RX0, "owedAt", "(LSnowMules$World;I)I"⟩
abbrev cX0_eatenOn : ByteArray := prog_2_method_12_code
def yX0_eatenOn : MethodName := ⟨RX0, "eatenOn", "(LSnowMules$World;II)I"⟩
def RX1 : String := "SnowMules$Law"
def TX1 : u_T := fun k => match k with
  | 0 => ("SnowMules$Law", "chain", "I", false)
  | 1 => ("SnowMules$Law", "clauses", "I", false)
  | 2 => ("SnowMules$Law", "sorts", "[I", true)
  | 3 => ("SnowMules$Law", "sumStarts", "[I", true)
  | 4 => ("SnowMules$Law", "sumStops", "[I", true)
  | 5 => ("SnowMules$Law", "testStarts", "[I", true)
  | 6 => ("SnowMules$Law", "testStops", "[I", true)
  | 7 => ("SnowMules$Law", "values", "I", false)
  | 8 => ("SnowMules$Law", "joins", "[I", true)
  | 9 => ("SnowMules$Law", "operands", "[I", true)
  | 10 => ("SnowMules$Law", "facts", "I", false)
  | 11 => ("SnowMules$Law", "factStarts", "[I", true)
  | 12 => ("SnowMules$Law", "factMiddles", "[I", true)
  | 13 => ("SnowMules$Law", "factStops", "[I", true)
  | 14 => ("SnowMules$Law", "signs", "[I", true)
  | 15 => ("SnowMules$Law", "steps", "I", false)
  | _ => ("SnowMules$Law", "tests", "[I", true)
def tyX1 : Nat → FieldType := fun k => match k with
  | 0 => .int
  | 1 => .int
  | 2 => .array .int
  | 3 => .array .int
  | 4 => .array .int
  | 5 => .array .int
  | 6 => .array .int
  | 7 => .int
  | 8 => .array .int
  | 9 => .array .int
  | 10 => .int
  | 11 => .array .int
  | 12 => .array .int
  | 13 => .array .int
  | 14 => .array .int
  | 15 => .int
  | _ => .array .int
abbrev wsX10 : List Cond := u_ws RX1 TX1 17
theorem nmX1 : ∀ a, a < 17 → ∀ b, b < 17 → a ≠ b → (TX1 a).2.1 ≠ (TX1 b).2.1 := by decide +kernel
theorem tyX1_ok : ∀ k, k < 17 → parseFieldDescriptor (TX1 k).2.2.1 = some (tyX1 k) := by decide +kernel
abbrev cX1_init : ByteArray := prog_3_method_1_code
def yX1_init : MethodName := ⟨RX1, "<init>", "()V"⟩
abbrev cX1_clear : ByteArray := prog_3_method_2_code
def yX1_clear : MethodName := ⟨RX1, "clear", "()V"⟩
abbrev cX1_beginClause : ByteArray := prog_3_method_3_code
def yX1_beginClause : MethodName := ⟨RX1, "beginClause", "(I)V"⟩
abbrev cX1_endSum : ByteArray := prog_3_method_4_code
def yX1_endSum : MethodName := ⟨RX1, "endSum", "()V"⟩
abbrev cX1_endTest : ByteArray := prog_3_method_5_code
def yX1_endTest : MethodName := ⟨RX1, "endTest", "()V"⟩
abbrev cX1_addValue : ByteArray := prog_3_method_6_code
def yX1_addValue : MethodName := ⟨RX1, "addValue", "(II)V"⟩
abbrev cX1_addFact : ByteArray := prog_3_method_7_code
def yX1_addFact : MethodName := ⟨RX1, "addFact", "(III)V"⟩
abbrev cX1_addStep : ByteArray := prog_3_method_8_code
def yX1_addStep : MethodName := ⟨RX1, "addStep", "(I)V"⟩
abbrev cX1_sumOf : ByteArray := prog_3_method_9_code
def yX1_sumOf : MethodName := ⟨RX1, "sumOf", "(I[I)J"⟩
abbrev cX1_holds : ByteArray := prog_3_method_10_code
def yX1_holds : MethodName := ⟨RX1, "holds", "(II[I)Z"⟩
abbrev cX1_isTrue : ByteArray := prog_3_method_11_code
def yX1_isTrue : MethodName := ⟨RX1, "isTrue", "(JIJ)Z"⟩
abbrev cX1_total : ByteArray := prog_3_method_12_code
def yX1_total : MethodName := ⟨RX1, "total", "(II[I)J"⟩
def RX2 : String := "SnowMules$LawReader"
def TX2 : u_T := fun k => match k with
  | 0 => ("SnowMules$LawReader", "tokens", "[I", true)
  | 1 => ("SnowMules$LawReader", "places", "[I", true)
  | 2 => ("SnowMules$LawReader", "tokenCount", "I", false)
  | 3 => ("SnowMules$LawReader", "next", "I", false)
  | 4 => ("SnowMules$LawReader", "fault", "I", false)
  | 5 => ("SnowMules$LawReader", "parts", "I", false)
  | 6 => ("SnowMules$LawReader", "chained", "Z", false)
  | _ => ("SnowMules$LawReader", "law", "LSnowMules$Law;", false)
def tyX2 : Nat → FieldType := fun k => match k with
  | 0 => .array .int
  | 1 => .array .int
  | 2 => .int
  | 3 => .int
  | 4 => .int
  | 5 => .int
  | 6 => .boolean
  | _ => .object "SnowMules$Law"
abbrev wsX20 : List Cond := u_ws RX2 TX2 8
theorem nmX2 : ∀ a, a < 8 → ∀ b, b < 8 → a ≠ b → (TX2 a).2.1 ≠ (TX2 b).2.1 := by decide +kernel
theorem tyX2_ok : ∀ k, k < 8 → parseFieldDescriptor (TX2 k).2.2.1 = some (tyX2 k) := by decide +kernel
abbrev cX2_init : ByteArray := prog_4_method_1_code
def yX2_init : MethodName := ⟨RX2, "<init>", "()V"⟩
abbrev cX2_read : ByteArray := prog_4_method_2_code
def yX2_read : MethodName := ⟨RX2, "read", "([IILSnowMules$Law;)I"⟩
abbrev cX2_cut : ByteArray := prog_4_method_3_code
def yX2_cut : MethodName := ⟨RX2, "cut", "([II)V"⟩
abbrev cX2_addToken : ByteArray := prog_4_method_4_code
def yX2_addToken : MethodName := ⟨RX2, "addToken", "(II)V"⟩
abbrev cX2_isLetter : ByteArray := prog_4_method_5_code
def yX2_isLetter : MethodName := ⟨RX2, "isLetter", "(I)Z"⟩
abbrev cX2_isDigit : ByteArray := prog_4_method_6_code
def yX2_isDigit : MethodName := ⟨RX2, "isDigit", "(I)Z"⟩
abbrev cX2_stopOf : ByteArray := prog_4_method_7_code
def yX2_stopOf : MethodName := ⟨RX2, "stopOf", "([III)I"⟩
abbrev cX2_tokenOf : ByteArray := prog_4_method_8_code
def yX2_tokenOf : MethodName := ⟨RX2, "tokenOf", "([III)I"⟩
abbrev cX2_wordToken : ByteArray := prog_4_method_9_code
def yX2_wordToken : MethodName := ⟨RX2, "wordToken", "([III)I"⟩
abbrev cX2_numberToken : ByteArray := prog_4_method_10_code
def yX2_numberToken : MethodName := ⟨RX2, "numberToken", "([III)I"⟩
abbrev cX2_token : ByteArray := prog_4_method_11_code
def yX2_token : MethodName := ⟨RX2, "token", "()I"⟩
abbrev cX2_refuse : ByteArray := prog_4_method_12_code
def yX2_refuse : MethodName := ⟨RX2, "refuse", "(I)Z"⟩
abbrev cX2_take : ByteArray := prog_4_method_13_code
def yX2_take : MethodName := ⟨RX2, "take", "(I)Z"⟩
abbrev cX2_readClause : ByteArray := prog_4_method_14_code
def yX2_readClause : MethodName := ⟨RX2, "readClause", "(I)Z"⟩
abbrev cX2_readChain : ByteArray := prog_4_method_15_code
def yX2_readChain : MethodName := ⟨RX2, "readChain", "()Z"⟩
abbrev cX2_readSum : ByteArray := prog_4_method_16_code
def yX2_readSum : MethodName := ⟨RX2, "readSum", "()Z"⟩
abbrev cX2_joinOf : ByteArray := prog_4_method_17_code
def yX2_joinOf : MethodName := ⟨RX2, "joinOf", "(I)I"⟩
abbrev cX2_readValue : ByteArray := prog_4_method_18_code
def yX2_readValue : MethodName := ⟨RX2, "readValue", "(I)Z"⟩
abbrev cX2_readTest : ByteArray := prog_4_method_19_code
def yX2_readTest : MethodName := ⟨RX2, "readTest", "(I)Z"⟩
abbrev cX2_readPart : ByteArray := prog_4_method_20_code
def yX2_readPart : MethodName := ⟨RX2, "readPart", "(I)Z"⟩
abbrev cX2_readFact : ByteArray := prog_4_method_21_code
def yX2_readFact : MethodName := ⟨RX2, "readFact", "(I)Z"⟩
abbrev cX2_readComparison : ByteArray := prog_4_method_22_code
def yX2_readComparison : MethodName := ⟨RX2, "readComparison", "()Z"⟩
abbrev cX2_signOf : ByteArray := prog_4_method_23_code
def yX2_signOf : MethodName := ⟨RX2, "signOf", "(I)I"⟩
def RX3 : String := "SnowMules$Market"
def TX3 : u_T := fun k => match k with
  | 0 => ("SnowMules$Market", "paid", "I", false)
  | 1 => ("SnowMules$Market", "offers", "[I", true)
  | 2 => ("SnowMules$Market", "chosen", "[I", true)
  | _ => ("SnowMules$Market", "world", "LSnowMules$World;", true)
def tyX3 : Nat → FieldType := fun k => match k with
  | 0 => .int
  | 1 => .array .int
  | 2 => .array .int
  | _ => .object "SnowMules$World"
abbrev wsX30 : List Cond := u_ws RX3 TX3 4
theorem nmX3 : ∀ a, a < 4 → ∀ b, b < 4 → a ≠ b → (TX3 a).2.1 ≠ (TX3 b).2.1 := by decide +kernel
theorem tyX3_ok : ∀ k, k < 4 → parseFieldDescriptor (TX3 k).2.2.1 = some (tyX3 k) := by decide +kernel
abbrev cX3_init : ByteArray := prog_5_method_1_code
def yX3_init : MethodName := ⟨RX3, "<init>", "(LSnowMules$World;)V"⟩
abbrev cX3_open : ByteArray := prog_5_method_2_code
def yX3_open : MethodName := ⟨RX3, "open", "()V"⟩
abbrev cX3_offer : ByteArray := prog_5_method_3_code
def yX3_offer : MethodName := ⟨RX3, "offer", "(II)V"⟩
abbrev cX3_jarFor : ByteArray := prog_5_method_4_code
def yX3_jarFor : MethodName := ⟨RX3, "jarFor", "(I)I"⟩
abbrev cX3_choose : ByteArray := prog_5_method_5_code
def yX3_choose : MethodName := ⟨RX3, "choose", "()V"⟩
abbrev cX3_firstJar : ByteArray := prog_5_method_6_code
def yX3_firstJar : MethodName := ⟨RX3, "firstJar", "(III)I"⟩
abbrev cX3_greatest : ByteArray := prog_5_method_7_code
def yX3_greatest : MethodName := ⟨RX3, "greatest", "(II)I"⟩
abbrev cX3_priceOf : ByteArray := prog_5_method_8_code
def yX3_priceOf : MethodName := ⟨RX3, "priceOf", "(I)I"⟩
abbrev cX3_canServe : ByteArray := prog_5_method_9_code
def yX3_canServe : MethodName := ⟨RX3, "canServe", "(II)Z"⟩
def RX4 : String := "SnowMules$Scene"
def TX4 : u_T := fun k => match k with
  | 0 => ("SnowMules$Scene", "words", "[I", true)
  | 1 => ("SnowMules$Scene", "heightBehind", "I", false)
  | 2 => ("SnowMules$Scene", "heightAhead", "I", false)
  | _ => ("SnowMules$Scene", "hoursOfPass", "I", false)
def tyX4 : Nat → FieldType := fun k => match k with
  | 0 => .array .int
  | 1 => .int
  | 2 => .int
  | _ => .int
abbrev wsX40 : List Cond := u_ws RX4 TX4 4
theorem nmX4 : ∀ a, a < 4 → ∀ b, b < 4 → a ≠ b → (TX4 a).2.1 ≠ (TX4 b).2.1 := by decide +kernel
theorem tyX4_ok : ∀ k, k < 4 → parseFieldDescriptor (TX4 k).2.2.1 = some (tyX4 k) := by decide +kernel
abbrev cX4_init : ByteArray := prog_6_method_1_code
def yX4_init : MethodName := ⟨RX4, "<init>", "()V"⟩
abbrev cX4_setHour : ByteArray := prog_6_method_2_code
def yX4_setHour : MethodName := ⟨RX4, "setHour", "(LSnowMules$World;I)V"⟩
abbrev cX4_setNode : ByteArray := prog_6_method_3_code
def yX4_setNode : MethodName := ⟨RX4, "setNode", "(LSnowMules$World;I)V"⟩
abbrev cX4_setPass : ByteArray := prog_6_method_4_code
def yX4_setPass : MethodName := ⟨RX4, "setPass", "(LSnowMules$World;II)V"⟩
abbrev cX4_setGone : ByteArray := prog_6_method_5_code
def yX4_setGone : MethodName := ⟨RX4, "setGone", "(I)V"⟩
abbrev cX4_setLoad : ByteArray := prog_6_method_6_code
def yX4_setLoad : MethodName := ⟨RX4, "setLoad", "(III)V"⟩
def RX5 : String := "SnowMules$Search"
def TX5 : u_T := fun k => match k with
  | 0 => ("SnowMules$Search", "left", "I", false)
  | 1 => ("SnowMules$Search", "leaving", "I", false)
  | 2 => ("SnowMules$Search", "length", "I", false)
  | 3 => ("SnowMules$Search", "target", "I", false)
  | 4 => ("SnowMules$Search", "barred", "I", false)
  | 5 => ("SnowMules$Search", "latest", "I", false)
  | 6 => ("SnowMules$Search", "waited", "I", false)
  | 7 => ("SnowMules$Search", "anyWill", "Z", false)
  | 8 => ("SnowMules$Search", "far", "[I", true)
  | 9 => ("SnowMules$Search", "row", "[I", true)
  | 10 => ("SnowMules$Search", "bestRow", "[I", true)
  | 11 => ("SnowMules$Search", "world", "LSnowMules$World;", true)
  | _ => ("SnowMules$Search", "trip", "LSnowMules$Trip;", true)
def tyX5 : Nat → FieldType := fun k => match k with
  | 0 => .int
  | 1 => .int
  | 2 => .int
  | 3 => .int
  | 4 => .int
  | 5 => .int
  | 6 => .int
  | 7 => .boolean
  | 8 => .array .int
  | 9 => .array .int
  | 10 => .array .int
  | 11 => .object "SnowMules$World"
  | _ => .object "SnowMules$Trip"
abbrev wsX50 : List Cond := u_ws RX5 TX5 13
theorem nmX5 : ∀ a, a < 13 → ∀ b, b < 13 → a ≠ b → (TX5 a).2.1 ≠ (TX5 b).2.1 := by decide +kernel
theorem tyX5_ok : ∀ k, k < 13 → parseFieldDescriptor (TX5 k).2.2.1 = some (tyX5 k) := by decide +kernel
abbrev cX5_init : ByteArray := prog_7_method_1_code
def yX5_init : MethodName := ⟨RX5, "<init>", "(LSnowMules$World;LSnowMules$Trip;)V"⟩
abbrev cX5_aim : ByteArray := prog_7_method_2_code
def yX5_aim : MethodName := ⟨RX5, "aim", "(II)V"⟩
abbrev cX5_findBest : ByteArray := prog_7_method_3_code
def yX5_findBest : MethodName := ⟨RX5, "findBest", "(I)V"⟩
abbrev cX5_leftFor : ByteArray := prog_7_method_4_code
def yX5_leftFor : MethodName := ⟨RX5, "leftFor", "(LSnowMules$Law;IIZ)I"⟩
abbrev cX5_seek : ByteArray := prog_7_method_5_code
def yX5_seek : MethodName := ⟨RX5, "seek", "(III)V"⟩
abbrev cX5_keep : ByteArray := prog_7_method_6_code
def yX5_keep : MethodName := ⟨RX5, "keep", "(I)V"⟩
abbrev cX5_passOf : ByteArray := prog_7_method_7_code
def yX5_passOf : MethodName := ⟨RX5, "passOf", "(I)I"⟩
abbrev cX5_farTo : ByteArray := prog_7_method_8_code
def yX5_farTo : MethodName := ⟨RX5, "farTo", "(I)I"⟩
abbrev cX5_measure : ByteArray := prog_7_method_9_code
def yX5_measure : MethodName := ⟨RX5, "measure", "(IIZ)V"⟩
abbrev cX5_shorten : ByteArray := prog_7_method_10_code
def yX5_shorten : MethodName := ⟨RX5, "shorten", "(IZ)Z"⟩
abbrev cX5_reach : ByteArray := prog_7_method_11_code
def yX5_reach : MethodName := ⟨RX5, "reach", "(II)Z"⟩
def RX6 : String := "SnowMules$Table"
def TX6 : u_T := fun k => match k with
  | 0 => ("SnowMules$Table", "width", "I", true)
  | 1 => ("SnowMules$Table", "cells", "[I", true)
  | _ => ("SnowMules$Table", "size", "I", false)
def tyX6 : Nat → FieldType := fun k => match k with
  | 0 => .int
  | 1 => .array .int
  | _ => .int
abbrev wsX60 : List Cond := u_ws RX6 TX6 3
theorem nmX6 : ∀ a, a < 3 → ∀ b, b < 3 → a ≠ b → (TX6 a).2.1 ≠ (TX6 b).2.1 := by decide +kernel
theorem tyX6_ok : ∀ k, k < 3 → parseFieldDescriptor (TX6 k).2.2.1 = some (tyX6 k) := by decide +kernel
abbrev cX6_init : ByteArray := prog_8_method_1_code
def yX6_init : MethodName := ⟨RX6, "<init>", "(II)V"⟩
abbrev cX6_has : ByteArray := prog_8_method_2_code
def yX6_has : MethodName := ⟨RX6, "has", "(I)Z"⟩
abbrev cX6_get : ByteArray := prog_8_method_3_code
def yX6_get : MethodName := ⟨RX6, "get", "(II)I"⟩
abbrev cX6_put : ByteArray := prog_8_method_4_code
def yX6_put : MethodName := ⟨RX6, "put", "(III)V"⟩
abbrev cX6_grow : ByteArray := prog_8_method_5_code
def yX6_grow : MethodName := ⟨RX6, "grow", "()I"⟩
abbrev cX6_copyFrom : ByteArray := prog_8_method_6_code
def yX6_copyFrom : MethodName := ⟨RX6, "copyFrom", "(LSnowMules$Table;)V"⟩
def RX7 : String := "SnowMules$Trip"
def TX7 : u_T := fun k => match k with
  | 0 => ("SnowMules$Trip", "drops", "I", false)
  | 1 => ("SnowMules$Trip", "hour", "I", false)
  | 2 => ("SnowMules$Trip", "warmth", "I", false)
  | 3 => ("SnowMules$Trip", "needed", "I", false)
  | 4 => ("SnowMules$Trip", "felt", "I", false)
  | 5 => ("SnowMules$Trip", "salt", "I", false)
  | 6 => ("SnowMules$Trip", "law", "LSnowMules$Law;", false)
  | 7 => ("SnowMules$Trip", "world", "LSnowMules$World;", true)
  | _ => ("SnowMules$Trip", "scene", "LSnowMules$Scene;", true)
def tyX7 : Nat → FieldType := fun k => match k with
  | 0 => .int
  | 1 => .int
  | 2 => .int
  | 3 => .int
  | 4 => .int
  | 5 => .int
  | 6 => .object "SnowMules$Law"
  | 7 => .object "SnowMules$World"
  | _ => .object "SnowMules$Scene"
abbrev wsX70 : List Cond := u_ws RX7 TX7 9
theorem nmX7 : ∀ a, a < 9 → ∀ b, b < 9 → a ≠ b → (TX7 a).2.1 ≠ (TX7 b).2.1 := by decide +kernel
theorem tyX7_ok : ∀ k, k < 9 → parseFieldDescriptor (TX7 k).2.2.1 = some (tyX7 k) := by decide +kernel
abbrev cX7_init : ByteArray := prog_9_method_1_code
def yX7_init : MethodName := ⟨RX7, "<init>", "(LSnowMules$World;)V"⟩
abbrev cX7_begin : ByteArray := prog_9_method_2_code
def yX7_begin : MethodName := ⟨RX7, "begin", "(LSnowMules$Law;IIII)V"⟩
abbrev cX7_waitAt : ByteArray := prog_9_method_3_code
def yX7_waitAt : MethodName := ⟨RX7, "waitAt", "(I)V"⟩
abbrev cX7_meltOneHour : ByteArray := prog_9_method_4_code
def yX7_meltOneHour : MethodName := ⟨RX7, "meltOneHour", "()V"⟩
abbrev cX7_cross : ByteArray := prog_9_method_5_code
def yX7_cross : MethodName := ⟨RX7, "cross", "(II)I"⟩
abbrev cX7_followKeeping : ByteArray := prog_9_method_6_code
def yX7_followKeeping : MethodName := ⟨RX7, "followKeeping", "(I)Z"⟩
abbrev cX7_venture : ByteArray := prog_9_method_7_code
def yX7_venture : MethodName := ⟨RX7, "venture", "()I"⟩
def RX8 : String := "SnowMules$Waits"
def TX8 : u_T := fun k => match k with
  | 0 => ("SnowMules$Waits", "found", "I", false)
  | 1 => ("SnowMules$Waits", "due", "I", false)
  | 2 => ("SnowMules$Waits", "waited", "[I", true)
  | 3 => ("SnowMules$Waits", "fewest", "[I", true)
  | 4 => ("SnowMules$Waits", "most", "[I", true)
  | 5 => ("SnowMules$Waits", "world", "LSnowMules$World;", true)
  | _ => ("SnowMules$Waits", "trip", "LSnowMules$Trip;", true)
def tyX8 : Nat → FieldType := fun k => match k with
  | 0 => .int
  | 1 => .int
  | 2 => .array .int
  | 3 => .array .int
  | 4 => .array .int
  | 5 => .object "SnowMules$World"
  | _ => .object "SnowMules$Trip"
abbrev wsX80 : List Cond := u_ws RX8 TX8 7
theorem nmX8 : ∀ a, a < 7 → ∀ b, b < 7 → a ≠ b → (TX8 a).2.1 ≠ (TX8 b).2.1 := by decide +kernel
theorem tyX8_ok : ∀ k, k < 7 → parseFieldDescriptor (TX8 k).2.2.1 = some (tyX8 k) := by decide +kernel
abbrev cX8_init : ByteArray := prog_10_method_1_code
def yX8_init : MethodName := ⟨RX8, "<init>", "(LSnowMules$World;LSnowMules$Trip;)V"⟩
abbrev cX8_find : ByteArray := prog_10_method_2_code
def yX8_find : MethodName := ⟨RX8, "find", "(II)V"⟩
abbrev cX8_spread : ByteArray := prog_10_method_3_code
def yX8_spread : MethodName := ⟨RX8, "spread", "(III)V"⟩
abbrev cX8_note : ByteArray := prog_10_method_4_code
def yX8_note : MethodName := ⟨RX8, "note", "(I)V"⟩
abbrev cX8_fewestAt : ByteArray := prog_10_method_5_code
def yX8_fewestAt : MethodName := ⟨RX8, "fewestAt", "(I)I"⟩
abbrev cX8_mostAt : ByteArray := prog_10_method_6_code
def yX8_mostAt : MethodName := ⟨RX8, "mostAt", "(I)I"⟩
def RX9 : String := "SnowMules$World"
def TX9 : u_T := fun k => match k with
  | 0 => ("SnowMules$World", "nodes", "LSnowMules$Table;", true)
  | 1 => ("SnowMules$World", "passes", "LSnowMules$Table;", true)
  | 2 => ("SnowMules$World", "jars", "LSnowMules$Table;", true)
  | 3 => ("SnowMules$World", "orders", "LSnowMules$Table;", true)
  | 4 => ("SnowMules$World", "feasts", "LSnowMules$Table;", true)
  | 5 => ("SnowMules$World", "way", "LSnowMules$Table;", true)
  | 6 => ("SnowMules$World", "wayStart", "I", false)
  | 7 => ("SnowMules$World", "now", "I", false)
  | 8 => ("SnowMules$World", "firstMonth", "I", false)
  | _ => ("SnowMules$World", "x", "I", false)
def tyX9 : Nat → FieldType := fun k => match k with
  | 0 => .object "SnowMules$Table"
  | 1 => .object "SnowMules$Table"
  | 2 => .object "SnowMules$Table"
  | 3 => .object "SnowMules$Table"
  | 4 => .object "SnowMules$Table"
  | 5 => .object "SnowMules$Table"
  | 6 => .int
  | 7 => .int
  | 8 => .int
  | _ => .int
abbrev wsX90 : List Cond := u_ws RX9 TX9 10
theorem nmX9 : ∀ a, a < 10 → ∀ b, b < 10 → a ≠ b → (TX9 a).2.1 ≠ (TX9 b).2.1 := by decide +kernel
theorem tyX9_ok : ∀ k, k < 10 → parseFieldDescriptor (TX9 k).2.2.1 = some (tyX9 k) := by decide +kernel
abbrev cX9_init : ByteArray := prog_11_method_1_code
def yX9_init : MethodName := ⟨RX9, "<init>", "()V"⟩
abbrev cX9_copyFrom : ByteArray := prog_11_method_2_code
def yX9_copyFrom : MethodName := ⟨RX9, "copyFrom", "(LSnowMules$World;)V"⟩
abbrev cX9_monthAt : ByteArray := prog_11_method_3_code
def yX9_monthAt : MethodName := ⟨RX9, "monthAt", "(I)I"⟩
abbrev cX9_hasSnow : ByteArray := prog_11_method_4_code
def yX9_hasSnow : MethodName := ⟨RX9, "hasSnow", "(II)Z"⟩
abbrev cX9_otherEnd : ByteArray := prog_11_method_5_code
def yX9_otherEnd : MethodName := ⟨RX9, "otherEnd", "(II)I"⟩
abbrev cX9_wayEnd : ByteArray := prog_11_method_6_code
def yX9_wayEnd : MethodName := ⟨RX9, "wayEnd", "()I"⟩
abbrev cX9_wayHas : ByteArray := prog_11_method_7_code
def yX9_wayHas : MethodName := ⟨RX9, "wayHas", "(I)Z"⟩
abbrev cX9_nodeOf : ByteArray := prog_11_method_8_code
def yX9_nodeOf : MethodName := ⟨RX9, "nodeOf", "(I)I"⟩
abbrev cX9_standAt : ByteArray := prog_11_method_9_code
def yX9_standAt : MethodName := ⟨RX9, "standAt", "(II)V"⟩
abbrev cX9_lose : ByteArray := prog_11_method_10_code
def yX9_lose : MethodName := ⟨RX9, "lose", "(I)V"⟩
abbrev cX9_bring : ByteArray := prog_11_method_11_code
def yX9_bring : MethodName := ⟨RX9, "bring", "(II)I"⟩
abbrev cX9_jarsAt : ByteArray := prog_11_method_12_code
def yX9_jarsAt : MethodName := ⟨RX9, "jarsAt", "(I)I"⟩
abbrev cX9_jarsThatAre : ByteArray := prog_11_method_13_code
def yX9_jarsThatAre : MethodName := ⟨RX9, "jarsThatAre", "()I"⟩
abbrev cX9_dropsOfAll : ByteArray := prog_11_method_14_code
def yX9_dropsOfAll : MethodName := ⟨RX9, "dropsOfAll", "()I"⟩
abbrev cX9_draw : ByteArray := prog_11_method_15_code
def yX9_draw : MethodName := ⟨RX9, "draw", "()I"⟩
def RX10 : String := "SnowMules"
def TX10 : u_T := fun k => match k with
  | 0 => ("SnowMules", "world", "LSnowMules$World;", true)
  | 1 => ("SnowMules", "later", "LSnowMules$World;", true)
  | 2 => ("SnowMules", "images", "[LSnowMules$World;", true)
  | 3 => ("SnowMules", "tape", "[I", true)
  | 4 => ("SnowMules", "tapeLength", "I", false)
  | 5 => ("SnowMules", "laws", "[LSnowMules$Law;", true)
  | 6 => ("SnowMules", "lawCount", "I", false)
  | 7 => ("SnowMules", "reader", "LSnowMules$LawReader;", true)
  | 8 => ("SnowMules", "hours", "LSnowMules$Hours;", true)
  | 9 => ("SnowMules", "trip", "LSnowMules$Trip;", true)
  | 10 => ("SnowMules", "search", "LSnowMules$Search;", true)
  | 11 => ("SnowMules", "waits", "LSnowMules$Waits;", true)
  | _ => ("SnowMules", "market", "LSnowMules$Market;", true)
def tyX10 : Nat → FieldType := fun k => match k with
  | 0 => .object "SnowMules$World"
  | 1 => .object "SnowMules$World"
  | 2 => .array (.object "SnowMules$World")
  | 3 => .array .int
  | 4 => .int
  | 5 => .array (.object "SnowMules$Law")
  | 6 => .int
  | 7 => .object "SnowMules$LawReader"
  | 8 => .object "SnowMules$Hours"
  | 9 => .object "SnowMules$Trip"
  | 10 => .object "SnowMules$Search"
  | 11 => .object "SnowMules$Waits"
  | _ => .object "SnowMules$Market"
abbrev wsX100 : List Cond := u_ws RX10 TX10 13
theorem nmX10 : ∀ a, a < 13 → ∀ b, b < 13 → a ≠ b → (TX10 a).2.1 ≠ (TX10 b).2.1 := by decide +kernel
theorem tyX10_ok : ∀ k, k < 13 → parseFieldDescriptor (TX10 k).2.2.1 = some (tyX10 k) := by decide +kernel
abbrev cX10_init : ByteArray := prog_1_method_1_code
def yX10_init : MethodName := ⟨RX10, "<init>", "()V"⟩
abbrev cX10_node : ByteArray := prog_1_method_2_code
def yX10_node : MethodName := ⟨RX10, "node", "(III)I"⟩
abbrev cX10_pass : ByteArray := prog_1_method_3_code
def yX10_pass : MethodName := ⟨RX10, "pass", "(IIIII)I"⟩
abbrev cX10_jar : ByteArray := prog_1_method_4_code
def yX10_jar : MethodName := ⟨RX10, "jar", "(IIIII)I"⟩
abbrev cX10_month : ByteArray := prog_1_method_5_code
def yX10_month : MethodName := ⟨RX10, "month", "(I)I"⟩
abbrev cX10_seed : ByteArray := prog_1_method_6_code
def yX10_seed : MethodName := ⟨RX10, "seed", "(I)I"⟩
abbrev cX10_feed : ByteArray := prog_1_method_7_code
def yX10_feed : MethodName := ⟨RX10, "feed", "(IIIII)I"⟩
abbrev cX10_end : ByteArray := prog_1_method_8_code
def yX10_end : MethodName := ⟨RX10, "end", "(I)I"⟩
abbrev cX10_law : ByteArray := prog_1_method_9_code
def yX10_law : MethodName := ⟨RX10, "law", "()I"⟩
abbrev cX10_fill : ByteArray := prog_1_method_10_code
def yX10_fill : MethodName := ⟨RX10, "fill", "(II)I"⟩
abbrev cX10_pour : ByteArray := prog_1_method_11_code
def yX10_pour : MethodName := ⟨RX10, "pour", "(I)I"⟩
abbrev cX10_store : ByteArray := prog_1_method_12_code
def yX10_store : MethodName := ⟨RX10, "store", "(II)I"⟩
abbrev cX10_leave : ByteArray := prog_1_method_13_code
def yX10_leave : MethodName := ⟨RX10, "leave", "(II)Z"⟩
abbrev cX10_tick : ByteArray := prog_1_method_14_code
def yX10_tick : MethodName := ⟨RX10, "tick", "(II)I"⟩
abbrev cX10_at : ByteArray := prog_1_method_15_code
def yX10_at : MethodName := ⟨RX10, "at", "(II)I"⟩
abbrev cX10_of : ByteArray := prog_1_method_16_code
def yX10_of : MethodName := ⟨RX10, "of", "(II)I"⟩
abbrev cX10_melt : ByteArray := prog_1_method_17_code
def yX10_melt : MethodName := ⟨RX10, "melt", "(II)I"⟩
abbrev cX10_lay : ByteArray := prog_1_method_18_code
def yX10_lay : MethodName := ⟨RX10, "lay", "(I)I"⟩
abbrev cX10_from : ByteArray := prog_1_method_19_code
def yX10_from : MethodName := ⟨RX10, "from", "(I)Z"⟩
abbrev cX10_tried : ByteArray := prog_1_method_20_code
def yX10_tried : MethodName := ⟨RX10, "tried", "(IIIIII)I"⟩
abbrev cX10_best : ByteArray := prog_1_method_21_code
def yX10_best : MethodName := ⟨RX10, "best", "(IIIIIIII)I"⟩
abbrev cX10_soonest : ByteArray := prog_1_method_22_code
def yX10_soonest : MethodName := ⟨RX10, "soonest", "(II)I"⟩
abbrev cX10_nearest : ByteArray := prog_1_method_23_code
def yX10_nearest : MethodName := ⟨RX10, "nearest", "(II)I"⟩
abbrev cX10_warmer : ByteArray := prog_1_method_24_code
def yX10_warmer : MethodName := ⟨RX10, "warmer", "(IIIIII)I"⟩
abbrev cX10_guess : ByteArray := prog_1_method_25_code
def yX10_guess : MethodName := ⟨RX10, "guess", "(IIIIIIIII)I"⟩
abbrev cX10_order : ByteArray := prog_1_method_26_code
def yX10_order : MethodName := ⟨RX10, "order", "(IIII)I"⟩
abbrev cX10_serves : ByteArray := prog_1_method_27_code
def yX10_serves : MethodName := ⟨RX10, "serves", "(III)I"⟩
abbrev cX10_all : ByteArray := prog_1_method_28_code
def yX10_all : MethodName := ⟨RX10, "all", "(II)I"⟩
abbrev cX10_feast : ByteArray := prog_1_method_29_code
def yX10_feast : MethodName := ⟨RX10, "feast", "(III)I"⟩
abbrev cX10_enough : ByteArray := prog_1_method_30_code
def yX10_enough : MethodName := ⟨RX10, "enough", "(III)I"⟩
abbrev cX10_least : ByteArray := prog_1_method_31_code
def yX10_least : MethodName := ⟨RX10, "least", "(II)I"⟩
abbrev cX10_nights : ByteArray := prog_1_method_32_code
def yX10_nights : MethodName := ⟨RX10, "nights", "(IIIII)I"⟩
abbrev cX10_price : ByteArray := prog_1_method_33_code
def yX10_price : MethodName := ⟨RX10, "price", "(IIIIII)I"⟩
abbrev cX10_ahead : ByteArray := prog_1_method_34_code
def yX10_ahead : MethodName := ⟨RX10, "ahead", "(III)I"⟩
abbrev cX10_count : ByteArray := prog_1_method_35_code
def yX10_count : MethodName := ⟨RX10, "count", "(I)I"⟩
abbrev cX10_image : ByteArray := prog_1_method_36_code
def yX10_image : MethodName := ⟨RX10, "image", "(I)I"⟩
abbrev cX10_back : ByteArray := prog_1_method_37_code
def yX10_back : MethodName := ⟨RX10, "back", "(I)I"⟩
abbrev cX10_lawOf : ByteArray := prog_1_method_38_code
def yX10_lawOf : MethodName := ⟨RX10, "lawOf", "(I)LSnowMules$Law;"⟩
abbrev cX10_writeBytes : ByteArray := prog_1_method_39_code
def yX10_writeBytes : MethodName := ⟨RX10, "writeBytes", "(I)V"⟩
abbrev cX10_isJourney : ByteArray := prog_1_method_40_code
def yX10_isJourney : MethodName := ⟨RX10, "isJourney", "(II)Z"⟩
abbrev cX10_isLoad : ByteArray := prog_1_method_41_code
def yX10_isLoad : MethodName := ⟨RX10, "isLoad", "(IIII)Z"⟩
abbrev cX10_isCover : ByteArray := prog_1_method_42_code
def yX10_isCover : MethodName := ⟨RX10, "isCover", "(II)Z"⟩
abbrev cX10_isWish : ByteArray := prog_1_method_43_code
def yX10_isWish : MethodName := ⟨RX10, "isWish", "(I)Z"⟩
abbrev cX10_within : ByteArray := prog_1_method_44_code
def yX10_within : MethodName := ⟨RX10, "within", "(II)Z"⟩
abbrev cX10_held : ByteArray := prog_1_method_45_code
def yX10_held : MethodName := ⟨RX10, "held", "(JI)I"⟩
def RX11 : String := "SnowMulesModel"
def TX11 : u_T := fun k => match k with
  | 0 => ("SnowMulesModel", "tape", "[B", true)
  | 1 => ("SnowMulesModel", "taped", "I", false)
  | 2 => ("SnowMulesModel", "laws", "I", false)
  | 3 => ("SnowMulesModel", "sign", "[I", true)
  | 4 => ("SnowMulesModel", "length", "[I", true)
  | 5 => ("SnowMulesModel", "clause", "[I", true)
  | 6 => ("SnowMulesModel", "clauses", "[I", true)
  | 7 => ("SnowMulesModel", "chain", "[I", true)
  | 8 => ("SnowMulesModel", "next", "I", false)
  | 9 => ("SnowMulesModel", "wrong", "I", false)
  | 10 => ("SnowMulesModel", "number", "I", false)
  | 11 => ("SnowMulesModel", "text", "I", false)
  | 12 => ("SnowMulesModel", "made", "I", false)
  | 13 => ("SnowMulesModel", "deep", "I", false)
  | 14 => ("SnowMulesModel", "lines", "I", false)
  | 15 => ("SnowMulesModel", "open", "[I", true)
  | 16 => ("SnowMulesModel", "opened", "I", false)
  | 17 => ("SnowMulesModel", "stack", "[J", true)
  | 18 => ("SnowMulesModel", "top", "I", false)
  | 19 => ("SnowMulesModel", "word", "[J", true)
  | 20 => ("SnowMulesModel", "said", "[I", true)
  | 21 => ("SnowMulesModel", "kept", "[I", true)
  | 22 => ("SnowMulesModel", "goNode", "I", false)
  | 23 => ("SnowMulesModel", "goDrops", "I", false)
  | 24 => ("SnowMulesModel", "goHour", "I", false)
  | 25 => ("SnowMulesModel", "goFelt", "I", false)
  | 26 => ("SnowMulesModel", "goSalt", "I", false)
  | 27 => ("SnowMulesModel", "goMore", "I", false)
  | 28 => ("SnowMulesModel", "stepNode", "[I", true)
  | 29 => ("SnowMulesModel", "stepDrops", "[I", true)
  | 30 => ("SnowMulesModel", "stepHour", "[I", true)
  | 31 => ("SnowMulesModel", "stepNext", "[I", true)
  | 32 => ("SnowMulesModel", "stepPass", "[I", true)
  | 33 => ("SnowMulesModel", "bestLeft", "I", false)
  | 34 => ("SnowMulesModel", "bestHour", "I", false)
  | 35 => ("SnowMulesModel", "bestMany", "I", false)
  | 36 => ("SnowMulesModel", "bestPass", "[I", true)
  | 37 => ("SnowMulesModel", "far", "[I", true)
  | 38 => ("SnowMulesModel", "waited", "[I", true)
  | 39 => ("SnowMulesModel", "servers", "[I", true)
  | 40 => ("SnowMulesModel", "images", "[I", true)
  | _ => ("SnowMulesModel", "isMade", "[Z", true)
def tyX11 : Nat → FieldType := fun k => match k with
  | 0 => .array .byte
  | 1 => .int
  | 2 => .int
  | 3 => .array .int
  | 4 => .array .int
  | 5 => .array .int
  | 6 => .array .int
  | 7 => .array .int
  | 8 => .int
  | 9 => .int
  | 10 => .int
  | 11 => .int
  | 12 => .int
  | 13 => .int
  | 14 => .int
  | 15 => .array .int
  | 16 => .int
  | 17 => .array .long
  | 18 => .int
  | 19 => .array .long
  | 20 => .array .int
  | 21 => .array .int
  | 22 => .int
  | 23 => .int
  | 24 => .int
  | 25 => .int
  | 26 => .int
  | 27 => .int
  | 28 => .array .int
  | 29 => .array .int
  | 30 => .array .int
  | 31 => .array .int
  | 32 => .array .int
  | 33 => .int
  | 34 => .int
  | 35 => .int
  | 36 => .array .int
  | 37 => .array .int
  | 38 => .array .int
  | 39 => .array .int
  | 40 => .array .int
  | _ => .array .boolean
abbrev wsX110 : List Cond := u_ws RX11 TX11 42
theorem nmX11 : ∀ a, a < 42 → ∀ b, b < 42 → a ≠ b → (TX11 a).2.1 ≠ (TX11 b).2.1 := by decide +kernel
theorem tyX11_ok : ∀ k, k < 42 → parseFieldDescriptor (TX11 k).2.2.1 = some (tyX11 k) := by decide +kernel
abbrev cX11_init : ByteArray := prog_13_method_1_code
def yX11_init : MethodName := ⟨RX11, "<init>", "()V"⟩
abbrev cX11_in : ByteArray := prog_13_method_2_code
def yX11_in : MethodName := ⟨RX11, "in", "(JJJ)Z"⟩
abbrev cX11_bounded : ByteArray := prog_13_method_3_code
def yX11_bounded : MethodName := ⟨RX11, "bounded", "(JJJ)J"⟩
abbrev cX11_four : ByteArray := prog_13_method_4_code
def yX11_four : MethodName := ⟨RX11, "four", "(I)V"⟩
abbrev cX11_feed : ByteArray := prog_13_method_5_code
def yX11_feed : MethodName := ⟨RX11, "feed", "(IIIII)I"⟩
abbrev cX11_end : ByteArray := prog_13_method_6_code
def yX11_end : MethodName := ⟨RX11, "end", "(I)I"⟩
abbrev cX11_fails : ByteArray := prog_13_method_7_code
def yX11_fails : MethodName := ⟨RX11, "fails", "(II)Z"⟩
abbrev cX11_see : ByteArray := prog_13_method_8_code
def yX11_see : MethodName := ⟨RX11, "see", "()I"⟩
abbrev cX11_isDigit : ByteArray := prog_13_method_9_code
def yX11_isDigit : MethodName := ⟨RX11, "isDigit", "(I)Z"⟩
abbrev cX11_isLetter : ByteArray := prog_13_method_10_code
def yX11_isLetter : MethodName := ⟨RX11, "isLetter", "(I)Z"⟩
abbrev cX11_isWord : ByteArray := prog_13_method_11_code
def yX11_isWord : MethodName := ⟨RX11, "isWord", "(J)Z"⟩
abbrev cX11_passWord : ByteArray := prog_13_method_12_code
def yX11_passWord : MethodName := ⟨RX11, "passWord", "()V"⟩
abbrev cX11_takesWord : ByteArray := prog_13_method_13_code
def yX11_takesWord : MethodName := ⟨RX11, "takesWord", "(J)Z"⟩
abbrev cX11_numberHere : ByteArray := prog_13_method_14_code
def yX11_numberHere : MethodName := ⟨RX11, "numberHere", "(II)Z"⟩
abbrev cX11_wordHere : ByteArray := prog_13_method_15_code
def yX11_wordHere : MethodName := ⟨RX11, "wordHere", "()I"⟩
abbrev cX11_puts : ByteArray := prog_13_method_16_code
def yX11_puts : MethodName := ⟨RX11, "puts", "(II)V"⟩
abbrev cX11_makes : ByteArray := prog_13_method_17_code
def yX11_makes : MethodName := ⟨RX11, "makes", "(I)Z"⟩
abbrev cX11_opens : ByteArray := prog_13_method_18_code
def yX11_opens : MethodName := ⟨RX11, "opens", "(I)Z"⟩
abbrev cX11_strength : ByteArray := prog_13_method_19_code
def yX11_strength : MethodName := ⟨RX11, "strength", "(I)I"⟩
abbrev cX11_settles : ByteArray := prog_13_method_20_code
def yX11_settles : MethodName := ⟨RX11, "settles", "(I)V"⟩
abbrev cX11_value : ByteArray := prog_13_method_21_code
def yX11_value : MethodName := ⟨RX11, "value", "()Z"⟩
abbrev cX11_term : ByteArray := prog_13_method_22_code
def yX11_term : MethodName := ⟨RX11, "term", "()Z"⟩
abbrev cX11_sum : ByteArray := prog_13_method_23_code
def yX11_sum : MethodName := ⟨RX11, "sum", "()Z"⟩
abbrev cX11_compare : ByteArray := prog_13_method_24_code
def yX11_compare : MethodName := ⟨RX11, "compare", "()Z"⟩
abbrev cX11_fact : ByteArray := prog_13_method_25_code
def yX11_fact : MethodName := ⟨RX11, "fact", "()Z"⟩
abbrev cX11_isInside : ByteArray := prog_13_method_26_code
def yX11_isInside : MethodName := ⟨RX11, "isInside", "()Z"⟩
abbrev cX11_closes : ByteArray := prog_13_method_27_code
def yX11_closes : MethodName := ⟨RX11, "closes", "()V"⟩
abbrev cX11_tested : ByteArray := prog_13_method_28_code
def yX11_tested : MethodName := ⟨RX11, "tested", "()Z"⟩
abbrev cX11_clauseOf : ByteArray := prog_13_method_29_code
def yX11_clauseOf : MethodName := ⟨RX11, "clauseOf", "(I)Z"⟩
abbrev cX11_clauseHere : ByteArray := prog_13_method_30_code
def yX11_clauseHere : MethodName := ⟨RX11, "clauseHere", "()Z"⟩
abbrev cX11_law : ByteArray := prog_13_method_31_code
def yX11_law : MethodName := ⟨RX11, "law", "()I"⟩
abbrev cX11_isLaw : ByteArray := prog_13_method_32_code
def yX11_isLaw : MethodName := ⟨RX11, "isLaw", "(I)Z"⟩
abbrev cX11_push : ByteArray := prog_13_method_33_code
def yX11_push : MethodName := ⟨RX11, "push", "(J)V"⟩
abbrev cX11_pop : ByteArray := prog_13_method_34_code
def yX11_pop : MethodName := ⟨RX11, "pop", "()J"⟩
abbrev cX11_one : ByteArray := prog_13_method_35_code
def yX11_one : MethodName := ⟨RX11, "one", "(IJJ)J"⟩
abbrev cX11_reckons : ByteArray := prog_13_method_36_code
def yX11_reckons : MethodName := ⟨RX11, "reckons", "(III)J"⟩
abbrev cX11_summed : ByteArray := prog_13_method_37_code
def yX11_summed : MethodName := ⟨RX11, "summed", "(II)J"⟩
abbrev cX11_nodeOf : ByteArray := prog_13_method_38_code
def yX11_nodeOf : MethodName := ⟨RX11, "nodeOf", "(II)I"⟩
abbrev cX11_passOf : ByteArray := prog_13_method_39_code
def yX11_passOf : MethodName := ⟨RX11, "passOf", "(II)I"⟩
abbrev cX11_jarOf : ByteArray := prog_13_method_40_code
def yX11_jarOf : MethodName := ⟨RX11, "jarOf", "(II)I"⟩
abbrev cX11_isNode : ByteArray := prog_13_method_41_code
def yX11_isNode : MethodName := ⟨RX11, "isNode", "(I)Z"⟩
abbrev cX11_isPass : ByteArray := prog_13_method_42_code
def yX11_isPass : MethodName := ⟨RX11, "isPass", "(I)Z"⟩
abbrev cX11_isJar : ByteArray := prog_13_method_43_code
def yX11_isJar : MethodName := ⟨RX11, "isJar", "(I)Z"⟩
abbrev cX11_monthAt : ByteArray := prog_13_method_44_code
def yX11_monthAt : MethodName := ⟨RX11, "monthAt", "(I)I"⟩
abbrev cX11_hasSnow : ByteArray := prog_13_method_45_code
def yX11_hasSnow : MethodName := ⟨RX11, "hasSnow", "(II)Z"⟩
abbrev cX11_node : ByteArray := prog_13_method_46_code
def yX11_node : MethodName := ⟨RX11, "node", "(III)I"⟩
abbrev cX11_pass : ByteArray := prog_13_method_47_code
def yX11_pass : MethodName := ⟨RX11, "pass", "(IIIII)I"⟩
abbrev cX11_jar : ByteArray := prog_13_method_48_code
def yX11_jar : MethodName := ⟨RX11, "jar", "(IIIII)I"⟩
abbrev cX11_month : ByteArray := prog_13_method_49_code
def yX11_month : MethodName := ⟨RX11, "month", "(I)I"⟩
abbrev cX11_seed : ByteArray := prog_13_method_50_code
def yX11_seed : MethodName := ⟨RX11, "seed", "(I)I"⟩
abbrev cX11_stands : ByteArray := prog_13_method_51_code
def yX11_stands : MethodName := ⟨RX11, "stands", "(I)Z"⟩
abbrev cX11_fill : ByteArray := prog_13_method_52_code
def yX11_fill : MethodName := ⟨RX11, "fill", "(II)I"⟩
abbrev cX11_stores : ByteArray := prog_13_method_53_code
def yX11_stores : MethodName := ⟨RX11, "stores", "(II)I"⟩
abbrev cX11_pour : ByteArray := prog_13_method_54_code
def yX11_pour : MethodName := ⟨RX11, "pour", "(I)I"⟩
abbrev cX11_store : ByteArray := prog_13_method_55_code
def yX11_store : MethodName := ⟨RX11, "store", "(II)I"⟩
abbrev cX11_other : ByteArray := prog_13_method_56_code
def yX11_other : MethodName := ⟨RX11, "other", "(II)I"⟩
abbrev cX11_leave : ByteArray := prog_13_method_57_code
def yX11_leave : MethodName := ⟨RX11, "leave", "(II)Z"⟩
abbrev cX11_hourWords : ByteArray := prog_13_method_58_code
def yX11_hourWords : MethodName := ⟨RX11, "hourWords", "(IIII)V"⟩
abbrev cX11_nodeWords : ByteArray := prog_13_method_59_code
def yX11_nodeWords : MethodName := ⟨RX11, "nodeWords", "(IIIII)V"⟩
abbrev cX11_passWords : ByteArray := prog_13_method_60_code
def yX11_passWords : MethodName := ⟨RX11, "passWords", "(IIIIIII)V"⟩
abbrev cX11_meltBy : ByteArray := prog_13_method_61_code
def yX11_meltBy : MethodName := ⟨RX11, "meltBy", "(III)I"⟩
abbrev cX11_meltOf : ByteArray := prog_13_method_62_code
def yX11_meltOf : MethodName := ⟨RX11, "meltOf", "(II)I"⟩
abbrev cX11_draw : ByteArray := prog_13_method_63_code
def yX11_draw : MethodName := ⟨RX11, "draw", "()I"⟩
abbrev cX11_goesFor : ByteArray := prog_13_method_64_code
def yX11_goesFor : MethodName := ⟨RX11, "goesFor", "(I)V"⟩
abbrev cX11_bursts : ByteArray := prog_13_method_65_code
def yX11_bursts : MethodName := ⟨RX11, "bursts", "(IIII)V"⟩
abbrev cX11_comes : ByteArray := prog_13_method_66_code
def yX11_comes : MethodName := ⟨RX11, "comes", "(II)V"⟩
abbrev cX11_hour : ByteArray := prog_13_method_67_code
def yX11_hour : MethodName := ⟨RX11, "hour", "(I)V"⟩
abbrev cX11_tick : ByteArray := prog_13_method_68_code
def yX11_tick : MethodName := ⟨RX11, "tick", "(II)I"⟩
abbrev cX11_at : ByteArray := prog_13_method_69_code
def yX11_at : MethodName := ⟨RX11, "at", "(II)I"⟩
abbrev cX11_of : ByteArray := prog_13_method_70_code
def yX11_of : MethodName := ⟨RX11, "of", "(II)I"⟩
abbrev cX11_melt : ByteArray := prog_13_method_71_code
def yX11_melt : MethodName := ⟨RX11, "melt", "(II)I"⟩
abbrev cX11_wayEnd : ByteArray := prog_13_method_72_code
def yX11_wayEnd : MethodName := ⟨RX11, "wayEnd", "()I"⟩
abbrev cX11_isOfWay : ByteArray := prog_13_method_73_code
def yX11_isOfWay : MethodName := ⟨RX11, "isOfWay", "(I)Z"⟩
abbrev cX11_lay : ByteArray := prog_13_method_74_code
def yX11_lay : MethodName := ⟨RX11, "lay", "(I)I"⟩
abbrev cX11_from : ByteArray := prog_13_method_75_code
def yX11_from : MethodName := ⟨RX11, "from", "(I)Z"⟩
abbrev cX11_sets : ByteArray := prog_13_method_76_code
def yX11_sets : MethodName := ⟨RX11, "sets", "(IIIII)V"⟩
abbrev cX11_waits : ByteArray := prog_13_method_77_code
def yX11_waits : MethodName := ⟨RX11, "waits", "(I)V"⟩
abbrev cX11_travels : ByteArray := prog_13_method_78_code
def yX11_travels : MethodName := ⟨RX11, "travels", "(II)V"⟩
abbrev cX11_isJarLike : ByteArray := prog_13_method_79_code
def yX11_isJarLike : MethodName := ⟨RX11, "isJarLike", "(III)Z"⟩
abbrev cX11_canTry : ByteArray := prog_13_method_80_code
def yX11_canTry : MethodName := ⟨RX11, "canTry", "(IIIII)Z"⟩
abbrev cX11_tried : ByteArray := prog_13_method_81_code
def yX11_tried : MethodName := ⟨RX11, "tried", "(IIIIII)I"⟩
abbrev cX11_wasAt : ByteArray := prog_13_method_82_code
def yX11_wasAt : MethodName := ⟨RX11, "wasAt", "(II)Z"⟩
abbrev cX11_searches : ByteArray := prog_13_method_83_code
def yX11_searches : MethodName := ⟨RX11, "searches", "(IIIIIIIII)V"⟩
abbrev cX11_searchesDay : ByteArray := prog_13_method_84_code
def yX11_searchesDay : MethodName := ⟨RX11, "searchesDay", "(IIIIIIII)V"⟩
abbrev cX11_best : ByteArray := prog_13_method_85_code
def yX11_best : MethodName := ⟨RX11, "best", "(IIIIIIII)I"⟩
abbrev cX11_spreads : ByteArray := prog_13_method_86_code
def yX11_spreads : MethodName := ⟨RX11, "spreads", "(I)V"⟩
abbrev cX11_soonest : ByteArray := prog_13_method_87_code
def yX11_soonest : MethodName := ⟨RX11, "soonest", "(II)I"⟩
abbrev cX11_nearest : ByteArray := prog_13_method_88_code
def yX11_nearest : MethodName := ⟨RX11, "nearest", "(II)I"⟩
abbrev cX11_warmer : ByteArray := prog_13_method_89_code
def yX11_warmer : MethodName := ⟨RX11, "warmer", "(IIIIII)I"⟩
abbrev cX11_waitsOtherwise : ByteArray := prog_13_method_90_code
def yX11_waitsOtherwise : MethodName := ⟨RX11, "waitsOtherwise", "()Z"⟩
abbrev cX11_guess : ByteArray := prog_13_method_91_code
def yX11_guess : MethodName := ⟨RX11, "guess", "(IIIIIIIII)I"⟩
abbrev cX11_order : ByteArray := prog_13_method_92_code
def yX11_order : MethodName := ⟨RX11, "order", "(IIII)I"⟩
abbrev cX11_servesBy : ByteArray := prog_13_method_93_code
def yX11_servesBy : MethodName := ⟨RX11, "servesBy", "(III)I"⟩
abbrev cX11_serves : ByteArray := prog_13_method_94_code
def yX11_serves : MethodName := ⟨RX11, "serves", "(III)I"⟩
abbrev cX11_bits : ByteArray := prog_13_method_95_code
def yX11_bits : MethodName := ⟨RX11, "bits", "(I)I"⟩
abbrev cX11_canServe : ByteArray := prog_13_method_96_code
def yX11_canServe : MethodName := ⟨RX11, "canServe", "(II)Z"⟩
abbrev cX11_priceFrom : ByteArray := prog_13_method_97_code
def yX11_priceFrom : MethodName := ⟨RX11, "priceFrom", "(II)I"⟩
abbrev cX11_all : ByteArray := prog_13_method_98_code
def yX11_all : MethodName := ⟨RX11, "all", "(II)I"⟩
abbrev cX11_feast : ByteArray := prog_13_method_99_code
def yX11_feast : MethodName := ⟨RX11, "feast", "(III)I"⟩
abbrev cX11_isEnough : ByteArray := prog_13_method_100_code
def yX11_isEnough : MethodName := ⟨RX11, "isEnough", "(III)Z"⟩
abbrev cX11_enough : ByteArray := prog_13_method_101_code
def yX11_enough : MethodName := ⟨RX11, "enough", "(III)I"⟩
abbrev cX11_least : ByteArray := prog_13_method_102_code
def yX11_least : MethodName := ⟨RX11, "least", "(II)I"⟩
abbrev cX11_nights : ByteArray := prog_13_method_103_code
def yX11_nights : MethodName := ⟨RX11, "nights", "(IIIII)I"⟩
abbrev cX11_price : ByteArray := prog_13_method_104_code
def yX11_price : MethodName := ⟨RX11, "price", "(IIIIII)I"⟩
abbrev cX11_ahead : ByteArray := prog_13_method_105_code
def yX11_ahead : MethodName := ⟨RX11, "ahead", "(III)I"⟩
abbrev cX11_count : ByteArray := prog_13_method_106_code
def yX11_count : MethodName := ⟨RX11, "count", "(I)I"⟩
abbrev cX11_image : ByteArray := prog_13_method_107_code
def yX11_image : MethodName := ⟨RX11, "image", "(I)I"⟩
abbrev cX11_back : ByteArray := prog_13_method_108_code
def yX11_back : MethodName := ⟨RX11, "back", "(I)I"⟩
def RJ6 : String := "java/lang/Integer"
def TJ6 : u_T := fun k => match k with
  | _ => ("", "", "", false)
def tyJ6 : Nat → FieldType := fun k => match k with
  | _ => .int
abbrev wsJ60 : List Cond := u_ws RJ6 TJ6 0
theorem nmJ6 : ∀ a, a < 0 → ∀ b, b < 0 → a ≠ b → (TJ6 a).2.1 ≠ (TJ6 b).2.1 := by decide +kernel
theorem tyJ6_ok : ∀ k, k < 0 → parseFieldDescriptor (TJ6 k).2.2.1 = some (tyJ6 k) := by decide +kernel
abbrev cJ6_bitCount_0f7a4 : ByteArray := prog_14_method_49_code
def yJ6_bitCount_0f7a4 : MethodName := ⟨RJ6, "bitCount", "(I)I"⟩
def RJ9 : String := "java/lang/Math"
def TJ9 : u_T := fun k => match k with
  | _ => ("", "", "", false)
def tyJ9 : Nat → FieldType := fun k => match k with
  | _ => .int
abbrev wsJ90 : List Cond := u_ws RJ9 TJ9 0
theorem nmJ9 : ∀ a, a < 0 → ∀ b, b < 0 → a ≠ b → (TJ9 a).2.1 ≠ (TJ9 b).2.1 := by decide +kernel
theorem tyJ9_ok : ∀ k, k < 0 → parseFieldDescriptor (TJ9 k).2.2.1 = some (tyJ9 k) := by decide +kernel
abbrev cJ9_max_7cf53 : ByteArray := prog_15_method_65_code
def yJ9_max_7cf53 : MethodName := ⟨RJ9, "max", "(II)I"⟩
abbrev cJ9_min_7cf53 : ByteArray := prog_15_method_69_code
def yJ9_min_7cf53 : MethodName := ⟨RJ9, "min", "(II)I"⟩
def RJ0 : String := "java/lang/String"
def TJ0 : u_T := fun k => match k with
  | _ => ("", "", "", false)
def tyJ0 : Nat → FieldType := fun k => match k with
  | _ => .int
abbrev wsJ00 : List Cond := u_ws RJ0 TJ0 0
theorem nmJ0 : ∀ a, a < 0 → ∀ b, b < 0 → a ≠ b → (TJ0 a).2.1 ≠ (TJ0 b).2.1 := by decide +kernel
theorem tyJ0_ok : ∀ k, k < 0 → parseFieldDescriptor (TJ0 k).2.2.1 = some (tyJ0 k) := by decide +kernel
abbrev cJ0_length_8abf5 : ByteArray := prog_16_method_54_code
def yJ0_length_8abf5 : MethodName := ⟨RJ0, "length", "()I"⟩
abbrev cJ0_charAt_5068e : ByteArray := prog_16_method_56_code
def yJ0_charAt_5068e : MethodName := ⟨RJ0, "charAt", "(I)C"⟩
abbrev cJ0_coder_7d493 : ByteArray := prog_16_method_152_code
def yJ0_coder_7d493 : MethodName := ⟨RJ0, "coder", "()B"⟩
abbrev cJ0_isLatin1_aae02 : ByteArray := prog_16_method_154_code
def yJ0_isLatin1_aae02 : MethodName := ⟨RJ0, "isLatin1", "()Z"⟩
abbrev cJ0_checkIndex_df160 : ByteArray := prog_16_method_155_code
def yJ0_checkIndex_df160 : MethodName := ⟨RJ0, "checkIndex", "(II)V"⟩
def RJ1 : String := "java/lang/StringLatin1"
def TJ1 : u_T := fun k => match k with
  | _ => ("", "", "", false)
def tyJ1 : Nat → FieldType := fun k => match k with
  | _ => .int
abbrev wsJ10 : List Cond := u_ws RJ1 TJ1 0
theorem nmJ1 : ∀ a, a < 0 → ∀ b, b < 0 → a ≠ b → (TJ1 a).2.1 ≠ (TJ1 b).2.1 := by decide +kernel
theorem tyJ1_ok : ∀ k, k < 0 → parseFieldDescriptor (TJ1 k).2.2.1 = some (tyJ1 k) := by decide +kernel
abbrev cJ1_charAt_3b067 : ByteArray := prog_17_method_2_code
def yJ1_charAt_3b067 : MethodName := ⟨RJ1, "charAt", "([BI)C"⟩
def RJ2 : String := "java/lang/StringUTF16"
def TJ2 : u_T := fun k => match k with
  | _ => ("", "", "", false)
def tyJ2 : Nat → FieldType := fun k => match k with
  | _ => .int
abbrev wsJ20 : List Cond := u_ws RJ2 TJ2 0
theorem nmJ2 : ∀ a, a < 0 → ∀ b, b < 0 → a ≠ b → (TJ2 a).2.1 ≠ (TJ2 b).2.1 := by decide +kernel
theorem tyJ2_ok : ∀ k, k < 0 → parseFieldDescriptor (TJ2 k).2.2.1 = some (tyJ2 k) := by decide +kernel
abbrev cJ2_getChar_3b067 : ByteArray := prog_18_method_5_code
def yJ2_getChar_3b067 : MethodName := ⟨RJ2, "getChar", "([BI)C"⟩
abbrev cJ2_length_9d52b : ByteArray := prog_18_method_6_code
def yJ2_length_9d52b : MethodName := ⟨RJ2, "length", "([B)I"⟩
abbrev cJ2_charAt_3b067 : ByteArray := prog_18_method_83_code
def yJ2_charAt_3b067 : MethodName := ⟨RJ2, "charAt", "([BI)C"⟩
abbrev cJ2_checkIndex_2214a : ByteArray := prog_18_method_91_code
def yJ2_checkIndex_2214a : MethodName := ⟨RJ2, "checkIndex", "(I[B)V"⟩
def RJ10 : String := "java/lang/System"
def TJ10 : u_T := fun k => match k with
  | _ => ("", "", "", false)
def tyJ10 : Nat → FieldType := fun k => match k with
  | _ => .int
abbrev wsJ100 : List Cond := u_ws RJ10 TJ10 0
theorem nmJ10 : ∀ a, a < 0 → ∀ b, b < 0 → a ≠ b → (TJ10 a).2.1 ≠ (TJ10 b).2.1 := by decide +kernel
theorem tyJ10_ok : ∀ k, k < 0 → parseFieldDescriptor (TJ10 k).2.2.1 = some (tyJ10 k) := by decide +kernel
def RJ3 : String := "jdk/internal/util/Preconditions"
def TJ3 : u_T := fun k => match k with
  | _ => ("", "", "", false)
def tyJ3 : Nat → FieldType := fun k => match k with
  | _ => .int
abbrev wsJ30 : List Cond := u_ws RJ3 TJ3 0
theorem nmJ3 : ∀ a, a < 0 → ∀ b, b < 0 → a ≠ b → (TJ3 a).2.1 ≠ (TJ3 b).2.1 := by decide +kernel
theorem tyJ3_ok : ∀ k, k < 0 → parseFieldDescriptor (TJ3 k).2.2.1 = some (tyJ3 k) := by decide +kernel
abbrev cJ3_checkIndex_8e157 : ByteArray := prog_20_method_11_code
def yJ3_checkIndex_8e157 : MethodName := ⟨RJ3, "checkIndex", "(IILjava/util/function/BiFunction;)I"⟩
def RL : String := "SnowMulesLaw"
abbrev cL_law : ByteArray := code
def yL_law : MethodName := ⟨RL, "law", "([I)Z"⟩
def wsX4_init : List Cond := .code yX4_init cX4_init 1 none :: ([.methodLink RX4 3 objectInit, .instanceMethod objectInit, .code objectInit ⟨#[0xb1]⟩ 1 none, .arrayClass .int, .fieldLink RX4 11 "SnowMules$Scene" "words" "[I"] ++ wsX40)
def wsX0_init : List Cond := .code yX0_init cX0_init 1 none :: ([.methodLink RX0 3 objectInit, .instanceMethod objectInit, .code objectInit ⟨#[0xb1]⟩ 1 none, .classLink RX0 9 RX4, .instantiable RX4 4, .initialized RX4, .fieldLink RX0 12 "SnowMules$Hours" "scene" "LSnowMules$Scene;", .instanceMethod yX4_init, .code yX4_init cX4_init 1 none, .methodLink RX4 3 objectInit, .arrayClass .int, .fieldLink RX4 11 "SnowMules$Scene" "words" "[I"] ++ wsX40 ++ wsX00)
def wsX1_init : List Cond := .code yX1_init cX1_init 1 none :: ([.methodLink RX1 1 objectInit, .instanceMethod objectInit, .code objectInit ⟨#[0xb1]⟩ 1 none, .arrayClass .int, .fieldLink RX1 9 "SnowMules$Law" "sorts" "[I", .fieldLink RX1 13 "SnowMules$Law" "sumStarts" "[I", .fieldLink RX1 16 "SnowMules$Law" "sumStops" "[I", .fieldLink RX1 19 "SnowMules$Law" "testStarts" "[I", .fieldLink RX1 22 "SnowMules$Law" "testStops" "[I", .fieldLink RX1 25 "SnowMules$Law" "joins" "[I", .fieldLink RX1 28 "SnowMules$Law" "operands" "[I", .fieldLink RX1 31 "SnowMules$Law" "factStarts" "[I", .fieldLink RX1 34 "SnowMules$Law" "factMiddles" "[I", .fieldLink RX1 37 "SnowMules$Law" "factStops" "[I", .fieldLink RX1 40 "SnowMules$Law" "signs" "[I", .fieldLink RX1 43 "SnowMules$Law" "tests" "[I"] ++ wsX10)
def wsX2_init_r1 : List Cond := [Cond.methodLink RX2 7 objectInit, Cond.instanceMethod objectInit, Cond.code objectInit ⟨#[0xb1]⟩ 1 none, Cond.arrayClass .int, Cond.fieldLink RX2 13 "SnowMules$LawReader" "tokens" "[I", Cond.fieldLink RX2 17 "SnowMules$LawReader" "places" "[I", Cond.classLink RX2 20 RX1, Cond.instantiable RX1 17, Cond.initialized RX1, Cond.fieldLink RX2 23 "SnowMules$LawReader" "law" "LSnowMules$Law;", Cond.instanceMethod yX1_init, Cond.code yX1_init cX1_init 1 none, Cond.methodLink RX1 1 objectInit, Cond.fieldLink RX1 9 "SnowMules$Law" "sorts" "[I", Cond.fieldLink RX1 13 "SnowMules$Law" "sumStarts" "[I", Cond.fieldLink RX1 16 "SnowMules$Law" "sumStops" "[I", Cond.fieldLink RX1 19 "SnowMules$Law" "testStarts" "[I", Cond.fieldLink RX1 22 "SnowMules$Law" "testStops" "[I", Cond.fieldLink RX1 25 "SnowMules$Law" "joins" "[I", Cond.fieldLink RX1 28 "SnowMules$Law" "operands" "[I", Cond.fieldLink RX1 31 "SnowMules$Law" "factStarts" "[I", Cond.fieldLink RX1 34 "SnowMules$Law" "factMiddles" "[I", Cond.fieldLink RX1 37 "SnowMules$Law" "factStops" "[I", Cond.fieldLink RX1 40 "SnowMules$Law" "signs" "[I"]
def wsX2_init_r2 : List Cond := [Cond.fieldLink RX1 43 "SnowMules$Law" "tests" "[I"]
def wsX2_init : List Cond := .code yX2_init cX2_init 1 none :: ((wsX2_init_r1 ++ wsX2_init_r2) ++ wsX20 ++ wsX10)
def wsX3_init : List Cond := .code yX3_init cX3_init 2 none :: ([.methodLink RX3 3 objectInit, .instanceMethod objectInit, .code objectInit ⟨#[0xb1]⟩ 1 none, .arrayClass .int, .fieldLink RX3 9 "SnowMules$Market" "offers" "[I", .fieldLink RX3 15 "SnowMules$Market" "chosen" "[I", .fieldLink RX3 18 "SnowMules$Market" "world" "LSnowMules$World;"] ++ wsX30)
def wsX5_init : List Cond := .code yX5_init cX5_init 3 none :: ([.methodLink RX5 3 objectInit, .instanceMethod objectInit, .code objectInit ⟨#[0xb1]⟩ 1 none, .arrayClass .int, .fieldLink RX5 9 "SnowMules$Search" "far" "[I", .fieldLink RX5 15 "SnowMules$Search" "row" "[I", .fieldLink RX5 18 "SnowMules$Search" "bestRow" "[I", .fieldLink RX5 21 "SnowMules$Search" "world" "LSnowMules$World;", .fieldLink RX5 25 "SnowMules$Search" "trip" "LSnowMules$Trip;"] ++ wsX50)
def wsX6_init : List Cond := .code yX6_init cX6_init 3 none :: ([.methodLink RX6 3 objectInit, .instanceMethod objectInit, .code objectInit ⟨#[0xb1]⟩ 1 none, .fieldLink RX6 9 "SnowMules$Table" "width" "I", .methodLink RX6 15 Lib.Math.max.name, .static Lib.Math.max.name, .initialized "java/lang/Math", .code Lib.Math.max.name Lib.Math.max.code 2 (some .int), .arrayClass .int, .fieldLink RX6 21 "SnowMules$Table" "cells" "[I"] ++ wsX60)
def wsX7_init_r1 : List Cond := [Cond.methodLink RX7 3 objectInit, Cond.instanceMethod objectInit, Cond.code objectInit ⟨#[0xb1]⟩ 1 none, Cond.classLink RX7 9 RX1, Cond.instantiable RX1 17, Cond.initialized RX1, Cond.fieldLink RX7 12 "SnowMules$Trip" "law" "LSnowMules$Law;", Cond.classLink RX7 18 RX4, Cond.instantiable RX4 4, Cond.initialized RX4, Cond.fieldLink RX7 21 "SnowMules$Trip" "scene" "LSnowMules$Scene;", Cond.fieldLink RX7 25 "SnowMules$Trip" "world" "LSnowMules$World;", Cond.instanceMethod yX1_init, Cond.code yX1_init cX1_init 1 none, Cond.methodLink RX1 1 objectInit, Cond.arrayClass .int, Cond.fieldLink RX1 9 "SnowMules$Law" "sorts" "[I", Cond.fieldLink RX1 13 "SnowMules$Law" "sumStarts" "[I", Cond.fieldLink RX1 16 "SnowMules$Law" "sumStops" "[I", Cond.fieldLink RX1 19 "SnowMules$Law" "testStarts" "[I", Cond.fieldLink RX1 22 "SnowMules$Law" "testStops" "[I", Cond.fieldLink RX1 25 "SnowMules$Law" "joins" "[I", Cond.fieldLink RX1 28 "SnowMules$Law" "operands" "[I", Cond.fieldLink RX1 31 "SnowMules$Law" "factStarts" "[I"]
def wsX7_init_r2 : List Cond := [Cond.fieldLink RX1 34 "SnowMules$Law" "factMiddles" "[I", Cond.fieldLink RX1 37 "SnowMules$Law" "factStops" "[I", Cond.fieldLink RX1 40 "SnowMules$Law" "signs" "[I", Cond.fieldLink RX1 43 "SnowMules$Law" "tests" "[I", Cond.instanceMethod yX4_init, Cond.code yX4_init cX4_init 1 none, Cond.methodLink RX4 3 objectInit, Cond.fieldLink RX4 11 "SnowMules$Scene" "words" "[I"]
def wsX7_init : List Cond := .code yX7_init cX7_init 2 none :: ((wsX7_init_r1 ++ wsX7_init_r2) ++ wsX10 ++ wsX70 ++ wsX40)
def wsX8_init : List Cond := .code yX8_init cX8_init 3 none :: ([.methodLink RX8 3 objectInit, .instanceMethod objectInit, .code objectInit ⟨#[0xb1]⟩ 1 none, .arrayClass .int, .fieldLink RX8 9 "SnowMules$Waits" "waited" "[I", .fieldLink RX8 15 "SnowMules$Waits" "fewest" "[I", .fieldLink RX8 18 "SnowMules$Waits" "most" "[I", .fieldLink RX8 21 "SnowMules$Waits" "world" "LSnowMules$World;", .fieldLink RX8 25 "SnowMules$Waits" "trip" "LSnowMules$Trip;"] ++ wsX80)
def wsX9_init : List Cond := .code yX9_init cX9_init 1 none :: ([.methodLink RX9 3 objectInit, .instanceMethod objectInit, .code objectInit ⟨#[0xb1]⟩ 1 none, .classLink RX9 9 RX6, .instantiable RX6 3, .initialized RX6, .fieldLink RX9 14 "SnowMules$World" "nodes" "LSnowMules$Table;", .fieldLink RX9 20 "SnowMules$World" "passes" "LSnowMules$Table;", .fieldLink RX9 23 "SnowMules$World" "jars" "LSnowMules$Table;", .fieldLink RX9 26 "SnowMules$World" "orders" "LSnowMules$Table;", .fieldLink RX9 29 "SnowMules$World" "feasts" "LSnowMules$Table;", .fieldLink RX9 32 "SnowMules$World" "way" "LSnowMules$Table;", .fieldLink RX9 35 "SnowMules$World" "wayStart" "I", .methodLink RX9 11 yX6_init, .instanceMethod yX6_init, .code yX6_init cX6_init 3 none, .methodLink RX6 3 objectInit, .fieldLink RX6 9 "SnowMules$Table" "width" "I", .methodLink RX6 15 Lib.Math.max.name, .static Lib.Math.max.name, .initialized "java/lang/Math", .code Lib.Math.max.name Lib.Math.max.code 2 (some .int), .arrayClass .int, .fieldLink RX6 21 "SnowMules$Table" "cells" "[I"] ++ wsX60 ++ wsX90)
def wsX10_init_r1 : List Cond := [Cond.methodLink RX10 1 objectInit, Cond.instanceMethod objectInit, Cond.code objectInit ⟨#[0xb1]⟩ 1 none, Cond.classLink RX10 7 RX9, Cond.instantiable RX9 10, Cond.initialized RX9, Cond.fieldLink RX10 10 "SnowMules" "world" "LSnowMules$World;", Cond.fieldLink RX10 16 "SnowMules" "later" "LSnowMules$World;", Cond.fieldLink RX10 19 "SnowMules" "images" "[LSnowMules$World;", Cond.arrayClass .int, Cond.fieldLink RX10 23 "SnowMules" "tape" "[I", Cond.classLink RX10 27 RX1, Cond.fieldLink RX10 29 "SnowMules" "laws" "[LSnowMules$Law;", Cond.classLink RX10 33 RX2, Cond.instantiable RX2 8, Cond.initialized RX2, Cond.fieldLink RX10 36 "SnowMules" "reader" "LSnowMules$LawReader;", Cond.classLink RX10 40 RX0, Cond.instantiable RX0 1, Cond.initialized RX0, Cond.fieldLink RX10 43 "SnowMules" "hours" "LSnowMules$Hours;", Cond.classLink RX10 47 RX7, Cond.instantiable RX7 9, Cond.initialized RX7]
def wsX10_init_r2 : List Cond := [Cond.fieldLink RX10 52 "SnowMules" "trip" "LSnowMules$Trip;", Cond.classLink RX10 56 RX5, Cond.instantiable RX5 13, Cond.initialized RX5, Cond.fieldLink RX10 61 "SnowMules" "search" "LSnowMules$Search;", Cond.classLink RX10 65 RX8, Cond.instantiable RX8 7, Cond.initialized RX8, Cond.fieldLink RX10 68 "SnowMules" "waits" "LSnowMules$Waits;", Cond.classLink RX10 72 RX3, Cond.instantiable RX3 4, Cond.initialized RX3, Cond.fieldLink RX10 75 "SnowMules" "market" "LSnowMules$Market;", Cond.instanceMethod yX9_init, Cond.code yX9_init cX9_init 1 none, Cond.methodLink RX9 3 objectInit, Cond.classLink RX9 9 RX6, Cond.instantiable RX6 3, Cond.initialized RX6, Cond.fieldLink RX9 14 "SnowMules$World" "nodes" "LSnowMules$Table;", Cond.fieldLink RX9 20 "SnowMules$World" "passes" "LSnowMules$Table;", Cond.fieldLink RX9 23 "SnowMules$World" "jars" "LSnowMules$Table;", Cond.fieldLink RX9 26 "SnowMules$World" "orders" "LSnowMules$Table;", Cond.fieldLink RX9 29 "SnowMules$World" "feasts" "LSnowMules$Table;"]
def wsX10_init_r3 : List Cond := [Cond.fieldLink RX9 32 "SnowMules$World" "way" "LSnowMules$Table;", Cond.fieldLink RX9 35 "SnowMules$World" "wayStart" "I", Cond.methodLink RX9 11 yX6_init, Cond.instanceMethod yX6_init, Cond.code yX6_init cX6_init 3 none, Cond.methodLink RX6 3 objectInit, Cond.fieldLink RX6 9 "SnowMules$Table" "width" "I", Cond.methodLink RX6 15 Lib.Math.max.name, Cond.static Lib.Math.max.name, Cond.initialized "java/lang/Math", Cond.code Lib.Math.max.name Lib.Math.max.code 2 (some .int), Cond.fieldLink RX6 21 "SnowMules$Table" "cells" "[I", Cond.instanceMethod yX2_init, Cond.code yX2_init cX2_init 1 none, Cond.methodLink RX2 7 objectInit, Cond.fieldLink RX2 13 "SnowMules$LawReader" "tokens" "[I", Cond.fieldLink RX2 17 "SnowMules$LawReader" "places" "[I", Cond.classLink RX2 20 RX1, Cond.instantiable RX1 17, Cond.initialized RX1, Cond.fieldLink RX2 23 "SnowMules$LawReader" "law" "LSnowMules$Law;", Cond.instanceMethod yX1_init, Cond.code yX1_init cX1_init 1 none, Cond.methodLink RX1 1 objectInit]
def wsX10_init_r4 : List Cond := [Cond.fieldLink RX1 9 "SnowMules$Law" "sorts" "[I", Cond.fieldLink RX1 13 "SnowMules$Law" "sumStarts" "[I", Cond.fieldLink RX1 16 "SnowMules$Law" "sumStops" "[I", Cond.fieldLink RX1 19 "SnowMules$Law" "testStarts" "[I", Cond.fieldLink RX1 22 "SnowMules$Law" "testStops" "[I", Cond.fieldLink RX1 25 "SnowMules$Law" "joins" "[I", Cond.fieldLink RX1 28 "SnowMules$Law" "operands" "[I", Cond.fieldLink RX1 31 "SnowMules$Law" "factStarts" "[I", Cond.fieldLink RX1 34 "SnowMules$Law" "factMiddles" "[I", Cond.fieldLink RX1 37 "SnowMules$Law" "factStops" "[I", Cond.fieldLink RX1 40 "SnowMules$Law" "signs" "[I", Cond.fieldLink RX1 43 "SnowMules$Law" "tests" "[I", Cond.instanceMethod yX0_init, Cond.code yX0_init cX0_init 1 none, Cond.methodLink RX0 3 objectInit, Cond.classLink RX0 9 RX4, Cond.instantiable RX4 4, Cond.initialized RX4, Cond.fieldLink RX0 12 "SnowMules$Hours" "scene" "LSnowMules$Scene;", Cond.instanceMethod yX4_init, Cond.code yX4_init cX4_init 1 none, Cond.methodLink RX4 3 objectInit, Cond.fieldLink RX4 11 "SnowMules$Scene" "words" "[I", Cond.methodLink RX10 49 yX7_init]
def wsX10_init_r5 : List Cond := [Cond.instanceMethod yX7_init, Cond.code yX7_init cX7_init 2 none, Cond.methodLink RX7 3 objectInit, Cond.classLink RX7 9 RX1, Cond.fieldLink RX7 12 "SnowMules$Trip" "law" "LSnowMules$Law;", Cond.classLink RX7 18 RX4, Cond.fieldLink RX7 21 "SnowMules$Trip" "scene" "LSnowMules$Scene;", Cond.fieldLink RX7 25 "SnowMules$Trip" "world" "LSnowMules$World;", Cond.methodLink RX10 58 yX5_init, Cond.instanceMethod yX5_init, Cond.code yX5_init cX5_init 3 none, Cond.methodLink RX5 3 objectInit, Cond.fieldLink RX5 9 "SnowMules$Search" "far" "[I", Cond.fieldLink RX5 15 "SnowMules$Search" "row" "[I", Cond.fieldLink RX5 18 "SnowMules$Search" "bestRow" "[I", Cond.fieldLink RX5 21 "SnowMules$Search" "world" "LSnowMules$World;", Cond.fieldLink RX5 25 "SnowMules$Search" "trip" "LSnowMules$Trip;", Cond.methodLink RX10 67 yX8_init, Cond.instanceMethod yX8_init, Cond.code yX8_init cX8_init 3 none, Cond.methodLink RX8 3 objectInit, Cond.fieldLink RX8 9 "SnowMules$Waits" "waited" "[I", Cond.fieldLink RX8 15 "SnowMules$Waits" "fewest" "[I", Cond.fieldLink RX8 18 "SnowMules$Waits" "most" "[I"]
def wsX10_init_r6 : List Cond := [Cond.fieldLink RX8 21 "SnowMules$Waits" "world" "LSnowMules$World;", Cond.fieldLink RX8 25 "SnowMules$Waits" "trip" "LSnowMules$Trip;", Cond.methodLink RX10 74 yX3_init, Cond.instanceMethod yX3_init, Cond.code yX3_init cX3_init 2 none, Cond.methodLink RX3 3 objectInit, Cond.fieldLink RX3 9 "SnowMules$Market" "offers" "[I", Cond.fieldLink RX3 15 "SnowMules$Market" "chosen" "[I", Cond.fieldLink RX3 18 "SnowMules$Market" "world" "LSnowMules$World;"]
def wsX10_init : List Cond := .code yX10_init cX10_init 1 none :: ((wsX10_init_r1 ++ (wsX10_init_r2 ++ (wsX10_init_r3 ++ (wsX10_init_r4 ++ (wsX10_init_r5 ++ wsX10_init_r6))))) ++ wsX90 ++ wsX100 ++ wsX20 ++ wsX00 ++ wsX70 ++ wsX50 ++ wsX80 ++ wsX30 ++ wsX60 ++ wsX10 ++ wsX40)
def wsX11_init_r1 : List Cond := [Cond.methodLink RX11 1 objectInit, Cond.instanceMethod objectInit, Cond.code objectInit ⟨#[0xb1]⟩ 1 none, Cond.arrayClass .byte, Cond.fieldLink RX11 7 "SnowMulesModel" "tape" "[B", Cond.arrayClass .int, Cond.fieldLink RX11 13 "SnowMulesModel" "sign" "[I", Cond.fieldLink RX11 17 "SnowMulesModel" "length" "[I", Cond.fieldLink RX11 20 "SnowMulesModel" "clause" "[I", Cond.fieldLink RX11 23 "SnowMulesModel" "clauses" "[I", Cond.fieldLink RX11 26 "SnowMulesModel" "chain" "[I", Cond.fieldLink RX11 29 "SnowMulesModel" "open" "[I", Cond.arrayClass .long, Cond.fieldLink RX11 32 "SnowMulesModel" "stack" "[J", Cond.fieldLink RX11 36 "SnowMulesModel" "word" "[J", Cond.fieldLink RX11 39 "SnowMulesModel" "said" "[I", Cond.fieldLink RX11 42 "SnowMulesModel" "kept" "[I", Cond.fieldLink RX11 45 "SnowMulesModel" "stepNode" "[I", Cond.fieldLink RX11 48 "SnowMulesModel" "stepDrops" "[I", Cond.fieldLink RX11 51 "SnowMulesModel" "stepHour" "[I", Cond.fieldLink RX11 54 "SnowMulesModel" "stepNext" "[I", Cond.fieldLink RX11 57 "SnowMulesModel" "stepPass" "[I", Cond.fieldLink RX11 60 "SnowMulesModel" "bestPass" "[I", Cond.fieldLink RX11 63 "SnowMulesModel" "far" "[I"]
def wsX11_init_r2 : List Cond := [Cond.fieldLink RX11 66 "SnowMulesModel" "waited" "[I", Cond.fieldLink RX11 69 "SnowMulesModel" "servers" "[I", Cond.fieldLink RX11 72 "SnowMulesModel" "images" "[I", Cond.arrayClass .boolean, Cond.fieldLink RX11 75 "SnowMulesModel" "isMade" "[Z"]
def wsX11_init : List Cond := .code yX11_init cX11_init 1 none :: ((wsX11_init_r1 ++ wsX11_init_r2) ++ wsX110)
abbrev vwCl : List vw_C := [(RX0, TX0, 1), (RX1, TX1, 17), (RX2, TX2, 8), (RX3, TX3, 4), (RX4, TX4, 4), (RX5, TX5, 13), (RX6, TX6, 3), (RX7, TX7, 9), (RX8, TX8, 7), (RX9, TX9, 10), (RX10, TX10, 13), (RX11, TX11, 42)]
set_option maxRecDepth 20000 in
theorem ggX0_init_X4_init : GoodIn wsX0_init wsX4_init := goodIn_r _ [9, 10, 2, 3, 11, 12, 13, 14, 15, 16] (by decide +kernel) (by decide +kernel)
set_option maxRecDepth 20000 in
theorem gX0_init_X4_init_n11 : GoodIn wsX0_init (wsX4_init) := ggX0_init_X4_init
set_option maxRecDepth 20000 in
theorem ggX10_init_X0_init : GoodIn wsX10_init wsX0_init := goodIn_r _ [86, 87, 2, 3, 88, 89, 90, 91, 92, 93, 94, 10, 95, 215, 216, 217, 218, 161] (by decide +kernel) (by decide +kernel)
set_option maxRecDepth 20000 in
theorem gX10_init_X0_init_n42 : GoodIn wsX10_init (wsX0_init) := ggX10_init_X0_init
set_option maxRecDepth 20000 in
theorem ggX10_init_X2_init : GoodIn wsX10_init wsX2_init := goodIn_r _ [62, 63, 2, 3, 10, 64, 65, 66, 67, 68, 69, 70, 71, 72, 73, 74, 75, 76, 77, 78, 79, 80, 81, 82, 83, 84, 153, 154, 155, 156, 157, 158, 159, 160, 198, 199, 200, 201, 202, 203, 204, 205, 206, 207, 208, 209, 210, 211, 212, 213, 214] (by decide +kernel) (by decide +kernel)
set_option maxRecDepth 20000 in
theorem gX10_init_X2_init_n35 : GoodIn wsX10_init (wsX2_init) := ggX10_init_X2_init
set_option maxRecDepth 20000 in
theorem ggX10_init_X3_init : GoodIn wsX10_init wsX3_init := goodIn_r _ [125, 126, 2, 3, 10, 127, 128, 129, 191, 192, 193, 194] (by decide +kernel) (by decide +kernel)
set_option maxRecDepth 20000 in
theorem gX10_init_X3_init : GoodIn wsX10_init (wsX3_init) := ggX10_init_X3_init
set_option maxRecDepth 20000 in
theorem ggX10_init_X5_init : GoodIn wsX10_init wsX5_init := goodIn_r _ [107, 108, 2, 3, 10, 109, 110, 111, 112, 113, 171, 172, 173, 174, 175, 176, 177, 178, 179, 180, 181, 182, 183] (by decide +kernel) (by decide +kernel)
set_option maxRecDepth 20000 in
theorem gX10_init_X5_init : GoodIn wsX10_init (wsX5_init) := ggX10_init_X5_init
set_option maxRecDepth 20000 in
theorem ggX10_init_X7_init : GoodIn wsX10_init wsX7_init := goodIn_r _ [98, 99, 2, 3, 100, 67, 68, 101, 102, 89, 90, 103, 104, 70, 71, 72, 10, 73, 74, 75, 76, 77, 78, 79, 80, 81, 82, 83, 84, 92, 93, 94, 95, 198, 199, 200, 201, 202, 203, 204, 205, 206, 207, 208, 209, 210, 211, 212, 213, 214, 162, 163, 164, 165, 166, 167, 168, 169, 170, 215, 216, 217, 218] (by decide +kernel) (by decide +kernel)
set_option maxRecDepth 20000 in
theorem gX10_init_X7_init : GoodIn wsX10_init (wsX7_init) := ggX10_init_X7_init
set_option maxRecDepth 20000 in
theorem ggX10_init_X8_init : GoodIn wsX10_init wsX8_init := goodIn_r _ [116, 117, 2, 3, 10, 118, 119, 120, 121, 122, 184, 185, 186, 187, 188, 189, 190] (by decide +kernel) (by decide +kernel)
set_option maxRecDepth 20000 in
theorem gX10_init_X8_init : GoodIn wsX10_init (wsX8_init) := ggX10_init_X8_init
set_option maxRecDepth 20000 in
theorem ggX10_init_X9_init : GoodIn wsX10_init wsX9_init := goodIn_r _ [39, 40, 2, 3, 41, 42, 43, 44, 45, 46, 47, 48, 49, 50, 51, 52, 53, 54, 55, 56, 57, 58, 59, 10, 60, 195, 196, 197, 130, 131, 132, 133, 134, 135, 136, 137, 138, 139] (by decide +kernel) (by decide +kernel)
set_option maxRecDepth 20000 in
theorem gX10_init_X9_init_n9 : GoodIn wsX10_init (wsX9_init) := ggX10_init_X9_init
set_option maxRecDepth 20000 in
theorem ggX2_init_X1_init : GoodIn wsX2_init wsX1_init := goodIn_r _ [12, 13, 2, 3, 4, 14, 15, 16, 17, 18, 19, 20, 21, 22, 23, 24, 25, 34, 35, 36, 37, 38, 39, 40, 41, 42, 43, 44, 45, 46, 47, 48, 49, 50] (by decide +kernel) (by decide +kernel)
set_option maxRecDepth 20000 in
theorem gX2_init_X1_init_n22 : GoodIn wsX2_init (wsX1_init) := ggX2_init_X1_init
set_option maxRecDepth 20000 in
theorem ggX7_init_X1_init : GoodIn wsX7_init wsX1_init := goodIn_r _ [14, 15, 2, 3, 16, 17, 18, 19, 20, 21, 22, 23, 24, 25, 26, 27, 28, 33, 34, 35, 36, 37, 38, 39, 40, 41, 42, 43, 44, 45, 46, 47, 48, 49] (by decide +kernel) (by decide +kernel)
set_option maxRecDepth 20000 in
theorem gX7_init_X1_init_n11 : GoodIn wsX7_init (wsX1_init) := ggX7_init_X1_init
set_option maxRecDepth 20000 in
theorem ggX7_init_X4_init : GoodIn wsX7_init wsX4_init := goodIn_r _ [30, 31, 2, 3, 16, 32, 59, 60, 61, 62] (by decide +kernel) (by decide +kernel)
set_option maxRecDepth 20000 in
theorem gX7_init_X4_init_n20 : GoodIn wsX7_init (wsX4_init) := ggX7_init_X4_init
set_option maxRecDepth 20000 in
theorem ggX9_init_X6_init : GoodIn wsX9_init wsX6_init := goodIn_r _ [16, 17, 2, 3, 18, 19, 20, 21, 22, 23, 24, 25, 26, 27] (by decide +kernel) (by decide +kernel)
set_option maxRecDepth 20000 in
theorem gX9_init_X6_init : GoodIn wsX9_init (wsX6_init) := ggX9_init_X6_init
end
section
/-- the array classes that the worlds hold -/
abbrev tyz (k : Nat → ClassId) : List (ClassId × FieldType) := [(k 0, .int), (k 1, .byte), (k 2, .long), (k 3, .boolean), (k 4, .object RX9), (k 5, .object RX1)]
/-- links between nest mates -/
def zN (U : State) : Prop := va_Nw (.methodLinkNest RX10 9 yX9_init RX10) U ∧ va_Nw (.methodLinkNest RX10 35 yX2_init RX10) U ∧ va_Nw (.methodLinkNest RX2 22 yX1_init RX10) U ∧ va_Nw (.methodLinkNest RX10 42 yX0_init RX10) U ∧ va_Nw (.methodLinkNest RX0 11 yX4_init RX10) U ∧ va_Nw (.methodLinkNest RX7 11 yX1_init RX10) U ∧ va_Nw (.methodLinkNest RX7 20 yX4_init RX10) U ∧ va_Nw (.methodLinkNest RX10 131 yX1_init RX10) U ∧ va_Nw (.methodLinkNest RX0 90 yX10_held RX10) U ∧ va_Nw (.methodLinkNest RX7 70 yX10_held RX10) U
theorem zN.warm {s U : State} (hW : s.WarmedH U.vm) (h : zN s) : zN U := by
  obtain ⟨h0, h1, h2, h3, h4, h5, h6, h7, h8, h9⟩ := h
  exact ⟨h0.warmM hW, h1.warmM hW, h2.warmM hW, h3.warmM hW, h4.warmM hW, h5.warmM hW, h6.warmM hW, h7.warmM hW, h8.warmM hW, h9.warmM hW⟩
theorem zN.same {u U : State} (h : u.vm = U.vm) (hz : zN u) : zN U := by
  obtain ⟨h0, h1, h2, h3, h4, h5, h6, h7, h8, h9⟩ := hz
  exact ⟨h0.same rfl h, h1.same rfl h, h2.same rfl h, h3.same rfl h, h4.same rfl h, h5.same rfl h, h6.same rfl h, h7.same rfl h, h8.same rfl h, h9.same rfl h⟩
/-- what the tables say, at every state of a run -/
def zK (dC : Nat → ClassId) (dI : Nat → Nat → Nat) (kA : Nat → ClassId) (U : State) : Prop := va_K (dC, dI) vwCl (tyz kA) U ∧ zN U ∧ va_AO RX9 U ∧ va_AO RX1 U
theorem zK.warm {dC : Nat → ClassId} {dI : Nat → Nat → Nat} {kA : Nat → ClassId} {s U : State} (hW : s.WarmedH U.vm) (h : zK dC dI kA s) : zK dC dI kA U := ⟨va_K.moved hW.alike h.1, h.2.1.warm hW, h.2.2.1.moved hW.alike, h.2.2.2.moved hW.alike⟩
theorem zK.calling {dC : Nat → ClassId} {dI : Nat → Nat → Nat} {kA : Nat → ClassId} {U : State} {g : JFrame} {mk : MethodId} {a : Array Value} (h : zK dC dI kA U) : zK dC dI kA (U.calling g mk a) := ⟨va_K.moved (u := U) (U := U.calling g mk a) (Vm.Alike.refl U.vm) h.1, h.2.1.same (U := U.calling g mk a) rfl, va_AO.moved (u := U) (U := U.calling g mk a) (Vm.Alike.refl U.vm) h.2.2.1, va_AO.moved (u := U) (U := U.calling g mk a) (Vm.Alike.refl U.vm) h.2.2.2⟩
/-- a method's start: its arguments, the heap's size, its world -/
def zPc (dC : Nat → ClassId) (dI : Nat → Nat → Nat) (kA : Nat → ClassId) (sz : Nat) (av : List Value) (ws : va_W) : Array Value → State → Prop := va_Pc av (fun U => U.heap.size = sz ∧ va_P (dC, dI) vwCl ws U.heap ∧ zK dC dI kA U ∧ va_D (fun _ => True) ws)
theorem zPc.blind {dC : Nat → ClassId} {dI : Nat → Nat → Nat} {kA : Nat → ClassId} {sz : Nat} {av : List Value} {ws : va_W} : FrameBlind (zPc dC dI kA sz av ws) := fun _ _ _ _ h => ⟨h.1, h.2.1, h.2.2.1, h.2.2.2.1.calling, h.2.2.2.2⟩
theorem zPre {dC : Nat → ClassId} {dI : Nat → Nat → Nat} {kA : Nat → ClassId} {s : State} {H : Heap} {A : Nat → Prop} {av : List Value} {wc : va_W} (hK : zK dC dI kA s) (hP : va_P (dC, dI) vwCl wc H) (hD : va_D A wc) : ∀ U : State, U.heap = H → s.WarmedH U.vm → zPc dC dI kA H.size av wc av.toArray U := fun U hU hW => ⟨rfl, by rw [hU], by rw [hU]; exact hP, hK.warm hW, hD.weaken (fun _ _ _ _ => trivial)⟩
/-- a method's end: the world that it leaves -/
abbrev zB {S : Type} (dC : Nat → ClassId) (dI : Nat → Nat → Nat) (A : Nat → Prop) (w1 : S → va_W) : S → State → Prop := fun u t => va_P (dC, dI) vwCl (w1 u) t.heap ∧ va_D A (w1 u)
theorem va_P_map {D : va_G} {cl : List vw_C} {ws wc : va_W} {H : Heap} (hP : va_P D cl ws H) (is : List Nat) (hC : is.map (fun i => ws[i]?) = wc.map some) : va_P D cl wc H := by
  intro k q hq
  have h1 : (is.map (fun i => ws[i]?))[k]? = some (some q) := by rw [hC, List.getElem?_map, hq]; rfl
  rw [List.getElem?_map] at h1
  cases hi : is[k]? with
  | none => rw [hi] at h1; cases h1
  | some i => rw [hi] at h1; exact hP i q (Option.some.inj h1)
theorem vpd {i : Int32} {n : Nat} (h : (decide (i < 0) || decide (n ≤ i.toNatClampNeg)) = false) : vp_in i n := by
  intro q
  rcases q with q | q
  · simp [q] at h
  · simp [q] at h
section ZC
variable {p : Program} {l : Launch} {e : Env} {R : Room} {s : State} {m : MethodId} {args : Array Value} {below : List Frame} {meth : Method} {c : Code} {H : Heap} {locs : List Loc} {cells slots : Nat} {Q : State → Prop}
variable {pc : Nat} {ls : Array Slot} {rest st0 : List Value} {dC : Nat → ClassId} {dI : Nat → Nat → Nat} {kA : Nat → ClassId}
/-- a number on the stack, by another name -/
theorem zi {x : Int32} (y : Int32) (h : x = y) (k : W p l e R s m args below meth c H locs cells slots Q (F0 m pc ls (.int y :: rest))) : W p l e R s m args below meth c H locs cells slots Q (F0 m pc ls (.int x :: rest)) := by subst h; exact k
theorem zl {x : Int64} (y : Int64) (h : x = y) (k : W p l e R s m args below meth c H locs cells slots Q (F0 m pc ls (.long y :: rest))) : W p l e R s m args below meth c H locs cells slots Q (F0 m pc ls (.long x :: rest)) := by subst h; exact k
theorem zv {x : Value} (y : Value) (h : x = y) (k : W p l e R s m args below meth c H locs cells slots Q (F0 m pc ls (y :: rest))) : W p l e R s m args below meth c H locs cells slots Q (F0 m pc ls (x :: rest)) := by subst h; exact k
variable {A0 : Nat → Prop} {H0 : Heap} {ws wc wr : va_W} {mc ms : Nat} {a : Array Value}
theorem z_i {S : Type} {post : Int32 → S → Prop} {w1 : S → va_W} (hr : va_Run p l e R s m args below meth c H locs cells slots mc ms (F0 m pc ls st0) rest (va_Qi post (zB dC dI (va_A wc H.size) w1) (va_A wc H.size) a) (va_A wc H.size)) (hP : va_P (dC, dI) vwCl ws H) (hD : va_D A0 ws) (hS : va_S A0 H0 H locs) (hA : ∀ q, H0.size ≤ q → A0 q) (isC isR : List Nat) (hC : isC.map (fun i => ws[i]?) = wc.map some) (hR : isR.map (fun i => ws[i]?) = wr.map some) (hn : va_nd isR = true) (hdis : ∀ i ∈ isR, i ∉ isC)
    (kk : ∀ (r : Int32) (u : S) (H1 : Heap) (locs1 : List Loc), post r u → va_P (dC, dI) vwCl (wr ++ w1 u) H1 → va_D A0 (wr ++ w1 u) → va_S A0 H0 H1 locs1 → W p l e R s m args below meth c H1 locs1 (cells + mc) (slots + ms) Q (F0 m (pc + 3) ls (.int r :: rest))) : W p l e R s m args below meth c H locs cells slots Q (F0 m pc ls st0) := by
  have hF := va_free hD hS hA isC hC
  refine va_calli hr hS (fun q _ h => hF q h) hF (fun r u t H1 locs1 ht _ hw hB _ hk hS1 => ?_)
  obtain ⟨hP1, hD1⟩ := hB
  rw [ht] at hP1
  obtain ⟨hP2, hD2⟩ := va_join hP hD isC isR hC hR hn hdis hk hF hP1 hD1
  exact kk r u H1 locs1 hw hP2 hD2 hS1
theorem z_l {S : Type} {post : Int64 → S → Prop} {w1 : S → va_W} (hr : va_Run p l e R s m args below meth c H locs cells slots mc ms (F0 m pc ls st0) rest (va_Ql post (zB dC dI (va_A wc H.size) w1) (va_A wc H.size) a) (va_A wc H.size)) (hP : va_P (dC, dI) vwCl ws H) (hD : va_D A0 ws) (hS : va_S A0 H0 H locs) (hA : ∀ q, H0.size ≤ q → A0 q) (isC isR : List Nat) (hC : isC.map (fun i => ws[i]?) = wc.map some) (hR : isR.map (fun i => ws[i]?) = wr.map some) (hn : va_nd isR = true) (hdis : ∀ i ∈ isR, i ∉ isC)
    (kk : ∀ (r : Int64) (u : S) (H1 : Heap) (locs1 : List Loc), post r u → va_P (dC, dI) vwCl (wr ++ w1 u) H1 → va_D A0 (wr ++ w1 u) → va_S A0 H0 H1 locs1 → W p l e R s m args below meth c H1 locs1 (cells + mc) (slots + ms) Q (F0 m (pc + 3) ls (.long r :: rest))) : W p l e R s m args below meth c H locs cells slots Q (F0 m pc ls st0) := by
  have hF := va_free hD hS hA isC hC
  refine va_calll hr hS (fun q _ h => hF q h) hF (fun r u t H1 locs1 ht _ hw hB _ hk hS1 => ?_)
  obtain ⟨hP1, hD1⟩ := hB
  rw [ht] at hP1
  obtain ⟨hP2, hD2⟩ := va_join hP hD isC isR hC hR hn hdis hk hF hP1 hD1
  exact kk r u H1 locs1 hw hP2 hD2 hS1
theorem z_q {S : Type} {post : Option Nat → S → Prop} {w1 : S → va_W} (hr : va_Run p l e R s m args below meth c H locs cells slots mc ms (F0 m pc ls st0) rest (va_Qq post (zB dC dI (va_A wc H.size) w1) (va_A wc H.size) a) (va_A wc H.size)) (hP : va_P (dC, dI) vwCl ws H) (hD : va_D A0 ws) (hS : va_S A0 H0 H locs) (hA : ∀ q, H0.size ≤ q → A0 q) (isC isR : List Nat) (hC : isC.map (fun i => ws[i]?) = wc.map some) (hR : isR.map (fun i => ws[i]?) = wr.map some) (hn : va_nd isR = true) (hdis : ∀ i ∈ isR, i ∉ isC)
    (kk : ∀ (r : Option Nat) (u : S) (H1 : Heap) (locs1 : List Loc), post r u → va_P (dC, dI) vwCl (wr ++ w1 u) H1 → va_D A0 (wr ++ w1 u) → va_S A0 H0 H1 locs1 → W p l e R s m args below meth c H1 locs1 (cells + mc) (slots + ms) Q (F0 m (pc + 3) ls (va_rf r :: rest))) : W p l e R s m args below meth c H locs cells slots Q (F0 m pc ls st0) := by
  have hF := va_free hD hS hA isC hC
  refine va_callq hr hS (fun q _ h => hF q h) hF (fun r u t H1 locs1 ht _ hw hB _ hk hS1 => ?_)
  obtain ⟨hP1, hD1⟩ := hB
  rw [ht] at hP1
  obtain ⟨hP2, hD2⟩ := va_join hP hD isC isR hC hR hn hdis hk hF hP1 hD1
  exact kk r u H1 locs1 hw hP2 hD2 hS1
theorem z_v {S : Type} {post : S → Prop} {w1 : S → va_W} (hr : va_Run p l e R s m args below meth c H locs cells slots mc ms (F0 m pc ls st0) rest (va_Qv post (zB dC dI (va_A wc H.size) w1) (va_A wc H.size) a) (va_A wc H.size)) (hP : va_P (dC, dI) vwCl ws H) (hD : va_D A0 ws) (hS : va_S A0 H0 H locs) (hA : ∀ q, H0.size ≤ q → A0 q) (isC isR : List Nat) (hC : isC.map (fun i => ws[i]?) = wc.map some) (hR : isR.map (fun i => ws[i]?) = wr.map some) (hn : va_nd isR = true) (hdis : ∀ i ∈ isR, i ∉ isC)
    (kk : ∀ (u : S) (H1 : Heap) (locs1 : List Loc), post u → va_P (dC, dI) vwCl (wr ++ w1 u) H1 → va_D A0 (wr ++ w1 u) → va_S A0 H0 H1 locs1 → W p l e R s m args below meth c H1 locs1 (cells + mc) (slots + ms) Q (F0 m (pc + 3) ls rest)) : W p l e R s m args below meth c H locs cells slots Q (F0 m pc ls st0) := by
  have hF := va_free hD hS hA isC hC
  refine va_callv hr hS (fun q _ h => hF q h) hF (fun u t H1 locs1 ht _ hw hB _ hk hS1 => ?_)
  obtain ⟨hP1, hD1⟩ := hB
  rw [ht] at hP1
  obtain ⟨hP2, hD2⟩ := va_join hP hD isC isR hC hR hn hdis hk hF hP1 hD1
  exact kk u H1 locs1 hw hP2 hD2 hS1
variable {cc : ByteArray}
/-- a new array, its class the one that the tables name -/
theorem z_newa (hexec : p.tables.exec = Jvm.exec) (hb : c.code = cc) {atype : ArrayType} (harr : (Cond.arrayClass (newarray.typeOf atype)).before args s = true) {ty : FieldType} (hty : newarray.typeOf atype = ty) (hK : zK dC dI kA s) (hP : va_P (dC, dI) vwCl ws H) (hD : va_D A0 ws) (hS : va_S A0 H0 H locs) (hA : ∀ q, H0.size ≤ q → A0 q) (t0 : Nat) {cU : ClassId} (ht : (tyz kA)[t0]? = some (cU, ty)) (hU : s.vm.findClass ("[" ++ ty.toString) = some cU → ∀ cA : ClassId, va_RA s cA ty → cA = cU) (hU0 : va_RA s cU ty → s.vm.findClass ("[" ++ ty.toString) = some cU)
    {n : Int32} {N' : Nat} {a0 : vp_A} (ha : ∀ cA : ClassId, vp_cell cA a0 = arrV cA N' (fun _ => defaultValue ty)) (hn : ¬ n < 0) (hN : n.toNatClampNeg = N') (hbytes : N' * componentBytes ty ≤ 536870912) (hcells : cells + 1 ≤ R.cells) (hslots : slots + N' ≤ R.slots) (hdg : decode cc pc = .ok (.newarray atype, 2))
    (kk : ∀ (q : Nat) (H1 : Heap), va_P (dC, dI) vwCl (ws ++ [(q, .inl (cU, a0))]) H1 → va_D A0 (ws ++ [(q, .inl (cU, a0))]) → va_S A0 H0 H1 locs →
      W p l e R s m args below meth c H1 locs (cells + 1) (slots + N') Q (F0 m (pc + 2) ls (.ref q :: rest))) : W p l e R s m args below meth c H locs cells slots Q (F0 m pc ls (.int n :: rest)) := by
  refine va_newa hexec hb harr hty hK.1 hP hD hS hA ha hn hN hbytes hcells hslots hdg (fun q cA H1 hK1 hP1 hD1 hS1 => ?_)
  have e1 : va_RA s cU ty := (hK.1.2 t0 _ ht).2
  have e2 : va_RA s cA ty := (hK1.2 (tyz kA).length (cA, ty) (by rw [List.getElem?_append_right (Nat.le_refl _), Nat.sub_self]; rfl)).2
  have e3 : cA = cU := hU (hU0 e1) cA e2
  subst e3
  exact kk q H1 hP1 hD1 hS1
theorem z_newi (hexec : p.tables.exec = Jvm.exec) (hb : c.code = cc) (harr : (Cond.arrayClass .int).before args s = true) (hK : zK dC dI kA s) (hP : va_P (dC, dI) vwCl ws H) (hD : va_D A0 ws) (hS : va_S A0 H0 H locs) (hA : ∀ q, H0.size ≤ q → A0 q) {n : Int32} (N' : Nat) (hn : ¬ n < 0) (hN : n.toNatClampNeg = N') (hbytes : N' * 4 ≤ 536870912) (hcells : cells + 1 ≤ R.cells) (hslots : slots + N' ≤ R.slots) (hdg : decode cc pc = .ok (.newarray .int, 2))
    (kk : ∀ (q : Nat) (H1 : Heap), va_P (dC, dI) vwCl (ws ++ [(q, .inl (kA 0, N', .inl (fun _ => 0)))]) H1 → va_D A0 (ws ++ [(q, .inl (kA 0, N', .inl (fun _ => 0)))]) → va_S A0 H0 H1 locs →
      W p l e R s m args below meth c H1 locs (cells + 1) (slots + N') Q (F0 m (pc + 2) ls (.ref q :: rest))) : W p l e R s m args below meth c H locs cells slots Q (F0 m pc ls (.int n :: rest)) :=
  z_newa (atype := .int) (ty := .int) hexec hb harr rfl hK hP hD hS hA 0 rfl (fun h cA h2 => Option.some.inj ((show s.vm.findClass _ = some cA from h2).symm.trans h)) (fun h => h) (fun _ => rfl) hn hN hbytes hcells hslots hdg kk
theorem z_newb (hexec : p.tables.exec = Jvm.exec) (hb : c.code = cc) (harr : (Cond.arrayClass .byte).before args s = true) (hK : zK dC dI kA s) (hP : va_P (dC, dI) vwCl ws H) (hD : va_D A0 ws) (hS : va_S A0 H0 H locs) (hA : ∀ q, H0.size ≤ q → A0 q) {n : Int32} (N' : Nat) (hn : ¬ n < 0) (hN : n.toNatClampNeg = N') (hbytes : N' * 1 ≤ 536870912) (hcells : cells + 1 ≤ R.cells) (hslots : slots + N' ≤ R.slots) (hdg : decode cc pc = .ok (.newarray .byte, 2))
    (kk : ∀ (q : Nat) (H1 : Heap), va_P (dC, dI) vwCl (ws ++ [(q, .inl (kA 1, N', .inl (fun _ => 0)))]) H1 → va_D A0 (ws ++ [(q, .inl (kA 1, N', .inl (fun _ => 0)))]) → va_S A0 H0 H1 locs →
      W p l e R s m args below meth c H1 locs (cells + 1) (slots + N') Q (F0 m (pc + 2) ls (.ref q :: rest))) : W p l e R s m args below meth c H locs cells slots Q (F0 m pc ls (.int n :: rest)) :=
  z_newa (atype := .byte) (ty := .byte) hexec hb harr rfl hK hP hD hS hA 1 rfl (fun h cA h2 => Option.some.inj ((show s.vm.findClass _ = some cA from h2).symm.trans h)) (fun h => h) (fun _ => rfl) hn hN hbytes hcells hslots hdg kk
theorem z_newj (hexec : p.tables.exec = Jvm.exec) (hb : c.code = cc) (harr : (Cond.arrayClass .long).before args s = true) (hK : zK dC dI kA s) (hP : va_P (dC, dI) vwCl ws H) (hD : va_D A0 ws) (hS : va_S A0 H0 H locs) (hA : ∀ q, H0.size ≤ q → A0 q) {n : Int32} (N' : Nat) (hn : ¬ n < 0) (hN : n.toNatClampNeg = N') (hbytes : N' * 8 ≤ 536870912) (hcells : cells + 1 ≤ R.cells) (hslots : slots + N' ≤ R.slots) (hdg : decode cc pc = .ok (.newarray .long, 2))
    (kk : ∀ (q : Nat) (H1 : Heap), va_P (dC, dI) vwCl (ws ++ [(q, .inl (kA 2, N', .inr (.inl (fun _ => 0))))]) H1 → va_D A0 (ws ++ [(q, .inl (kA 2, N', .inr (.inl (fun _ => 0))))]) → va_S A0 H0 H1 locs →
      W p l e R s m args below meth c H1 locs (cells + 1) (slots + N') Q (F0 m (pc + 2) ls (.ref q :: rest))) : W p l e R s m args below meth c H locs cells slots Q (F0 m pc ls (.int n :: rest)) :=
  z_newa (atype := .long) (ty := .long) hexec hb harr rfl hK hP hD hS hA 2 rfl (fun h cA h2 => Option.some.inj ((show s.vm.findClass _ = some cA from h2).symm.trans h)) (fun h => h) (fun _ => rfl) hn hN hbytes hcells hslots hdg kk
theorem z_newz (hexec : p.tables.exec = Jvm.exec) (hb : c.code = cc) (harr : (Cond.arrayClass .boolean).before args s = true) (hK : zK dC dI kA s) (hP : va_P (dC, dI) vwCl ws H) (hD : va_D A0 ws) (hS : va_S A0 H0 H locs) (hA : ∀ q, H0.size ≤ q → A0 q) {n : Int32} (N' : Nat) (hn : ¬ n < 0) (hN : n.toNatClampNeg = N') (hbytes : N' * 1 ≤ 536870912) (hcells : cells + 1 ≤ R.cells) (hslots : slots + N' ≤ R.slots) (hdg : decode cc pc = .ok (.newarray .boolean, 2))
    (kk : ∀ (q : Nat) (H1 : Heap), va_P (dC, dI) vwCl (ws ++ [(q, .inl (kA 3, N', .inl (fun _ => 0)))]) H1 → va_D A0 (ws ++ [(q, .inl (kA 3, N', .inl (fun _ => 0)))]) → va_S A0 H0 H1 locs →
      W p l e R s m args below meth c H1 locs (cells + 1) (slots + N') Q (F0 m (pc + 2) ls (.ref q :: rest))) : W p l e R s m args below meth c H locs cells slots Q (F0 m pc ls (.int n :: rest)) :=
  z_newa (atype := .boolean) (ty := .boolean) hexec hb harr rfl hK hP hD hS hA 3 rfl (fun h cA h2 => Option.some.inj ((show s.vm.findClass _ = some cA from h2).symm.trans h)) (fun h => h) (fun _ => rfl) hn hN hbytes hcells hslots hdg kk
theorem z_newq (hexec : p.tables.exec = Jvm.exec) (hb : c.code = cc) {own C : String} {index : Nat} (hown : s.vm.findClass own = some m.cls) (hclink : (Cond.classLink own index C).before args s = true) (hover : va_AO C s) (hK : zK dC dI kA s) (hP : va_P (dC, dI) vwCl ws H) (hD : va_D A0 ws) (hS : va_S A0 H0 H locs) (hA : ∀ q, H0.size ≤ q → A0 q) (t0 : Nat) {cU : ClassId} (ht : (tyz kA)[t0]? = some (cU, .object C))
    {n : Int32} (N' : Nat) (hn : ¬ n < 0) (hN : n.toNatClampNeg = N') (hbytes : N' * 4 ≤ 536870912) (hcells : cells + 1 ≤ R.cells) (hslots : slots + N' ≤ R.slots) (hdg : decode cc pc = .ok (.anewarray index, 3))
    (kk : ∀ (q : Nat) (H1 : Heap), va_P (dC, dI) vwCl (ws ++ [(q, .inl (cU, N', .inr (.inr (.inr (.inr (fun _ => none))))))]) H1 → va_D A0 (ws ++ [(q, .inl (cU, N', .inr (.inr (.inr (.inr (fun _ => none))))))]) → va_S A0 H0 H1 locs →
      W p l e R s m args below meth c H1 locs (cells + 1) (slots + N') Q (F0 m (pc + 3) ls (.ref q :: rest))) : W p l e R s m args below meth c H locs cells slots Q (F0 m pc ls (.int n :: rest)) := by
  refine va_newq hexec hb hown hclink hover hK.1 hP hD hS hA hn hN hbytes hcells hslots hdg (fun q cA H1 hK1 hP1 hD1 hS1 => ?_)
  obtain ⟨_, _, _, _, _, e1⟩ := (hK.1.2 t0 _ ht).2
  obtain ⟨_, _, _, _, _, e2⟩ := (hK1.2 (tyz kA).length (cA, .object C) (by rw [List.getElem?_append_right (Nat.le_refl _), Nat.sub_self]; rfl)).2
  have e3 : cA = cU := Option.some.inj (e2.symm.trans e1)
  subst e3
  exact kk q H1 hP1 hD1 hS1
end ZC
end
section
theorem fsX6 : ∀ j, j < 3 → defaultValue (tyX6 j) = vp_V [.int 0, .null, .int 0] j := by decide +kernel
theorem fsX1 : ∀ j, j < 17 → defaultValue (tyX1 j) = vp_V [.int 0, .int 0, .null, .null, .null, .null, .null, .int 0, .null, .null, .int 0, .null, .null, .null, .null, .int 0, .null] j := by decide +kernel
theorem fsX4 : ∀ j, j < 4 → defaultValue (tyX4 j) = vp_V [.null, .int 0, .int 0, .int 0] j := by decide +kernel
theorem fsX9 : ∀ j, j < 10 → defaultValue (tyX9 j) = vp_V [.null, .null, .null, .null, .null, .null, .int 0, .int 0, .int 0, .int 0] j := by decide +kernel
theorem fsX2 : ∀ j, j < 8 → defaultValue (tyX2 j) = vp_V [.null, .null, .int 0, .int 0, .int 0, .int 0, .int 0, .null] j := by decide +kernel
theorem fsX0 : ∀ j, j < 1 → defaultValue (tyX0 j) = vp_V [.null] j := by decide +kernel
theorem fsX7 : ∀ j, j < 9 → defaultValue (tyX7 j) = vp_V [.int 0, .int 0, .int 0, .int 0, .int 0, .int 0, .null, .null, .null] j := by decide +kernel
theorem fsX5 : ∀ j, j < 13 → defaultValue (tyX5 j) = vp_V [.int 0, .int 0, .int 0, .int 0, .int 0, .int 0, .int 0, .int 0, .null, .null, .null, .null, .null] j := by decide +kernel
theorem fsX8 : ∀ j, j < 7 → defaultValue (tyX8 j) = vp_V [.int 0, .int 0, .null, .null, .null, .null, .null] j := by decide +kernel
theorem fsX3 : ∀ j, j < 4 → defaultValue (tyX3 j) = vp_V [.int 0, .null, .null, .null] j := by decide +kernel
theorem kX6_init_1 {a : Array Value} {s : State} (hts : ∀ w ∈ wsX6_init, w.before a s = true) : (.methodLink RX6 3 objectInit : Cond).before a s = true := hts _ (List.mem_of_getElem? (i := 1) (by decide +kernel))
theorem kX6_init_2 {a : Array Value} {s : State} (hts : ∀ w ∈ wsX6_init, w.before a s = true) : (.instanceMethod objectInit : Cond).before a s = true := hts _ (List.mem_of_getElem? (i := 2) (by decide +kernel))
theorem kX6_init_3 {a : Array Value} {s : State} (hts : ∀ w ∈ wsX6_init, w.before a s = true) : (.code objectInit ⟨#[0xb1]⟩ 1 none : Cond).before a s = true := hts _ (List.mem_of_getElem? (i := 3) (by decide +kernel))
theorem kX6_init_4 {a : Array Value} {s : State} (hts : ∀ w ∈ wsX6_init, w.before a s = true) : (.fieldLink RX6 9 "SnowMules$Table" "width" "I" : Cond).before a s = true := hts _ (List.mem_of_getElem? (i := 4) (by decide +kernel))
theorem kX6_init_5 {a : Array Value} {s : State} (hts : ∀ w ∈ wsX6_init, w.before a s = true) : (.methodLink RX6 15 Lib.Math.max.name : Cond).before a s = true := hts _ (List.mem_of_getElem? (i := 5) (by decide +kernel))
theorem kX6_init_6 {a : Array Value} {s : State} (hts : ∀ w ∈ wsX6_init, w.before a s = true) : (.static Lib.Math.max.name : Cond).before a s = true := hts _ (List.mem_of_getElem? (i := 6) (by decide +kernel))
theorem kX6_init_7 {a : Array Value} {s : State} (hts : ∀ w ∈ wsX6_init, w.before a s = true) : (.initialized "java/lang/Math" : Cond).before a s = true := hts _ (List.mem_of_getElem? (i := 7) (by decide +kernel))
theorem kX6_init_8 {a : Array Value} {s : State} (hts : ∀ w ∈ wsX6_init, w.before a s = true) : (.code Lib.Math.max.name Lib.Math.max.code 2 (some .int) : Cond).before a s = true := hts _ (List.mem_of_getElem? (i := 8) (by decide +kernel))
theorem kX6_init_9 {a : Array Value} {s : State} (hts : ∀ w ∈ wsX6_init, w.before a s = true) : (.arrayClass .int : Cond).before a s = true := hts _ (List.mem_of_getElem? (i := 9) (by decide +kernel))
theorem kX6_init_10 {a : Array Value} {s : State} (hts : ∀ w ∈ wsX6_init, w.before a s = true) : (.fieldLink RX6 21 "SnowMules$Table" "cells" "[I" : Cond).before a s = true := hts _ (List.mem_of_getElem? (i := 10) (by decide +kernel))
theorem kX9_init_1 {a : Array Value} {s : State} (hts : ∀ w ∈ wsX9_init, w.before a s = true) : (.methodLink RX9 3 objectInit : Cond).before a s = true := hts _ (List.mem_of_getElem? (i := 1) (by decide +kernel))
theorem kX9_init_2 {a : Array Value} {s : State} (hts : ∀ w ∈ wsX9_init, w.before a s = true) : (.instanceMethod objectInit : Cond).before a s = true := hts _ (List.mem_of_getElem? (i := 2) (by decide +kernel))
theorem kX9_init_3 {a : Array Value} {s : State} (hts : ∀ w ∈ wsX9_init, w.before a s = true) : (.code objectInit ⟨#[0xb1]⟩ 1 none : Cond).before a s = true := hts _ (List.mem_of_getElem? (i := 3) (by decide +kernel))
theorem kX9_init_4 {a : Array Value} {s : State} (hts : ∀ w ∈ wsX9_init, w.before a s = true) : (.classLink RX9 9 RX6 : Cond).before a s = true := hts _ (List.mem_of_getElem? (i := 4) (by decide +kernel))
theorem kX9_init_5 {a : Array Value} {s : State} (hts : ∀ w ∈ wsX9_init, w.before a s = true) : (.instantiable RX6 3 : Cond).before a s = true := hts _ (List.mem_of_getElem? (i := 5) (by decide +kernel))
theorem kX9_init_6 {a : Array Value} {s : State} (hts : ∀ w ∈ wsX9_init, w.before a s = true) : (.initialized RX6 : Cond).before a s = true := hts _ (List.mem_of_getElem? (i := 6) (by decide +kernel))
theorem kX9_init_14 {a : Array Value} {s : State} (hts : ∀ w ∈ wsX9_init, w.before a s = true) : (.methodLink RX9 11 yX6_init : Cond).before a s = true := hts _ (List.mem_of_getElem? (i := 14) (by decide +kernel))
theorem kX9_init_15 {a : Array Value} {s : State} (hts : ∀ w ∈ wsX9_init, w.before a s = true) : (.instanceMethod yX6_init : Cond).before a s = true := hts _ (List.mem_of_getElem? (i := 15) (by decide +kernel))
theorem kX9_init_7 {a : Array Value} {s : State} (hts : ∀ w ∈ wsX9_init, w.before a s = true) : (.fieldLink RX9 14 "SnowMules$World" "nodes" "LSnowMules$Table;" : Cond).before a s = true := hts _ (List.mem_of_getElem? (i := 7) (by decide +kernel))
theorem kX9_init_8 {a : Array Value} {s : State} (hts : ∀ w ∈ wsX9_init, w.before a s = true) : (.fieldLink RX9 20 "SnowMules$World" "passes" "LSnowMules$Table;" : Cond).before a s = true := hts _ (List.mem_of_getElem? (i := 8) (by decide +kernel))
theorem kX9_init_9 {a : Array Value} {s : State} (hts : ∀ w ∈ wsX9_init, w.before a s = true) : (.fieldLink RX9 23 "SnowMules$World" "jars" "LSnowMules$Table;" : Cond).before a s = true := hts _ (List.mem_of_getElem? (i := 9) (by decide +kernel))
theorem kX9_init_10 {a : Array Value} {s : State} (hts : ∀ w ∈ wsX9_init, w.before a s = true) : (.fieldLink RX9 26 "SnowMules$World" "orders" "LSnowMules$Table;" : Cond).before a s = true := hts _ (List.mem_of_getElem? (i := 10) (by decide +kernel))
theorem kX9_init_11 {a : Array Value} {s : State} (hts : ∀ w ∈ wsX9_init, w.before a s = true) : (.fieldLink RX9 29 "SnowMules$World" "feasts" "LSnowMules$Table;" : Cond).before a s = true := hts _ (List.mem_of_getElem? (i := 11) (by decide +kernel))
theorem kX9_init_12 {a : Array Value} {s : State} (hts : ∀ w ∈ wsX9_init, w.before a s = true) : (.fieldLink RX9 32 "SnowMules$World" "way" "LSnowMules$Table;" : Cond).before a s = true := hts _ (List.mem_of_getElem? (i := 12) (by decide +kernel))
theorem kX9_init_13 {a : Array Value} {s : State} (hts : ∀ w ∈ wsX9_init, w.before a s = true) : (.fieldLink RX9 35 "SnowMules$World" "wayStart" "I" : Cond).before a s = true := hts _ (List.mem_of_getElem? (i := 13) (by decide +kernel))
theorem kX4_init_1 {a : Array Value} {s : State} (hts : ∀ w ∈ wsX4_init, w.before a s = true) : (.methodLink RX4 3 objectInit : Cond).before a s = true := hts _ (List.mem_of_getElem? (i := 1) (by decide +kernel))
theorem kX4_init_2 {a : Array Value} {s : State} (hts : ∀ w ∈ wsX4_init, w.before a s = true) : (.instanceMethod objectInit : Cond).before a s = true := hts _ (List.mem_of_getElem? (i := 2) (by decide +kernel))
theorem kX4_init_3 {a : Array Value} {s : State} (hts : ∀ w ∈ wsX4_init, w.before a s = true) : (.code objectInit ⟨#[0xb1]⟩ 1 none : Cond).before a s = true := hts _ (List.mem_of_getElem? (i := 3) (by decide +kernel))
theorem kX4_init_4 {a : Array Value} {s : State} (hts : ∀ w ∈ wsX4_init, w.before a s = true) : (.arrayClass .int : Cond).before a s = true := hts _ (List.mem_of_getElem? (i := 4) (by decide +kernel))
theorem kX4_init_5 {a : Array Value} {s : State} (hts : ∀ w ∈ wsX4_init, w.before a s = true) : (.fieldLink RX4 11 "SnowMules$Scene" "words" "[I" : Cond).before a s = true := hts _ (List.mem_of_getElem? (i := 5) (by decide +kernel))
theorem kX1_init_1 {a : Array Value} {s : State} (hts : ∀ w ∈ wsX1_init, w.before a s = true) : (.methodLink RX1 1 objectInit : Cond).before a s = true := hts _ (List.mem_of_getElem? (i := 1) (by decide +kernel))
theorem kX1_init_2 {a : Array Value} {s : State} (hts : ∀ w ∈ wsX1_init, w.before a s = true) : (.instanceMethod objectInit : Cond).before a s = true := hts _ (List.mem_of_getElem? (i := 2) (by decide +kernel))
theorem kX1_init_3 {a : Array Value} {s : State} (hts : ∀ w ∈ wsX1_init, w.before a s = true) : (.code objectInit ⟨#[0xb1]⟩ 1 none : Cond).before a s = true := hts _ (List.mem_of_getElem? (i := 3) (by decide +kernel))
theorem kX1_init_4 {a : Array Value} {s : State} (hts : ∀ w ∈ wsX1_init, w.before a s = true) : (.arrayClass .int : Cond).before a s = true := hts _ (List.mem_of_getElem? (i := 4) (by decide +kernel))
theorem kX1_init_5 {a : Array Value} {s : State} (hts : ∀ w ∈ wsX1_init, w.before a s = true) : (.fieldLink RX1 9 "SnowMules$Law" "sorts" "[I" : Cond).before a s = true := hts _ (List.mem_of_getElem? (i := 5) (by decide +kernel))
theorem kX1_init_6 {a : Array Value} {s : State} (hts : ∀ w ∈ wsX1_init, w.before a s = true) : (.fieldLink RX1 13 "SnowMules$Law" "sumStarts" "[I" : Cond).before a s = true := hts _ (List.mem_of_getElem? (i := 6) (by decide +kernel))
theorem kX1_init_7 {a : Array Value} {s : State} (hts : ∀ w ∈ wsX1_init, w.before a s = true) : (.fieldLink RX1 16 "SnowMules$Law" "sumStops" "[I" : Cond).before a s = true := hts _ (List.mem_of_getElem? (i := 7) (by decide +kernel))
theorem kX1_init_8 {a : Array Value} {s : State} (hts : ∀ w ∈ wsX1_init, w.before a s = true) : (.fieldLink RX1 19 "SnowMules$Law" "testStarts" "[I" : Cond).before a s = true := hts _ (List.mem_of_getElem? (i := 8) (by decide +kernel))
theorem kX1_init_9 {a : Array Value} {s : State} (hts : ∀ w ∈ wsX1_init, w.before a s = true) : (.fieldLink RX1 22 "SnowMules$Law" "testStops" "[I" : Cond).before a s = true := hts _ (List.mem_of_getElem? (i := 9) (by decide +kernel))
theorem kX1_init_10 {a : Array Value} {s : State} (hts : ∀ w ∈ wsX1_init, w.before a s = true) : (.fieldLink RX1 25 "SnowMules$Law" "joins" "[I" : Cond).before a s = true := hts _ (List.mem_of_getElem? (i := 10) (by decide +kernel))
theorem kX1_init_11 {a : Array Value} {s : State} (hts : ∀ w ∈ wsX1_init, w.before a s = true) : (.fieldLink RX1 28 "SnowMules$Law" "operands" "[I" : Cond).before a s = true := hts _ (List.mem_of_getElem? (i := 11) (by decide +kernel))
theorem kX1_init_12 {a : Array Value} {s : State} (hts : ∀ w ∈ wsX1_init, w.before a s = true) : (.fieldLink RX1 31 "SnowMules$Law" "factStarts" "[I" : Cond).before a s = true := hts _ (List.mem_of_getElem? (i := 12) (by decide +kernel))
theorem kX1_init_13 {a : Array Value} {s : State} (hts : ∀ w ∈ wsX1_init, w.before a s = true) : (.fieldLink RX1 34 "SnowMules$Law" "factMiddles" "[I" : Cond).before a s = true := hts _ (List.mem_of_getElem? (i := 13) (by decide +kernel))
theorem kX1_init_14 {a : Array Value} {s : State} (hts : ∀ w ∈ wsX1_init, w.before a s = true) : (.fieldLink RX1 37 "SnowMules$Law" "factStops" "[I" : Cond).before a s = true := hts _ (List.mem_of_getElem? (i := 14) (by decide +kernel))
theorem kX1_init_15 {a : Array Value} {s : State} (hts : ∀ w ∈ wsX1_init, w.before a s = true) : (.fieldLink RX1 40 "SnowMules$Law" "signs" "[I" : Cond).before a s = true := hts _ (List.mem_of_getElem? (i := 15) (by decide +kernel))
theorem kX1_init_16 {a : Array Value} {s : State} (hts : ∀ w ∈ wsX1_init, w.before a s = true) : (.fieldLink RX1 43 "SnowMules$Law" "tests" "[I" : Cond).before a s = true := hts _ (List.mem_of_getElem? (i := 16) (by decide +kernel))
theorem kX2_init_1 {a : Array Value} {s : State} (hts : ∀ w ∈ wsX2_init, w.before a s = true) : (.methodLink RX2 7 objectInit : Cond).before a s = true := hts _ (List.mem_of_getElem? (i := 1) (by decide +kernel))
theorem kX2_init_2 {a : Array Value} {s : State} (hts : ∀ w ∈ wsX2_init, w.before a s = true) : (.instanceMethod objectInit : Cond).before a s = true := hts _ (List.mem_of_getElem? (i := 2) (by decide +kernel))
theorem kX2_init_3 {a : Array Value} {s : State} (hts : ∀ w ∈ wsX2_init, w.before a s = true) : (.code objectInit ⟨#[0xb1]⟩ 1 none : Cond).before a s = true := hts _ (List.mem_of_getElem? (i := 3) (by decide +kernel))
theorem kX2_init_4 {a : Array Value} {s : State} (hts : ∀ w ∈ wsX2_init, w.before a s = true) : (.arrayClass .int : Cond).before a s = true := hts _ (List.mem_of_getElem? (i := 4) (by decide +kernel))
theorem kX2_init_5 {a : Array Value} {s : State} (hts : ∀ w ∈ wsX2_init, w.before a s = true) : (.fieldLink RX2 13 "SnowMules$LawReader" "tokens" "[I" : Cond).before a s = true := hts _ (List.mem_of_getElem? (i := 5) (by decide +kernel))
theorem kX2_init_6 {a : Array Value} {s : State} (hts : ∀ w ∈ wsX2_init, w.before a s = true) : (.fieldLink RX2 17 "SnowMules$LawReader" "places" "[I" : Cond).before a s = true := hts _ (List.mem_of_getElem? (i := 6) (by decide +kernel))
theorem kX2_init_7 {a : Array Value} {s : State} (hts : ∀ w ∈ wsX2_init, w.before a s = true) : (.classLink RX2 20 RX1 : Cond).before a s = true := hts _ (List.mem_of_getElem? (i := 7) (by decide +kernel))
theorem kX2_init_8 {a : Array Value} {s : State} (hts : ∀ w ∈ wsX2_init, w.before a s = true) : (.instantiable RX1 17 : Cond).before a s = true := hts _ (List.mem_of_getElem? (i := 8) (by decide +kernel))
theorem kX2_init_9 {a : Array Value} {s : State} (hts : ∀ w ∈ wsX2_init, w.before a s = true) : (.initialized RX1 : Cond).before a s = true := hts _ (List.mem_of_getElem? (i := 9) (by decide +kernel))
theorem kX2_init_11 {a : Array Value} {s : State} (hts : ∀ w ∈ wsX2_init, w.before a s = true) : (.instanceMethod yX1_init : Cond).before a s = true := hts _ (List.mem_of_getElem? (i := 11) (by decide +kernel))
theorem kX2_init_10 {a : Array Value} {s : State} (hts : ∀ w ∈ wsX2_init, w.before a s = true) : (.fieldLink RX2 23 "SnowMules$LawReader" "law" "LSnowMules$Law;" : Cond).before a s = true := hts _ (List.mem_of_getElem? (i := 10) (by decide +kernel))
theorem kX0_init_1 {a : Array Value} {s : State} (hts : ∀ w ∈ wsX0_init, w.before a s = true) : (.methodLink RX0 3 objectInit : Cond).before a s = true := hts _ (List.mem_of_getElem? (i := 1) (by decide +kernel))
theorem kX0_init_2 {a : Array Value} {s : State} (hts : ∀ w ∈ wsX0_init, w.before a s = true) : (.instanceMethod objectInit : Cond).before a s = true := hts _ (List.mem_of_getElem? (i := 2) (by decide +kernel))
theorem kX0_init_3 {a : Array Value} {s : State} (hts : ∀ w ∈ wsX0_init, w.before a s = true) : (.code objectInit ⟨#[0xb1]⟩ 1 none : Cond).before a s = true := hts _ (List.mem_of_getElem? (i := 3) (by decide +kernel))
theorem kX0_init_4 {a : Array Value} {s : State} (hts : ∀ w ∈ wsX0_init, w.before a s = true) : (.classLink RX0 9 RX4 : Cond).before a s = true := hts _ (List.mem_of_getElem? (i := 4) (by decide +kernel))
theorem kX0_init_5 {a : Array Value} {s : State} (hts : ∀ w ∈ wsX0_init, w.before a s = true) : (.instantiable RX4 4 : Cond).before a s = true := hts _ (List.mem_of_getElem? (i := 5) (by decide +kernel))
theorem kX0_init_6 {a : Array Value} {s : State} (hts : ∀ w ∈ wsX0_init, w.before a s = true) : (.initialized RX4 : Cond).before a s = true := hts _ (List.mem_of_getElem? (i := 6) (by decide +kernel))
theorem kX0_init_8 {a : Array Value} {s : State} (hts : ∀ w ∈ wsX0_init, w.before a s = true) : (.instanceMethod yX4_init : Cond).before a s = true := hts _ (List.mem_of_getElem? (i := 8) (by decide +kernel))
theorem kX0_init_7 {a : Array Value} {s : State} (hts : ∀ w ∈ wsX0_init, w.before a s = true) : (.fieldLink RX0 12 "SnowMules$Hours" "scene" "LSnowMules$Scene;" : Cond).before a s = true := hts _ (List.mem_of_getElem? (i := 7) (by decide +kernel))
theorem kX7_init_1 {a : Array Value} {s : State} (hts : ∀ w ∈ wsX7_init, w.before a s = true) : (.methodLink RX7 3 objectInit : Cond).before a s = true := hts _ (List.mem_of_getElem? (i := 1) (by decide +kernel))
theorem kX7_init_2 {a : Array Value} {s : State} (hts : ∀ w ∈ wsX7_init, w.before a s = true) : (.instanceMethod objectInit : Cond).before a s = true := hts _ (List.mem_of_getElem? (i := 2) (by decide +kernel))
theorem kX7_init_3 {a : Array Value} {s : State} (hts : ∀ w ∈ wsX7_init, w.before a s = true) : (.code objectInit ⟨#[0xb1]⟩ 1 none : Cond).before a s = true := hts _ (List.mem_of_getElem? (i := 3) (by decide +kernel))
theorem kX7_init_4 {a : Array Value} {s : State} (hts : ∀ w ∈ wsX7_init, w.before a s = true) : (.classLink RX7 9 RX1 : Cond).before a s = true := hts _ (List.mem_of_getElem? (i := 4) (by decide +kernel))
theorem kX7_init_5 {a : Array Value} {s : State} (hts : ∀ w ∈ wsX7_init, w.before a s = true) : (.instantiable RX1 17 : Cond).before a s = true := hts _ (List.mem_of_getElem? (i := 5) (by decide +kernel))
theorem kX7_init_6 {a : Array Value} {s : State} (hts : ∀ w ∈ wsX7_init, w.before a s = true) : (.initialized RX1 : Cond).before a s = true := hts _ (List.mem_of_getElem? (i := 6) (by decide +kernel))
theorem kX7_init_13 {a : Array Value} {s : State} (hts : ∀ w ∈ wsX7_init, w.before a s = true) : (.instanceMethod yX1_init : Cond).before a s = true := hts _ (List.mem_of_getElem? (i := 13) (by decide +kernel))
theorem kX7_init_7 {a : Array Value} {s : State} (hts : ∀ w ∈ wsX7_init, w.before a s = true) : (.fieldLink RX7 12 "SnowMules$Trip" "law" "LSnowMules$Law;" : Cond).before a s = true := hts _ (List.mem_of_getElem? (i := 7) (by decide +kernel))
theorem kX7_init_8 {a : Array Value} {s : State} (hts : ∀ w ∈ wsX7_init, w.before a s = true) : (.classLink RX7 18 RX4 : Cond).before a s = true := hts _ (List.mem_of_getElem? (i := 8) (by decide +kernel))
theorem kX7_init_9 {a : Array Value} {s : State} (hts : ∀ w ∈ wsX7_init, w.before a s = true) : (.instantiable RX4 4 : Cond).before a s = true := hts _ (List.mem_of_getElem? (i := 9) (by decide +kernel))
theorem kX7_init_10 {a : Array Value} {s : State} (hts : ∀ w ∈ wsX7_init, w.before a s = true) : (.initialized RX4 : Cond).before a s = true := hts _ (List.mem_of_getElem? (i := 10) (by decide +kernel))
theorem kX7_init_29 {a : Array Value} {s : State} (hts : ∀ w ∈ wsX7_init, w.before a s = true) : (.instanceMethod yX4_init : Cond).before a s = true := hts _ (List.mem_of_getElem? (i := 29) (by decide +kernel))
theorem kX7_init_11 {a : Array Value} {s : State} (hts : ∀ w ∈ wsX7_init, w.before a s = true) : (.fieldLink RX7 21 "SnowMules$Trip" "scene" "LSnowMules$Scene;" : Cond).before a s = true := hts _ (List.mem_of_getElem? (i := 11) (by decide +kernel))
theorem kX7_init_12 {a : Array Value} {s : State} (hts : ∀ w ∈ wsX7_init, w.before a s = true) : (.fieldLink RX7 25 "SnowMules$Trip" "world" "LSnowMules$World;" : Cond).before a s = true := hts _ (List.mem_of_getElem? (i := 12) (by decide +kernel))
theorem kX5_init_1 {a : Array Value} {s : State} (hts : ∀ w ∈ wsX5_init, w.before a s = true) : (.methodLink RX5 3 objectInit : Cond).before a s = true := hts _ (List.mem_of_getElem? (i := 1) (by decide +kernel))
theorem kX5_init_2 {a : Array Value} {s : State} (hts : ∀ w ∈ wsX5_init, w.before a s = true) : (.instanceMethod objectInit : Cond).before a s = true := hts _ (List.mem_of_getElem? (i := 2) (by decide +kernel))
theorem kX5_init_3 {a : Array Value} {s : State} (hts : ∀ w ∈ wsX5_init, w.before a s = true) : (.code objectInit ⟨#[0xb1]⟩ 1 none : Cond).before a s = true := hts _ (List.mem_of_getElem? (i := 3) (by decide +kernel))
theorem kX5_init_4 {a : Array Value} {s : State} (hts : ∀ w ∈ wsX5_init, w.before a s = true) : (.arrayClass .int : Cond).before a s = true := hts _ (List.mem_of_getElem? (i := 4) (by decide +kernel))
theorem kX5_init_5 {a : Array Value} {s : State} (hts : ∀ w ∈ wsX5_init, w.before a s = true) : (.fieldLink RX5 9 "SnowMules$Search" "far" "[I" : Cond).before a s = true := hts _ (List.mem_of_getElem? (i := 5) (by decide +kernel))
theorem kX5_init_6 {a : Array Value} {s : State} (hts : ∀ w ∈ wsX5_init, w.before a s = true) : (.fieldLink RX5 15 "SnowMules$Search" "row" "[I" : Cond).before a s = true := hts _ (List.mem_of_getElem? (i := 6) (by decide +kernel))
theorem kX5_init_7 {a : Array Value} {s : State} (hts : ∀ w ∈ wsX5_init, w.before a s = true) : (.fieldLink RX5 18 "SnowMules$Search" "bestRow" "[I" : Cond).before a s = true := hts _ (List.mem_of_getElem? (i := 7) (by decide +kernel))
theorem kX5_init_8 {a : Array Value} {s : State} (hts : ∀ w ∈ wsX5_init, w.before a s = true) : (.fieldLink RX5 21 "SnowMules$Search" "world" "LSnowMules$World;" : Cond).before a s = true := hts _ (List.mem_of_getElem? (i := 8) (by decide +kernel))
theorem kX5_init_9 {a : Array Value} {s : State} (hts : ∀ w ∈ wsX5_init, w.before a s = true) : (.fieldLink RX5 25 "SnowMules$Search" "trip" "LSnowMules$Trip;" : Cond).before a s = true := hts _ (List.mem_of_getElem? (i := 9) (by decide +kernel))
theorem kX8_init_1 {a : Array Value} {s : State} (hts : ∀ w ∈ wsX8_init, w.before a s = true) : (.methodLink RX8 3 objectInit : Cond).before a s = true := hts _ (List.mem_of_getElem? (i := 1) (by decide +kernel))
theorem kX8_init_2 {a : Array Value} {s : State} (hts : ∀ w ∈ wsX8_init, w.before a s = true) : (.instanceMethod objectInit : Cond).before a s = true := hts _ (List.mem_of_getElem? (i := 2) (by decide +kernel))
theorem kX8_init_3 {a : Array Value} {s : State} (hts : ∀ w ∈ wsX8_init, w.before a s = true) : (.code objectInit ⟨#[0xb1]⟩ 1 none : Cond).before a s = true := hts _ (List.mem_of_getElem? (i := 3) (by decide +kernel))
theorem kX8_init_4 {a : Array Value} {s : State} (hts : ∀ w ∈ wsX8_init, w.before a s = true) : (.arrayClass .int : Cond).before a s = true := hts _ (List.mem_of_getElem? (i := 4) (by decide +kernel))
theorem kX8_init_5 {a : Array Value} {s : State} (hts : ∀ w ∈ wsX8_init, w.before a s = true) : (.fieldLink RX8 9 "SnowMules$Waits" "waited" "[I" : Cond).before a s = true := hts _ (List.mem_of_getElem? (i := 5) (by decide +kernel))
theorem kX8_init_6 {a : Array Value} {s : State} (hts : ∀ w ∈ wsX8_init, w.before a s = true) : (.fieldLink RX8 15 "SnowMules$Waits" "fewest" "[I" : Cond).before a s = true := hts _ (List.mem_of_getElem? (i := 6) (by decide +kernel))
theorem kX8_init_7 {a : Array Value} {s : State} (hts : ∀ w ∈ wsX8_init, w.before a s = true) : (.fieldLink RX8 18 "SnowMules$Waits" "most" "[I" : Cond).before a s = true := hts _ (List.mem_of_getElem? (i := 7) (by decide +kernel))
theorem kX8_init_8 {a : Array Value} {s : State} (hts : ∀ w ∈ wsX8_init, w.before a s = true) : (.fieldLink RX8 21 "SnowMules$Waits" "world" "LSnowMules$World;" : Cond).before a s = true := hts _ (List.mem_of_getElem? (i := 8) (by decide +kernel))
theorem kX8_init_9 {a : Array Value} {s : State} (hts : ∀ w ∈ wsX8_init, w.before a s = true) : (.fieldLink RX8 25 "SnowMules$Waits" "trip" "LSnowMules$Trip;" : Cond).before a s = true := hts _ (List.mem_of_getElem? (i := 9) (by decide +kernel))
theorem kX3_init_1 {a : Array Value} {s : State} (hts : ∀ w ∈ wsX3_init, w.before a s = true) : (.methodLink RX3 3 objectInit : Cond).before a s = true := hts _ (List.mem_of_getElem? (i := 1) (by decide +kernel))
theorem kX3_init_2 {a : Array Value} {s : State} (hts : ∀ w ∈ wsX3_init, w.before a s = true) : (.instanceMethod objectInit : Cond).before a s = true := hts _ (List.mem_of_getElem? (i := 2) (by decide +kernel))
theorem kX3_init_3 {a : Array Value} {s : State} (hts : ∀ w ∈ wsX3_init, w.before a s = true) : (.code objectInit ⟨#[0xb1]⟩ 1 none : Cond).before a s = true := hts _ (List.mem_of_getElem? (i := 3) (by decide +kernel))
theorem kX3_init_4 {a : Array Value} {s : State} (hts : ∀ w ∈ wsX3_init, w.before a s = true) : (.arrayClass .int : Cond).before a s = true := hts _ (List.mem_of_getElem? (i := 4) (by decide +kernel))
theorem kX3_init_5 {a : Array Value} {s : State} (hts : ∀ w ∈ wsX3_init, w.before a s = true) : (.fieldLink RX3 9 "SnowMules$Market" "offers" "[I" : Cond).before a s = true := hts _ (List.mem_of_getElem? (i := 5) (by decide +kernel))
theorem kX3_init_6 {a : Array Value} {s : State} (hts : ∀ w ∈ wsX3_init, w.before a s = true) : (.fieldLink RX3 15 "SnowMules$Market" "chosen" "[I" : Cond).before a s = true := hts _ (List.mem_of_getElem? (i := 6) (by decide +kernel))
theorem kX3_init_7 {a : Array Value} {s : State} (hts : ∀ w ∈ wsX3_init, w.before a s = true) : (.fieldLink RX3 18 "SnowMules$Market" "world" "LSnowMules$World;" : Cond).before a s = true := hts _ (List.mem_of_getElem? (i := 7) (by decide +kernel))
theorem kX10_init_1 {a : Array Value} {s : State} (hts : ∀ w ∈ wsX10_init, w.before a s = true) : (.methodLink RX10 1 objectInit : Cond).before a s = true := hts _ (List.mem_of_getElem? (i := 1) (by decide +kernel))
theorem kX10_init_2 {a : Array Value} {s : State} (hts : ∀ w ∈ wsX10_init, w.before a s = true) : (.instanceMethod objectInit : Cond).before a s = true := hts _ (List.mem_of_getElem? (i := 2) (by decide +kernel))
theorem kX10_init_3 {a : Array Value} {s : State} (hts : ∀ w ∈ wsX10_init, w.before a s = true) : (.code objectInit ⟨#[0xb1]⟩ 1 none : Cond).before a s = true := hts _ (List.mem_of_getElem? (i := 3) (by decide +kernel))
theorem kX10_init_4 {a : Array Value} {s : State} (hts : ∀ w ∈ wsX10_init, w.before a s = true) : (.classLink RX10 7 RX9 : Cond).before a s = true := hts _ (List.mem_of_getElem? (i := 4) (by decide +kernel))
theorem kX10_init_5 {a : Array Value} {s : State} (hts : ∀ w ∈ wsX10_init, w.before a s = true) : (.instantiable RX9 10 : Cond).before a s = true := hts _ (List.mem_of_getElem? (i := 5) (by decide +kernel))
theorem kX10_init_6 {a : Array Value} {s : State} (hts : ∀ w ∈ wsX10_init, w.before a s = true) : (.initialized RX9 : Cond).before a s = true := hts _ (List.mem_of_getElem? (i := 6) (by decide +kernel))
theorem kX10_init_38 {a : Array Value} {s : State} (hts : ∀ w ∈ wsX10_init, w.before a s = true) : (.instanceMethod yX9_init : Cond).before a s = true := hts _ (List.mem_of_getElem? (i := 38) (by decide +kernel))
theorem kX10_init_7 {a : Array Value} {s : State} (hts : ∀ w ∈ wsX10_init, w.before a s = true) : (.fieldLink RX10 10 "SnowMules" "world" "LSnowMules$World;" : Cond).before a s = true := hts _ (List.mem_of_getElem? (i := 7) (by decide +kernel))
theorem kX10_init_8 {a : Array Value} {s : State} (hts : ∀ w ∈ wsX10_init, w.before a s = true) : (.fieldLink RX10 16 "SnowMules" "later" "LSnowMules$World;" : Cond).before a s = true := hts _ (List.mem_of_getElem? (i := 8) (by decide +kernel))
theorem kX10_init_9 {a : Array Value} {s : State} (hts : ∀ w ∈ wsX10_init, w.before a s = true) : (.fieldLink RX10 19 "SnowMules" "images" "[LSnowMules$World;" : Cond).before a s = true := hts _ (List.mem_of_getElem? (i := 9) (by decide +kernel))
theorem kX10_init_10 {a : Array Value} {s : State} (hts : ∀ w ∈ wsX10_init, w.before a s = true) : (.arrayClass .int : Cond).before a s = true := hts _ (List.mem_of_getElem? (i := 10) (by decide +kernel))
theorem kX10_init_11 {a : Array Value} {s : State} (hts : ∀ w ∈ wsX10_init, w.before a s = true) : (.fieldLink RX10 23 "SnowMules" "tape" "[I" : Cond).before a s = true := hts _ (List.mem_of_getElem? (i := 11) (by decide +kernel))
theorem kX10_init_12 {a : Array Value} {s : State} (hts : ∀ w ∈ wsX10_init, w.before a s = true) : (.classLink RX10 27 RX1 : Cond).before a s = true := hts _ (List.mem_of_getElem? (i := 12) (by decide +kernel))
theorem kX10_init_13 {a : Array Value} {s : State} (hts : ∀ w ∈ wsX10_init, w.before a s = true) : (.fieldLink RX10 29 "SnowMules" "laws" "[LSnowMules$Law;" : Cond).before a s = true := hts _ (List.mem_of_getElem? (i := 13) (by decide +kernel))
theorem kX10_init_14 {a : Array Value} {s : State} (hts : ∀ w ∈ wsX10_init, w.before a s = true) : (.classLink RX10 33 RX2 : Cond).before a s = true := hts _ (List.mem_of_getElem? (i := 14) (by decide +kernel))
theorem kX10_init_15 {a : Array Value} {s : State} (hts : ∀ w ∈ wsX10_init, w.before a s = true) : (.instantiable RX2 8 : Cond).before a s = true := hts _ (List.mem_of_getElem? (i := 15) (by decide +kernel))
theorem kX10_init_16 {a : Array Value} {s : State} (hts : ∀ w ∈ wsX10_init, w.before a s = true) : (.initialized RX2 : Cond).before a s = true := hts _ (List.mem_of_getElem? (i := 16) (by decide +kernel))
theorem kX10_init_61 {a : Array Value} {s : State} (hts : ∀ w ∈ wsX10_init, w.before a s = true) : (.instanceMethod yX2_init : Cond).before a s = true := hts _ (List.mem_of_getElem? (i := 61) (by decide +kernel))
theorem kX10_init_17 {a : Array Value} {s : State} (hts : ∀ w ∈ wsX10_init, w.before a s = true) : (.fieldLink RX10 36 "SnowMules" "reader" "LSnowMules$LawReader;" : Cond).before a s = true := hts _ (List.mem_of_getElem? (i := 17) (by decide +kernel))
theorem kX10_init_18 {a : Array Value} {s : State} (hts : ∀ w ∈ wsX10_init, w.before a s = true) : (.classLink RX10 40 RX0 : Cond).before a s = true := hts _ (List.mem_of_getElem? (i := 18) (by decide +kernel))
theorem kX10_init_19 {a : Array Value} {s : State} (hts : ∀ w ∈ wsX10_init, w.before a s = true) : (.instantiable RX0 1 : Cond).before a s = true := hts _ (List.mem_of_getElem? (i := 19) (by decide +kernel))
theorem kX10_init_20 {a : Array Value} {s : State} (hts : ∀ w ∈ wsX10_init, w.before a s = true) : (.initialized RX0 : Cond).before a s = true := hts _ (List.mem_of_getElem? (i := 20) (by decide +kernel))
theorem kX10_init_85 {a : Array Value} {s : State} (hts : ∀ w ∈ wsX10_init, w.before a s = true) : (.instanceMethod yX0_init : Cond).before a s = true := hts _ (List.mem_of_getElem? (i := 85) (by decide +kernel))
theorem kX10_init_21 {a : Array Value} {s : State} (hts : ∀ w ∈ wsX10_init, w.before a s = true) : (.fieldLink RX10 43 "SnowMules" "hours" "LSnowMules$Hours;" : Cond).before a s = true := hts _ (List.mem_of_getElem? (i := 21) (by decide +kernel))
theorem kX10_init_22 {a : Array Value} {s : State} (hts : ∀ w ∈ wsX10_init, w.before a s = true) : (.classLink RX10 47 RX7 : Cond).before a s = true := hts _ (List.mem_of_getElem? (i := 22) (by decide +kernel))
theorem kX10_init_23 {a : Array Value} {s : State} (hts : ∀ w ∈ wsX10_init, w.before a s = true) : (.instantiable RX7 9 : Cond).before a s = true := hts _ (List.mem_of_getElem? (i := 23) (by decide +kernel))
theorem kX10_init_24 {a : Array Value} {s : State} (hts : ∀ w ∈ wsX10_init, w.before a s = true) : (.initialized RX7 : Cond).before a s = true := hts _ (List.mem_of_getElem? (i := 24) (by decide +kernel))
theorem kX10_init_96 {a : Array Value} {s : State} (hts : ∀ w ∈ wsX10_init, w.before a s = true) : (.methodLink RX10 49 yX7_init : Cond).before a s = true := hts _ (List.mem_of_getElem? (i := 96) (by decide +kernel))
theorem kX10_init_97 {a : Array Value} {s : State} (hts : ∀ w ∈ wsX10_init, w.before a s = true) : (.instanceMethod yX7_init : Cond).before a s = true := hts _ (List.mem_of_getElem? (i := 97) (by decide +kernel))
theorem kX10_init_25 {a : Array Value} {s : State} (hts : ∀ w ∈ wsX10_init, w.before a s = true) : (.fieldLink RX10 52 "SnowMules" "trip" "LSnowMules$Trip;" : Cond).before a s = true := hts _ (List.mem_of_getElem? (i := 25) (by decide +kernel))
theorem kX10_init_26 {a : Array Value} {s : State} (hts : ∀ w ∈ wsX10_init, w.before a s = true) : (.classLink RX10 56 RX5 : Cond).before a s = true := hts _ (List.mem_of_getElem? (i := 26) (by decide +kernel))
theorem kX10_init_27 {a : Array Value} {s : State} (hts : ∀ w ∈ wsX10_init, w.before a s = true) : (.instantiable RX5 13 : Cond).before a s = true := hts _ (List.mem_of_getElem? (i := 27) (by decide +kernel))
theorem kX10_init_28 {a : Array Value} {s : State} (hts : ∀ w ∈ wsX10_init, w.before a s = true) : (.initialized RX5 : Cond).before a s = true := hts _ (List.mem_of_getElem? (i := 28) (by decide +kernel))
theorem kX10_init_105 {a : Array Value} {s : State} (hts : ∀ w ∈ wsX10_init, w.before a s = true) : (.methodLink RX10 58 yX5_init : Cond).before a s = true := hts _ (List.mem_of_getElem? (i := 105) (by decide +kernel))
theorem kX10_init_106 {a : Array Value} {s : State} (hts : ∀ w ∈ wsX10_init, w.before a s = true) : (.instanceMethod yX5_init : Cond).before a s = true := hts _ (List.mem_of_getElem? (i := 106) (by decide +kernel))
theorem kX10_init_29 {a : Array Value} {s : State} (hts : ∀ w ∈ wsX10_init, w.before a s = true) : (.fieldLink RX10 61 "SnowMules" "search" "LSnowMules$Search;" : Cond).before a s = true := hts _ (List.mem_of_getElem? (i := 29) (by decide +kernel))
theorem kX10_init_30 {a : Array Value} {s : State} (hts : ∀ w ∈ wsX10_init, w.before a s = true) : (.classLink RX10 65 RX8 : Cond).before a s = true := hts _ (List.mem_of_getElem? (i := 30) (by decide +kernel))
theorem kX10_init_31 {a : Array Value} {s : State} (hts : ∀ w ∈ wsX10_init, w.before a s = true) : (.instantiable RX8 7 : Cond).before a s = true := hts _ (List.mem_of_getElem? (i := 31) (by decide +kernel))
theorem kX10_init_32 {a : Array Value} {s : State} (hts : ∀ w ∈ wsX10_init, w.before a s = true) : (.initialized RX8 : Cond).before a s = true := hts _ (List.mem_of_getElem? (i := 32) (by decide +kernel))
theorem kX10_init_114 {a : Array Value} {s : State} (hts : ∀ w ∈ wsX10_init, w.before a s = true) : (.methodLink RX10 67 yX8_init : Cond).before a s = true := hts _ (List.mem_of_getElem? (i := 114) (by decide +kernel))
theorem kX10_init_115 {a : Array Value} {s : State} (hts : ∀ w ∈ wsX10_init, w.before a s = true) : (.instanceMethod yX8_init : Cond).before a s = true := hts _ (List.mem_of_getElem? (i := 115) (by decide +kernel))
theorem kX10_init_33 {a : Array Value} {s : State} (hts : ∀ w ∈ wsX10_init, w.before a s = true) : (.fieldLink RX10 68 "SnowMules" "waits" "LSnowMules$Waits;" : Cond).before a s = true := hts _ (List.mem_of_getElem? (i := 33) (by decide +kernel))
theorem kX10_init_34 {a : Array Value} {s : State} (hts : ∀ w ∈ wsX10_init, w.before a s = true) : (.classLink RX10 72 RX3 : Cond).before a s = true := hts _ (List.mem_of_getElem? (i := 34) (by decide +kernel))
theorem kX10_init_35 {a : Array Value} {s : State} (hts : ∀ w ∈ wsX10_init, w.before a s = true) : (.instantiable RX3 4 : Cond).before a s = true := hts _ (List.mem_of_getElem? (i := 35) (by decide +kernel))
theorem kX10_init_36 {a : Array Value} {s : State} (hts : ∀ w ∈ wsX10_init, w.before a s = true) : (.initialized RX3 : Cond).before a s = true := hts _ (List.mem_of_getElem? (i := 36) (by decide +kernel))
theorem kX10_init_123 {a : Array Value} {s : State} (hts : ∀ w ∈ wsX10_init, w.before a s = true) : (.methodLink RX10 74 yX3_init : Cond).before a s = true := hts _ (List.mem_of_getElem? (i := 123) (by decide +kernel))
theorem kX10_init_124 {a : Array Value} {s : State} (hts : ∀ w ∈ wsX10_init, w.before a s = true) : (.instanceMethod yX3_init : Cond).before a s = true := hts _ (List.mem_of_getElem? (i := 124) (by decide +kernel))
theorem kX10_init_37 {a : Array Value} {s : State} (hts : ∀ w ∈ wsX10_init, w.before a s = true) : (.fieldLink RX10 75 "SnowMules" "market" "LSnowMules$Market;" : Cond).before a s = true := hts _ (List.mem_of_getElem? (i := 37) (by decide +kernel))
theorem kX11_init_1 {a : Array Value} {s : State} (hts : ∀ w ∈ wsX11_init, w.before a s = true) : (.methodLink RX11 1 objectInit : Cond).before a s = true := hts _ (List.mem_of_getElem? (i := 1) (by decide +kernel))
theorem kX11_init_2 {a : Array Value} {s : State} (hts : ∀ w ∈ wsX11_init, w.before a s = true) : (.instanceMethod objectInit : Cond).before a s = true := hts _ (List.mem_of_getElem? (i := 2) (by decide +kernel))
theorem kX11_init_3 {a : Array Value} {s : State} (hts : ∀ w ∈ wsX11_init, w.before a s = true) : (.code objectInit ⟨#[0xb1]⟩ 1 none : Cond).before a s = true := hts _ (List.mem_of_getElem? (i := 3) (by decide +kernel))
theorem kX11_init_4 {a : Array Value} {s : State} (hts : ∀ w ∈ wsX11_init, w.before a s = true) : (.arrayClass .byte : Cond).before a s = true := hts _ (List.mem_of_getElem? (i := 4) (by decide +kernel))
theorem kX11_init_5 {a : Array Value} {s : State} (hts : ∀ w ∈ wsX11_init, w.before a s = true) : (.fieldLink RX11 7 "SnowMulesModel" "tape" "[B" : Cond).before a s = true := hts _ (List.mem_of_getElem? (i := 5) (by decide +kernel))
theorem kX11_init_6 {a : Array Value} {s : State} (hts : ∀ w ∈ wsX11_init, w.before a s = true) : (.arrayClass .int : Cond).before a s = true := hts _ (List.mem_of_getElem? (i := 6) (by decide +kernel))
theorem kX11_init_7 {a : Array Value} {s : State} (hts : ∀ w ∈ wsX11_init, w.before a s = true) : (.fieldLink RX11 13 "SnowMulesModel" "sign" "[I" : Cond).before a s = true := hts _ (List.mem_of_getElem? (i := 7) (by decide +kernel))
theorem kX11_init_8 {a : Array Value} {s : State} (hts : ∀ w ∈ wsX11_init, w.before a s = true) : (.fieldLink RX11 17 "SnowMulesModel" "length" "[I" : Cond).before a s = true := hts _ (List.mem_of_getElem? (i := 8) (by decide +kernel))
theorem kX11_init_9 {a : Array Value} {s : State} (hts : ∀ w ∈ wsX11_init, w.before a s = true) : (.fieldLink RX11 20 "SnowMulesModel" "clause" "[I" : Cond).before a s = true := hts _ (List.mem_of_getElem? (i := 9) (by decide +kernel))
theorem kX11_init_10 {a : Array Value} {s : State} (hts : ∀ w ∈ wsX11_init, w.before a s = true) : (.fieldLink RX11 23 "SnowMulesModel" "clauses" "[I" : Cond).before a s = true := hts _ (List.mem_of_getElem? (i := 10) (by decide +kernel))
theorem kX11_init_11 {a : Array Value} {s : State} (hts : ∀ w ∈ wsX11_init, w.before a s = true) : (.fieldLink RX11 26 "SnowMulesModel" "chain" "[I" : Cond).before a s = true := hts _ (List.mem_of_getElem? (i := 11) (by decide +kernel))
theorem kX11_init_12 {a : Array Value} {s : State} (hts : ∀ w ∈ wsX11_init, w.before a s = true) : (.fieldLink RX11 29 "SnowMulesModel" "open" "[I" : Cond).before a s = true := hts _ (List.mem_of_getElem? (i := 12) (by decide +kernel))
theorem kX11_init_13 {a : Array Value} {s : State} (hts : ∀ w ∈ wsX11_init, w.before a s = true) : (.arrayClass .long : Cond).before a s = true := hts _ (List.mem_of_getElem? (i := 13) (by decide +kernel))
theorem kX11_init_14 {a : Array Value} {s : State} (hts : ∀ w ∈ wsX11_init, w.before a s = true) : (.fieldLink RX11 32 "SnowMulesModel" "stack" "[J" : Cond).before a s = true := hts _ (List.mem_of_getElem? (i := 14) (by decide +kernel))
theorem kX11_init_15 {a : Array Value} {s : State} (hts : ∀ w ∈ wsX11_init, w.before a s = true) : (.fieldLink RX11 36 "SnowMulesModel" "word" "[J" : Cond).before a s = true := hts _ (List.mem_of_getElem? (i := 15) (by decide +kernel))
theorem kX11_init_16 {a : Array Value} {s : State} (hts : ∀ w ∈ wsX11_init, w.before a s = true) : (.fieldLink RX11 39 "SnowMulesModel" "said" "[I" : Cond).before a s = true := hts _ (List.mem_of_getElem? (i := 16) (by decide +kernel))
theorem kX11_init_17 {a : Array Value} {s : State} (hts : ∀ w ∈ wsX11_init, w.before a s = true) : (.fieldLink RX11 42 "SnowMulesModel" "kept" "[I" : Cond).before a s = true := hts _ (List.mem_of_getElem? (i := 17) (by decide +kernel))
theorem kX11_init_18 {a : Array Value} {s : State} (hts : ∀ w ∈ wsX11_init, w.before a s = true) : (.fieldLink RX11 45 "SnowMulesModel" "stepNode" "[I" : Cond).before a s = true := hts _ (List.mem_of_getElem? (i := 18) (by decide +kernel))
theorem kX11_init_19 {a : Array Value} {s : State} (hts : ∀ w ∈ wsX11_init, w.before a s = true) : (.fieldLink RX11 48 "SnowMulesModel" "stepDrops" "[I" : Cond).before a s = true := hts _ (List.mem_of_getElem? (i := 19) (by decide +kernel))
theorem kX11_init_20 {a : Array Value} {s : State} (hts : ∀ w ∈ wsX11_init, w.before a s = true) : (.fieldLink RX11 51 "SnowMulesModel" "stepHour" "[I" : Cond).before a s = true := hts _ (List.mem_of_getElem? (i := 20) (by decide +kernel))
theorem kX11_init_21 {a : Array Value} {s : State} (hts : ∀ w ∈ wsX11_init, w.before a s = true) : (.fieldLink RX11 54 "SnowMulesModel" "stepNext" "[I" : Cond).before a s = true := hts _ (List.mem_of_getElem? (i := 21) (by decide +kernel))
theorem kX11_init_22 {a : Array Value} {s : State} (hts : ∀ w ∈ wsX11_init, w.before a s = true) : (.fieldLink RX11 57 "SnowMulesModel" "stepPass" "[I" : Cond).before a s = true := hts _ (List.mem_of_getElem? (i := 22) (by decide +kernel))
theorem kX11_init_23 {a : Array Value} {s : State} (hts : ∀ w ∈ wsX11_init, w.before a s = true) : (.fieldLink RX11 60 "SnowMulesModel" "bestPass" "[I" : Cond).before a s = true := hts _ (List.mem_of_getElem? (i := 23) (by decide +kernel))
theorem kX11_init_24 {a : Array Value} {s : State} (hts : ∀ w ∈ wsX11_init, w.before a s = true) : (.fieldLink RX11 63 "SnowMulesModel" "far" "[I" : Cond).before a s = true := hts _ (List.mem_of_getElem? (i := 24) (by decide +kernel))
theorem kX11_init_25 {a : Array Value} {s : State} (hts : ∀ w ∈ wsX11_init, w.before a s = true) : (.fieldLink RX11 66 "SnowMulesModel" "waited" "[I" : Cond).before a s = true := hts _ (List.mem_of_getElem? (i := 25) (by decide +kernel))
theorem kX11_init_26 {a : Array Value} {s : State} (hts : ∀ w ∈ wsX11_init, w.before a s = true) : (.fieldLink RX11 69 "SnowMulesModel" "servers" "[I" : Cond).before a s = true := hts _ (List.mem_of_getElem? (i := 26) (by decide +kernel))
theorem kX11_init_27 {a : Array Value} {s : State} (hts : ∀ w ∈ wsX11_init, w.before a s = true) : (.fieldLink RX11 72 "SnowMulesModel" "images" "[I" : Cond).before a s = true := hts _ (List.mem_of_getElem? (i := 27) (by decide +kernel))
theorem kX11_init_28 {a : Array Value} {s : State} (hts : ∀ w ∈ wsX11_init, w.before a s = true) : (.arrayClass .boolean : Cond).before a s = true := hts _ (List.mem_of_getElem? (i := 28) (by decide +kernel))
theorem kX11_init_29 {a : Array Value} {s : State} (hts : ∀ w ∈ wsX11_init, w.before a s = true) : (.fieldLink RX11 75 "SnowMulesModel" "isMade" "[Z" : Cond).before a s = true := hts _ (List.mem_of_getElem? (i := 29) (by decide +kernel))
theorem iX6_init_X6 : ∀ w ∈ wsX60, w ∈ wsX6_init := by decide +kernel
theorem iX9_init_X6 : ∀ w ∈ wsX60, w ∈ wsX9_init := by decide +kernel
theorem iX9_init_X9 : ∀ w ∈ wsX90, w ∈ wsX9_init := by decide +kernel
theorem iX4_init_X4 : ∀ w ∈ wsX40, w ∈ wsX4_init := by decide +kernel
theorem iX1_init_X1 : ∀ w ∈ wsX10, w ∈ wsX1_init := by decide +kernel
theorem iX2_init_X2 : ∀ w ∈ wsX20, w ∈ wsX2_init := by decide +kernel
theorem iX2_init_X1 : ∀ w ∈ wsX10, w ∈ wsX2_init := by decide +kernel
theorem iX0_init_X4 : ∀ w ∈ wsX40, w ∈ wsX0_init := by decide +kernel
theorem iX0_init_X0 : ∀ w ∈ wsX00, w ∈ wsX0_init := by decide +kernel
theorem iX7_init_X1 : ∀ w ∈ wsX10, w ∈ wsX7_init := by decide +kernel
theorem iX7_init_X7 : ∀ w ∈ wsX70, w ∈ wsX7_init := by decide +kernel
theorem iX7_init_X4 : ∀ w ∈ wsX40, w ∈ wsX7_init := by decide +kernel
theorem iX5_init_X5 : ∀ w ∈ wsX50, w ∈ wsX5_init := by decide +kernel
theorem iX8_init_X8 : ∀ w ∈ wsX80, w ∈ wsX8_init := by decide +kernel
theorem iX3_init_X3 : ∀ w ∈ wsX30, w ∈ wsX3_init := by decide +kernel
theorem iX10_init_X9 : ∀ w ∈ wsX90, w ∈ wsX10_init := by decide +kernel
theorem iX10_init_X10 : ∀ w ∈ wsX100, w ∈ wsX10_init := by decide +kernel
theorem iX10_init_X2 : ∀ w ∈ wsX20, w ∈ wsX10_init := by decide +kernel
theorem iX10_init_X0 : ∀ w ∈ wsX00, w ∈ wsX10_init := by decide +kernel
theorem iX10_init_X7 : ∀ w ∈ wsX70, w ∈ wsX10_init := by decide +kernel
theorem iX10_init_X5 : ∀ w ∈ wsX50, w ∈ wsX10_init := by decide +kernel
theorem iX10_init_X8 : ∀ w ∈ wsX80, w ∈ wsX10_init := by decide +kernel
theorem iX10_init_X3 : ∀ w ∈ wsX30, w ∈ wsX10_init := by decide +kernel
theorem iX11_init_X11 : ∀ w ∈ wsX110, w ∈ wsX11_init := by decide +kernel
theorem dX6_init_0 : decode cX6_init 0 = .ok (.aload_n 0, 1) := by decide +kernel
theorem dX6_init_1 : decode cX6_init 1 = .ok (.invokespecial 3, 3) := by decide +kernel
theorem dX6_init_4 : decode cX6_init 4 = .ok (.aload_n 0, 1) := by decide +kernel
theorem dX6_init_5 : decode cX6_init 5 = .ok (.iload_n 2, 1) := by decide +kernel
theorem dX6_init_6 : decode cX6_init 6 = .ok (.putfield 9, 3) := by decide +kernel
theorem dX6_init_9 : decode cX6_init 9 = .ok (.aload_n 0, 1) := by decide +kernel
theorem dX6_init_10 : decode cX6_init 10 = .ok (.iconst 0, 1) := by decide +kernel
theorem dX6_init_11 : decode cX6_init 11 = .ok (.iload_n 1, 1) := by decide +kernel
theorem dX6_init_12 : decode cX6_init 12 = .ok (.iload_n 2, 1) := by decide +kernel
theorem dX6_init_13 : decode cX6_init 13 = .ok (.imul, 1) := by decide +kernel
theorem dX6_init_14 : decode cX6_init 14 = .ok (.invokestatic 15, 3) := by decide +kernel
theorem dX6_init_17 : decode cX6_init 17 = .ok (.newarray .int, 2) := by decide +kernel
theorem dX6_init_19 : decode cX6_init 19 = .ok (.putfield 21, 3) := by decide +kernel
theorem dX6_init_22 : decode cX6_init 22 = .ok (.return_, 1) := by decide +kernel
theorem dX9_init_0 : decode cX9_init 0 = .ok (.aload_n 0, 1) := by decide +kernel
theorem dX9_init_1 : decode cX9_init 1 = .ok (.invokespecial 3, 3) := by decide +kernel
theorem dX9_init_4 : decode cX9_init 4 = .ok (.aload_n 0, 1) := by decide +kernel
theorem dX9_init_5 : decode cX9_init 5 = .ok (.new 9, 3) := by decide +kernel
theorem dX9_init_8 : decode cX9_init 8 = .ok (.dup, 1) := by decide +kernel
theorem dX9_init_9 : decode cX9_init 9 = .ok (.bipush 12, 2) := by decide +kernel
theorem dX9_init_11 : decode cX9_init 11 = .ok (.iconst 4, 1) := by decide +kernel
theorem dX9_init_12 : decode cX9_init 12 = .ok (.invokespecial 11, 3) := by decide +kernel
theorem dX9_init_15 : decode cX9_init 15 = .ok (.putfield 14, 3) := by decide +kernel
theorem dX9_init_18 : decode cX9_init 18 = .ok (.aload_n 0, 1) := by decide +kernel
theorem dX9_init_19 : decode cX9_init 19 = .ok (.new 9, 3) := by decide +kernel
theorem dX9_init_22 : decode cX9_init 22 = .ok (.dup, 1) := by decide +kernel
theorem dX9_init_23 : decode cX9_init 23 = .ok (.bipush 20, 2) := by decide +kernel
theorem dX9_init_25 : decode cX9_init 25 = .ok (.iconst 5, 1) := by decide +kernel
theorem dX9_init_26 : decode cX9_init 26 = .ok (.invokespecial 11, 3) := by decide +kernel
theorem dX9_init_29 : decode cX9_init 29 = .ok (.putfield 20, 3) := by decide +kernel
theorem dX9_init_32 : decode cX9_init 32 = .ok (.aload_n 0, 1) := by decide +kernel
theorem dX9_init_33 : decode cX9_init 33 = .ok (.new 9, 3) := by decide +kernel
theorem dX9_init_36 : decode cX9_init 36 = .ok (.dup, 1) := by decide +kernel
theorem dX9_init_37 : decode cX9_init 37 = .ok (.bipush 16, 2) := by decide +kernel
theorem dX9_init_39 : decode cX9_init 39 = .ok (.bipush 9, 2) := by decide +kernel
theorem dX9_init_41 : decode cX9_init 41 = .ok (.invokespecial 11, 3) := by decide +kernel
theorem dX9_init_44 : decode cX9_init 44 = .ok (.putfield 23, 3) := by decide +kernel
theorem dX9_init_47 : decode cX9_init 47 = .ok (.aload_n 0, 1) := by decide +kernel
theorem dX9_init_48 : decode cX9_init 48 = .ok (.new 9, 3) := by decide +kernel
theorem dX9_init_51 : decode cX9_init 51 = .ok (.dup, 1) := by decide +kernel
theorem dX9_init_52 : decode cX9_init 52 = .ok (.bipush 6, 2) := by decide +kernel
theorem dX9_init_54 : decode cX9_init 54 = .ok (.iconst 4, 1) := by decide +kernel
theorem dX9_init_55 : decode cX9_init 55 = .ok (.invokespecial 11, 3) := by decide +kernel
theorem dX9_init_58 : decode cX9_init 58 = .ok (.putfield 26, 3) := by decide +kernel
theorem dX9_init_61 : decode cX9_init 61 = .ok (.aload_n 0, 1) := by decide +kernel
theorem dX9_init_62 : decode cX9_init 62 = .ok (.new 9, 3) := by decide +kernel
theorem dX9_init_65 : decode cX9_init 65 = .ok (.dup, 1) := by decide +kernel
theorem dX9_init_66 : decode cX9_init 66 = .ok (.bipush 8, 2) := by decide +kernel
theorem dX9_init_68 : decode cX9_init 68 = .ok (.iconst 3, 1) := by decide +kernel
theorem dX9_init_69 : decode cX9_init 69 = .ok (.invokespecial 11, 3) := by decide +kernel
theorem dX9_init_72 : decode cX9_init 72 = .ok (.putfield 29, 3) := by decide +kernel
theorem dX9_init_75 : decode cX9_init 75 = .ok (.aload_n 0, 1) := by decide +kernel
theorem dX9_init_76 : decode cX9_init 76 = .ok (.new 9, 3) := by decide +kernel
theorem dX9_init_79 : decode cX9_init 79 = .ok (.dup, 1) := by decide +kernel
theorem dX9_init_80 : decode cX9_init 80 = .ok (.bipush 6, 2) := by decide +kernel
theorem dX9_init_82 : decode cX9_init 82 = .ok (.iconst 1, 1) := by decide +kernel
theorem dX9_init_83 : decode cX9_init 83 = .ok (.invokespecial 11, 3) := by decide +kernel
theorem dX9_init_86 : decode cX9_init 86 = .ok (.putfield 32, 3) := by decide +kernel
theorem dX9_init_89 : decode cX9_init 89 = .ok (.aload_n 0, 1) := by decide +kernel
theorem dX9_init_90 : decode cX9_init 90 = .ok (.iconst (-1), 1) := by decide +kernel
theorem dX9_init_91 : decode cX9_init 91 = .ok (.putfield 35, 3) := by decide +kernel
theorem dX9_init_94 : decode cX9_init 94 = .ok (.return_, 1) := by decide +kernel
theorem dX4_init_0 : decode cX4_init 0 = .ok (.aload_n 0, 1) := by decide +kernel
theorem dX4_init_1 : decode cX4_init 1 = .ok (.invokespecial 3, 3) := by decide +kernel
theorem dX4_init_4 : decode cX4_init 4 = .ok (.aload_n 0, 1) := by decide +kernel
theorem dX4_init_5 : decode cX4_init 5 = .ok (.bipush 11, 2) := by decide +kernel
theorem dX4_init_7 : decode cX4_init 7 = .ok (.newarray .int, 2) := by decide +kernel
theorem dX4_init_9 : decode cX4_init 9 = .ok (.putfield 11, 3) := by decide +kernel
theorem dX4_init_12 : decode cX4_init 12 = .ok (.return_, 1) := by decide +kernel
theorem dX1_init_0 : decode cX1_init 0 = .ok (.aload_n 0, 1) := by decide +kernel
theorem dX1_init_1 : decode cX1_init 1 = .ok (.invokespecial 1, 3) := by decide +kernel
theorem dX1_init_4 : decode cX1_init 4 = .ok (.aload_n 0, 1) := by decide +kernel
theorem dX1_init_5 : decode cX1_init 5 = .ok (.bipush 12, 2) := by decide +kernel
theorem dX1_init_7 : decode cX1_init 7 = .ok (.newarray .int, 2) := by decide +kernel
theorem dX1_init_9 : decode cX1_init 9 = .ok (.putfield 9, 3) := by decide +kernel
theorem dX1_init_12 : decode cX1_init 12 = .ok (.aload_n 0, 1) := by decide +kernel
theorem dX1_init_13 : decode cX1_init 13 = .ok (.bipush 12, 2) := by decide +kernel
theorem dX1_init_15 : decode cX1_init 15 = .ok (.newarray .int, 2) := by decide +kernel
theorem dX1_init_17 : decode cX1_init 17 = .ok (.putfield 13, 3) := by decide +kernel
theorem dX1_init_20 : decode cX1_init 20 = .ok (.aload_n 0, 1) := by decide +kernel
theorem dX1_init_21 : decode cX1_init 21 = .ok (.bipush 12, 2) := by decide +kernel
theorem dX1_init_23 : decode cX1_init 23 = .ok (.newarray .int, 2) := by decide +kernel
theorem dX1_init_25 : decode cX1_init 25 = .ok (.putfield 16, 3) := by decide +kernel
theorem dX1_init_28 : decode cX1_init 28 = .ok (.aload_n 0, 1) := by decide +kernel
theorem dX1_init_29 : decode cX1_init 29 = .ok (.bipush 12, 2) := by decide +kernel
theorem dX1_init_31 : decode cX1_init 31 = .ok (.newarray .int, 2) := by decide +kernel
theorem dX1_init_33 : decode cX1_init 33 = .ok (.putfield 19, 3) := by decide +kernel
theorem dX1_init_36 : decode cX1_init 36 = .ok (.aload_n 0, 1) := by decide +kernel
theorem dX1_init_37 : decode cX1_init 37 = .ok (.bipush 12, 2) := by decide +kernel
theorem dX1_init_39 : decode cX1_init 39 = .ok (.newarray .int, 2) := by decide +kernel
theorem dX1_init_41 : decode cX1_init 41 = .ok (.putfield 22, 3) := by decide +kernel
theorem dX1_init_44 : decode cX1_init 44 = .ok (.aload_n 0, 1) := by decide +kernel
theorem dX1_init_45 : decode cX1_init 45 = .ok (.bipush 60, 2) := by decide +kernel
theorem dX1_init_47 : decode cX1_init 47 = .ok (.newarray .int, 2) := by decide +kernel
theorem dX1_init_49 : decode cX1_init 49 = .ok (.putfield 25, 3) := by decide +kernel
theorem dX1_init_52 : decode cX1_init 52 = .ok (.aload_n 0, 1) := by decide +kernel
theorem dX1_init_53 : decode cX1_init 53 = .ok (.bipush 60, 2) := by decide +kernel
theorem dX1_init_55 : decode cX1_init 55 = .ok (.newarray .int, 2) := by decide +kernel
theorem dX1_init_57 : decode cX1_init 57 = .ok (.putfield 28, 3) := by decide +kernel
theorem dX1_init_60 : decode cX1_init 60 = .ok (.aload_n 0, 1) := by decide +kernel
theorem dX1_init_61 : decode cX1_init 61 = .ok (.bipush 20, 2) := by decide +kernel
theorem dX1_init_63 : decode cX1_init 63 = .ok (.newarray .int, 2) := by decide +kernel
theorem dX1_init_65 : decode cX1_init 65 = .ok (.putfield 31, 3) := by decide +kernel
theorem dX1_init_68 : decode cX1_init 68 = .ok (.aload_n 0, 1) := by decide +kernel
theorem dX1_init_69 : decode cX1_init 69 = .ok (.bipush 20, 2) := by decide +kernel
theorem dX1_init_71 : decode cX1_init 71 = .ok (.newarray .int, 2) := by decide +kernel
theorem dX1_init_73 : decode cX1_init 73 = .ok (.putfield 34, 3) := by decide +kernel
theorem dX1_init_76 : decode cX1_init 76 = .ok (.aload_n 0, 1) := by decide +kernel
theorem dX1_init_77 : decode cX1_init 77 = .ok (.bipush 20, 2) := by decide +kernel
theorem dX1_init_79 : decode cX1_init 79 = .ok (.newarray .int, 2) := by decide +kernel
theorem dX1_init_81 : decode cX1_init 81 = .ok (.putfield 37, 3) := by decide +kernel
theorem dX1_init_84 : decode cX1_init 84 = .ok (.aload_n 0, 1) := by decide +kernel
theorem dX1_init_85 : decode cX1_init 85 = .ok (.bipush 20, 2) := by decide +kernel
theorem dX1_init_87 : decode cX1_init 87 = .ok (.newarray .int, 2) := by decide +kernel
theorem dX1_init_89 : decode cX1_init 89 = .ok (.putfield 40, 3) := by decide +kernel
theorem dX1_init_92 : decode cX1_init 92 = .ok (.aload_n 0, 1) := by decide +kernel
theorem dX1_init_93 : decode cX1_init 93 = .ok (.sipush 256, 3) := by decide +kernel
theorem dX1_init_96 : decode cX1_init 96 = .ok (.newarray .int, 2) := by decide +kernel
theorem dX1_init_98 : decode cX1_init 98 = .ok (.putfield 43, 3) := by decide +kernel
theorem dX1_init_101 : decode cX1_init 101 = .ok (.return_, 1) := by decide +kernel
theorem dX2_init_0 : decode cX2_init 0 = .ok (.aload_n 0, 1) := by decide +kernel
theorem dX2_init_1 : decode cX2_init 1 = .ok (.invokespecial 7, 3) := by decide +kernel
theorem dX2_init_4 : decode cX2_init 4 = .ok (.aload_n 0, 1) := by decide +kernel
theorem dX2_init_5 : decode cX2_init 5 = .ok (.sipush 401, 3) := by decide +kernel
theorem dX2_init_8 : decode cX2_init 8 = .ok (.newarray .int, 2) := by decide +kernel
theorem dX2_init_10 : decode cX2_init 10 = .ok (.putfield 13, 3) := by decide +kernel
theorem dX2_init_13 : decode cX2_init 13 = .ok (.aload_n 0, 1) := by decide +kernel
theorem dX2_init_14 : decode cX2_init 14 = .ok (.sipush 401, 3) := by decide +kernel
theorem dX2_init_17 : decode cX2_init 17 = .ok (.newarray .int, 2) := by decide +kernel
theorem dX2_init_19 : decode cX2_init 19 = .ok (.putfield 17, 3) := by decide +kernel
theorem dX2_init_22 : decode cX2_init 22 = .ok (.aload_n 0, 1) := by decide +kernel
theorem dX2_init_23 : decode cX2_init 23 = .ok (.new 20, 3) := by decide +kernel
theorem dX2_init_26 : decode cX2_init 26 = .ok (.dup, 1) := by decide +kernel
theorem dX2_init_27 : decode cX2_init 27 = .ok (.invokespecial 22, 3) := by decide +kernel
theorem dX2_init_30 : decode cX2_init 30 = .ok (.putfield 23, 3) := by decide +kernel
theorem dX2_init_33 : decode cX2_init 33 = .ok (.return_, 1) := by decide +kernel
theorem dX0_init_0 : decode cX0_init 0 = .ok (.aload_n 0, 1) := by decide +kernel
theorem dX0_init_1 : decode cX0_init 1 = .ok (.invokespecial 3, 3) := by decide +kernel
theorem dX0_init_4 : decode cX0_init 4 = .ok (.aload_n 0, 1) := by decide +kernel
theorem dX0_init_5 : decode cX0_init 5 = .ok (.new 9, 3) := by decide +kernel
theorem dX0_init_8 : decode cX0_init 8 = .ok (.dup, 1) := by decide +kernel
theorem dX0_init_9 : decode cX0_init 9 = .ok (.invokespecial 11, 3) := by decide +kernel
theorem dX0_init_12 : decode cX0_init 12 = .ok (.putfield 12, 3) := by decide +kernel
theorem dX0_init_15 : decode cX0_init 15 = .ok (.return_, 1) := by decide +kernel
theorem dX7_init_0 : decode cX7_init 0 = .ok (.aload_n 0, 1) := by decide +kernel
theorem dX7_init_1 : decode cX7_init 1 = .ok (.invokespecial 3, 3) := by decide +kernel
theorem dX7_init_4 : decode cX7_init 4 = .ok (.aload_n 0, 1) := by decide +kernel
theorem dX7_init_5 : decode cX7_init 5 = .ok (.new 9, 3) := by decide +kernel
theorem dX7_init_8 : decode cX7_init 8 = .ok (.dup, 1) := by decide +kernel
theorem dX7_init_9 : decode cX7_init 9 = .ok (.invokespecial 11, 3) := by decide +kernel
theorem dX7_init_12 : decode cX7_init 12 = .ok (.putfield 12, 3) := by decide +kernel
theorem dX7_init_15 : decode cX7_init 15 = .ok (.aload_n 0, 1) := by decide +kernel
theorem dX7_init_16 : decode cX7_init 16 = .ok (.new 18, 3) := by decide +kernel
theorem dX7_init_19 : decode cX7_init 19 = .ok (.dup, 1) := by decide +kernel
theorem dX7_init_20 : decode cX7_init 20 = .ok (.invokespecial 20, 3) := by decide +kernel
theorem dX7_init_23 : decode cX7_init 23 = .ok (.putfield 21, 3) := by decide +kernel
theorem dX7_init_26 : decode cX7_init 26 = .ok (.aload_n 0, 1) := by decide +kernel
theorem dX7_init_27 : decode cX7_init 27 = .ok (.aload_n 1, 1) := by decide +kernel
theorem dX7_init_28 : decode cX7_init 28 = .ok (.putfield 25, 3) := by decide +kernel
theorem dX7_init_31 : decode cX7_init 31 = .ok (.return_, 1) := by decide +kernel
theorem dX5_init_0 : decode cX5_init 0 = .ok (.aload_n 0, 1) := by decide +kernel
theorem dX5_init_1 : decode cX5_init 1 = .ok (.invokespecial 3, 3) := by decide +kernel
theorem dX5_init_4 : decode cX5_init 4 = .ok (.aload_n 0, 1) := by decide +kernel
theorem dX5_init_5 : decode cX5_init 5 = .ok (.bipush 12, 2) := by decide +kernel
theorem dX5_init_7 : decode cX5_init 7 = .ok (.newarray .int, 2) := by decide +kernel
theorem dX5_init_9 : decode cX5_init 9 = .ok (.putfield 9, 3) := by decide +kernel
theorem dX5_init_12 : decode cX5_init 12 = .ok (.aload_n 0, 1) := by decide +kernel
theorem dX5_init_13 : decode cX5_init 13 = .ok (.bipush 6, 2) := by decide +kernel
theorem dX5_init_15 : decode cX5_init 15 = .ok (.newarray .int, 2) := by decide +kernel
theorem dX5_init_17 : decode cX5_init 17 = .ok (.putfield 15, 3) := by decide +kernel
theorem dX5_init_20 : decode cX5_init 20 = .ok (.aload_n 0, 1) := by decide +kernel
theorem dX5_init_21 : decode cX5_init 21 = .ok (.bipush 6, 2) := by decide +kernel
theorem dX5_init_23 : decode cX5_init 23 = .ok (.newarray .int, 2) := by decide +kernel
theorem dX5_init_25 : decode cX5_init 25 = .ok (.putfield 18, 3) := by decide +kernel
theorem dX5_init_28 : decode cX5_init 28 = .ok (.aload_n 0, 1) := by decide +kernel
theorem dX5_init_29 : decode cX5_init 29 = .ok (.aload_n 1, 1) := by decide +kernel
theorem dX5_init_30 : decode cX5_init 30 = .ok (.putfield 21, 3) := by decide +kernel
theorem dX5_init_33 : decode cX5_init 33 = .ok (.aload_n 0, 1) := by decide +kernel
theorem dX5_init_34 : decode cX5_init 34 = .ok (.aload_n 2, 1) := by decide +kernel
theorem dX5_init_35 : decode cX5_init 35 = .ok (.putfield 25, 3) := by decide +kernel
theorem dX5_init_38 : decode cX5_init 38 = .ok (.return_, 1) := by decide +kernel
theorem dX8_init_0 : decode cX8_init 0 = .ok (.aload_n 0, 1) := by decide +kernel
theorem dX8_init_1 : decode cX8_init 1 = .ok (.invokespecial 3, 3) := by decide +kernel
theorem dX8_init_4 : decode cX8_init 4 = .ok (.aload_n 0, 1) := by decide +kernel
theorem dX8_init_5 : decode cX8_init 5 = .ok (.bipush 6, 2) := by decide +kernel
theorem dX8_init_7 : decode cX8_init 7 = .ok (.newarray .int, 2) := by decide +kernel
theorem dX8_init_9 : decode cX8_init 9 = .ok (.putfield 9, 3) := by decide +kernel
theorem dX8_init_12 : decode cX8_init 12 = .ok (.aload_n 0, 1) := by decide +kernel
theorem dX8_init_13 : decode cX8_init 13 = .ok (.bipush 6, 2) := by decide +kernel
theorem dX8_init_15 : decode cX8_init 15 = .ok (.newarray .int, 2) := by decide +kernel
theorem dX8_init_17 : decode cX8_init 17 = .ok (.putfield 15, 3) := by decide +kernel
theorem dX8_init_20 : decode cX8_init 20 = .ok (.aload_n 0, 1) := by decide +kernel
theorem dX8_init_21 : decode cX8_init 21 = .ok (.bipush 6, 2) := by decide +kernel
theorem dX8_init_23 : decode cX8_init 23 = .ok (.newarray .int, 2) := by decide +kernel
theorem dX8_init_25 : decode cX8_init 25 = .ok (.putfield 18, 3) := by decide +kernel
theorem dX8_init_28 : decode cX8_init 28 = .ok (.aload_n 0, 1) := by decide +kernel
theorem dX8_init_29 : decode cX8_init 29 = .ok (.aload_n 1, 1) := by decide +kernel
theorem dX8_init_30 : decode cX8_init 30 = .ok (.putfield 21, 3) := by decide +kernel
theorem dX8_init_33 : decode cX8_init 33 = .ok (.aload_n 0, 1) := by decide +kernel
theorem dX8_init_34 : decode cX8_init 34 = .ok (.aload_n 2, 1) := by decide +kernel
theorem dX8_init_35 : decode cX8_init 35 = .ok (.putfield 25, 3) := by decide +kernel
theorem dX8_init_38 : decode cX8_init 38 = .ok (.return_, 1) := by decide +kernel
theorem dX3_init_0 : decode cX3_init 0 = .ok (.aload_n 0, 1) := by decide +kernel
theorem dX3_init_1 : decode cX3_init 1 = .ok (.invokespecial 3, 3) := by decide +kernel
theorem dX3_init_4 : decode cX3_init 4 = .ok (.aload_n 0, 1) := by decide +kernel
theorem dX3_init_5 : decode cX3_init 5 = .ok (.bipush 6, 2) := by decide +kernel
theorem dX3_init_7 : decode cX3_init 7 = .ok (.newarray .int, 2) := by decide +kernel
theorem dX3_init_9 : decode cX3_init 9 = .ok (.putfield 9, 3) := by decide +kernel
theorem dX3_init_12 : decode cX3_init 12 = .ok (.aload_n 0, 1) := by decide +kernel
theorem dX3_init_13 : decode cX3_init 13 = .ok (.bipush 6, 2) := by decide +kernel
theorem dX3_init_15 : decode cX3_init 15 = .ok (.newarray .int, 2) := by decide +kernel
theorem dX3_init_17 : decode cX3_init 17 = .ok (.putfield 15, 3) := by decide +kernel
theorem dX3_init_20 : decode cX3_init 20 = .ok (.aload_n 0, 1) := by decide +kernel
theorem dX3_init_21 : decode cX3_init 21 = .ok (.aload_n 1, 1) := by decide +kernel
theorem dX3_init_22 : decode cX3_init 22 = .ok (.putfield 18, 3) := by decide +kernel
theorem dX3_init_25 : decode cX3_init 25 = .ok (.return_, 1) := by decide +kernel
theorem dX10_init_0 : decode cX10_init 0 = .ok (.aload_n 0, 1) := by decide +kernel
theorem dX10_init_1 : decode cX10_init 1 = .ok (.invokespecial 1, 3) := by decide +kernel
theorem dX10_init_4 : decode cX10_init 4 = .ok (.aload_n 0, 1) := by decide +kernel
theorem dX10_init_5 : decode cX10_init 5 = .ok (.new 7, 3) := by decide +kernel
theorem dX10_init_8 : decode cX10_init 8 = .ok (.dup, 1) := by decide +kernel
theorem dX10_init_9 : decode cX10_init 9 = .ok (.invokespecial 9, 3) := by decide +kernel
theorem dX10_init_12 : decode cX10_init 12 = .ok (.putfield 10, 3) := by decide +kernel
theorem dX10_init_15 : decode cX10_init 15 = .ok (.aload_n 0, 1) := by decide +kernel
theorem dX10_init_16 : decode cX10_init 16 = .ok (.new 7, 3) := by decide +kernel
theorem dX10_init_19 : decode cX10_init 19 = .ok (.dup, 1) := by decide +kernel
theorem dX10_init_20 : decode cX10_init 20 = .ok (.invokespecial 9, 3) := by decide +kernel
theorem dX10_init_23 : decode cX10_init 23 = .ok (.putfield 16, 3) := by decide +kernel
theorem dX10_init_26 : decode cX10_init 26 = .ok (.aload_n 0, 1) := by decide +kernel
theorem dX10_init_27 : decode cX10_init 27 = .ok (.iconst 4, 1) := by decide +kernel
theorem dX10_init_28 : decode cX10_init 28 = .ok (.anewarray 7, 3) := by decide +kernel
theorem dX10_init_31 : decode cX10_init 31 = .ok (.putfield 19, 3) := by decide +kernel
theorem dX10_init_34 : decode cX10_init 34 = .ok (.aload_n 0, 1) := by decide +kernel
theorem dX10_init_35 : decode cX10_init 35 = .ok (.sipush 400, 3) := by decide +kernel
theorem dX10_init_38 : decode cX10_init 38 = .ok (.newarray .int, 2) := by decide +kernel
theorem dX10_init_40 : decode cX10_init 40 = .ok (.putfield 23, 3) := by decide +kernel
theorem dX10_init_43 : decode cX10_init 43 = .ok (.aload_n 0, 1) := by decide +kernel
theorem dX10_init_44 : decode cX10_init 44 = .ok (.bipush 6, 2) := by decide +kernel
theorem dX10_init_46 : decode cX10_init 46 = .ok (.anewarray 27, 3) := by decide +kernel
theorem dX10_init_49 : decode cX10_init 49 = .ok (.putfield 29, 3) := by decide +kernel
theorem dX10_init_52 : decode cX10_init 52 = .ok (.aload_n 0, 1) := by decide +kernel
theorem dX10_init_53 : decode cX10_init 53 = .ok (.new 33, 3) := by decide +kernel
theorem dX10_init_56 : decode cX10_init 56 = .ok (.dup, 1) := by decide +kernel
theorem dX10_init_57 : decode cX10_init 57 = .ok (.invokespecial 35, 3) := by decide +kernel
theorem dX10_init_60 : decode cX10_init 60 = .ok (.putfield 36, 3) := by decide +kernel
theorem dX10_init_63 : decode cX10_init 63 = .ok (.aload_n 0, 1) := by decide +kernel
theorem dX10_init_64 : decode cX10_init 64 = .ok (.new 40, 3) := by decide +kernel
theorem dX10_init_67 : decode cX10_init 67 = .ok (.dup, 1) := by decide +kernel
theorem dX10_init_68 : decode cX10_init 68 = .ok (.invokespecial 42, 3) := by decide +kernel
theorem dX10_init_71 : decode cX10_init 71 = .ok (.putfield 43, 3) := by decide +kernel
theorem dX10_init_74 : decode cX10_init 74 = .ok (.aload_n 0, 1) := by decide +kernel
theorem dX10_init_75 : decode cX10_init 75 = .ok (.new 47, 3) := by decide +kernel
theorem dX10_init_78 : decode cX10_init 78 = .ok (.dup, 1) := by decide +kernel
theorem dX10_init_79 : decode cX10_init 79 = .ok (.aload_n 0, 1) := by decide +kernel
theorem dX10_init_80 : decode cX10_init 80 = .ok (.getfield 10, 3) := by decide +kernel
theorem dX10_init_83 : decode cX10_init 83 = .ok (.invokespecial 49, 3) := by decide +kernel
theorem dX10_init_86 : decode cX10_init 86 = .ok (.putfield 52, 3) := by decide +kernel
theorem dX10_init_89 : decode cX10_init 89 = .ok (.aload_n 0, 1) := by decide +kernel
theorem dX10_init_90 : decode cX10_init 90 = .ok (.new 56, 3) := by decide +kernel
theorem dX10_init_93 : decode cX10_init 93 = .ok (.dup, 1) := by decide +kernel
theorem dX10_init_94 : decode cX10_init 94 = .ok (.aload_n 0, 1) := by decide +kernel
theorem dX10_init_95 : decode cX10_init 95 = .ok (.getfield 10, 3) := by decide +kernel
theorem dX10_init_98 : decode cX10_init 98 = .ok (.aload_n 0, 1) := by decide +kernel
theorem dX10_init_99 : decode cX10_init 99 = .ok (.getfield 52, 3) := by decide +kernel
theorem dX10_init_102 : decode cX10_init 102 = .ok (.invokespecial 58, 3) := by decide +kernel
theorem dX10_init_105 : decode cX10_init 105 = .ok (.putfield 61, 3) := by decide +kernel
theorem dX10_init_108 : decode cX10_init 108 = .ok (.aload_n 0, 1) := by decide +kernel
theorem dX10_init_109 : decode cX10_init 109 = .ok (.new 65, 3) := by decide +kernel
theorem dX10_init_112 : decode cX10_init 112 = .ok (.dup, 1) := by decide +kernel
theorem dX10_init_113 : decode cX10_init 113 = .ok (.aload_n 0, 1) := by decide +kernel
theorem dX10_init_114 : decode cX10_init 114 = .ok (.getfield 10, 3) := by decide +kernel
theorem dX10_init_117 : decode cX10_init 117 = .ok (.aload_n 0, 1) := by decide +kernel
theorem dX10_init_118 : decode cX10_init 118 = .ok (.getfield 52, 3) := by decide +kernel
theorem dX10_init_121 : decode cX10_init 121 = .ok (.invokespecial 67, 3) := by decide +kernel
theorem dX10_init_124 : decode cX10_init 124 = .ok (.putfield 68, 3) := by decide +kernel
theorem dX10_init_127 : decode cX10_init 127 = .ok (.aload_n 0, 1) := by decide +kernel
theorem dX10_init_128 : decode cX10_init 128 = .ok (.new 72, 3) := by decide +kernel
theorem dX10_init_131 : decode cX10_init 131 = .ok (.dup, 1) := by decide +kernel
theorem dX10_init_132 : decode cX10_init 132 = .ok (.aload_n 0, 1) := by decide +kernel
theorem dX10_init_133 : decode cX10_init 133 = .ok (.getfield 10, 3) := by decide +kernel
theorem dX10_init_136 : decode cX10_init 136 = .ok (.invokespecial 74, 3) := by decide +kernel
theorem dX10_init_139 : decode cX10_init 139 = .ok (.putfield 75, 3) := by decide +kernel
theorem dX10_init_142 : decode cX10_init 142 = .ok (.return_, 1) := by decide +kernel
theorem dX11_init_0 : decode cX11_init 0 = .ok (.aload_n 0, 1) := by decide +kernel
theorem dX11_init_1 : decode cX11_init 1 = .ok (.invokespecial 1, 3) := by decide +kernel
theorem dX11_init_4 : decode cX11_init 4 = .ok (.aload_n 0, 1) := by decide +kernel
theorem dX11_init_5 : decode cX11_init 5 = .ok (.sipush 400, 3) := by decide +kernel
theorem dX11_init_8 : decode cX11_init 8 = .ok (.newarray .byte, 2) := by decide +kernel
theorem dX11_init_10 : decode cX11_init 10 = .ok (.putfield 7, 3) := by decide +kernel
theorem dX11_init_13 : decode cX11_init 13 = .ok (.aload_n 0, 1) := by decide +kernel
theorem dX11_init_14 : decode cX11_init 14 = .ok (.sipush 2400, 3) := by decide +kernel
theorem dX11_init_17 : decode cX11_init 17 = .ok (.newarray .int, 2) := by decide +kernel
theorem dX11_init_19 : decode cX11_init 19 = .ok (.putfield 13, 3) := by decide +kernel
theorem dX11_init_22 : decode cX11_init 22 = .ok (.aload_n 0, 1) := by decide +kernel
theorem dX11_init_23 : decode cX11_init 23 = .ok (.bipush 6, 2) := by decide +kernel
theorem dX11_init_25 : decode cX11_init 25 = .ok (.newarray .int, 2) := by decide +kernel
theorem dX11_init_27 : decode cX11_init 27 = .ok (.putfield 17, 3) := by decide +kernel
theorem dX11_init_30 : decode cX11_init 30 = .ok (.aload_n 0, 1) := by decide +kernel
theorem dX11_init_31 : decode cX11_init 31 = .ok (.sipush 360, 3) := by decide +kernel
theorem dX11_init_34 : decode cX11_init 34 = .ok (.newarray .int, 2) := by decide +kernel
theorem dX11_init_36 : decode cX11_init 36 = .ok (.putfield 20, 3) := by decide +kernel
theorem dX11_init_39 : decode cX11_init 39 = .ok (.aload_n 0, 1) := by decide +kernel
theorem dX11_init_40 : decode cX11_init 40 = .ok (.bipush 6, 2) := by decide +kernel
theorem dX11_init_42 : decode cX11_init 42 = .ok (.newarray .int, 2) := by decide +kernel
theorem dX11_init_44 : decode cX11_init 44 = .ok (.putfield 23, 3) := by decide +kernel
theorem dX11_init_47 : decode cX11_init 47 = .ok (.aload_n 0, 1) := by decide +kernel
theorem dX11_init_48 : decode cX11_init 48 = .ok (.bipush 6, 2) := by decide +kernel
theorem dX11_init_50 : decode cX11_init 50 = .ok (.newarray .int, 2) := by decide +kernel
theorem dX11_init_52 : decode cX11_init 52 = .ok (.putfield 26, 3) := by decide +kernel
theorem dX11_init_55 : decode cX11_init 55 = .ok (.aload_n 0, 1) := by decide +kernel
theorem dX11_init_56 : decode cX11_init 56 = .ok (.sipush 400, 3) := by decide +kernel
theorem dX11_init_59 : decode cX11_init 59 = .ok (.newarray .int, 2) := by decide +kernel
theorem dX11_init_61 : decode cX11_init 61 = .ok (.putfield 29, 3) := by decide +kernel
theorem dX11_init_64 : decode cX11_init 64 = .ok (.aload_n 0, 1) := by decide +kernel
theorem dX11_init_65 : decode cX11_init 65 = .ok (.bipush 64, 2) := by decide +kernel
theorem dX11_init_67 : decode cX11_init 67 = .ok (.newarray .long, 2) := by decide +kernel
theorem dX11_init_69 : decode cX11_init 69 = .ok (.putfield 32, 3) := by decide +kernel
theorem dX11_init_72 : decode cX11_init 72 = .ok (.aload_n 0, 1) := by decide +kernel
theorem dX11_init_73 : decode cX11_init 73 = .ok (.bipush 11, 2) := by decide +kernel
theorem dX11_init_75 : decode cX11_init 75 = .ok (.newarray .long, 2) := by decide +kernel
theorem dX11_init_77 : decode cX11_init 77 = .ok (.putfield 36, 3) := by decide +kernel
theorem dX11_init_80 : decode cX11_init 80 = .ok (.aload_n 0, 1) := by decide +kernel
theorem dX11_init_81 : decode cX11_init 81 = .ok (.sipush 360, 3) := by decide +kernel
theorem dX11_init_84 : decode cX11_init 84 = .ok (.newarray .int, 2) := by decide +kernel
theorem dX11_init_86 : decode cX11_init 86 = .ok (.putfield 39, 3) := by decide +kernel
theorem dX11_init_89 : decode cX11_init 89 = .ok (.aload_n 0, 1) := by decide +kernel
theorem dX11_init_90 : decode cX11_init 90 = .ok (.sipush 360, 3) := by decide +kernel
theorem dX11_init_93 : decode cX11_init 93 = .ok (.newarray .int, 2) := by decide +kernel
theorem dX11_init_95 : decode cX11_init 95 = .ok (.putfield 42, 3) := by decide +kernel
theorem dX11_init_98 : decode cX11_init 98 = .ok (.aload_n 0, 1) := by decide +kernel
theorem dX11_init_99 : decode cX11_init 99 = .ok (.bipush 7, 2) := by decide +kernel
theorem dX11_init_101 : decode cX11_init 101 = .ok (.newarray .int, 2) := by decide +kernel
theorem dX11_init_103 : decode cX11_init 103 = .ok (.putfield 45, 3) := by decide +kernel
theorem dX11_init_106 : decode cX11_init 106 = .ok (.aload_n 0, 1) := by decide +kernel
theorem dX11_init_107 : decode cX11_init 107 = .ok (.bipush 7, 2) := by decide +kernel
theorem dX11_init_109 : decode cX11_init 109 = .ok (.newarray .int, 2) := by decide +kernel
theorem dX11_init_111 : decode cX11_init 111 = .ok (.putfield 48, 3) := by decide +kernel
theorem dX11_init_114 : decode cX11_init 114 = .ok (.aload_n 0, 1) := by decide +kernel
theorem dX11_init_115 : decode cX11_init 115 = .ok (.bipush 7, 2) := by decide +kernel
theorem dX11_init_117 : decode cX11_init 117 = .ok (.newarray .int, 2) := by decide +kernel
theorem dX11_init_119 : decode cX11_init 119 = .ok (.putfield 51, 3) := by decide +kernel
theorem dX11_init_122 : decode cX11_init 122 = .ok (.aload_n 0, 1) := by decide +kernel
theorem dX11_init_123 : decode cX11_init 123 = .ok (.bipush 7, 2) := by decide +kernel
theorem dX11_init_125 : decode cX11_init 125 = .ok (.newarray .int, 2) := by decide +kernel
theorem dX11_init_127 : decode cX11_init 127 = .ok (.putfield 54, 3) := by decide +kernel
theorem dX11_init_130 : decode cX11_init 130 = .ok (.aload_n 0, 1) := by decide +kernel
theorem dX11_init_131 : decode cX11_init 131 = .ok (.bipush 7, 2) := by decide +kernel
theorem dX11_init_133 : decode cX11_init 133 = .ok (.newarray .int, 2) := by decide +kernel
theorem dX11_init_135 : decode cX11_init 135 = .ok (.putfield 57, 3) := by decide +kernel
theorem dX11_init_138 : decode cX11_init 138 = .ok (.aload_n 0, 1) := by decide +kernel
theorem dX11_init_139 : decode cX11_init 139 = .ok (.bipush 6, 2) := by decide +kernel
theorem dX11_init_141 : decode cX11_init 141 = .ok (.newarray .int, 2) := by decide +kernel
theorem dX11_init_143 : decode cX11_init 143 = .ok (.putfield 60, 3) := by decide +kernel
theorem dX11_init_146 : decode cX11_init 146 = .ok (.aload_n 0, 1) := by decide +kernel
theorem dX11_init_147 : decode cX11_init 147 = .ok (.bipush 12, 2) := by decide +kernel
theorem dX11_init_149 : decode cX11_init 149 = .ok (.newarray .int, 2) := by decide +kernel
theorem dX11_init_151 : decode cX11_init 151 = .ok (.putfield 63, 3) := by decide +kernel
theorem dX11_init_154 : decode cX11_init 154 = .ok (.aload_n 0, 1) := by decide +kernel
theorem dX11_init_155 : decode cX11_init 155 = .ok (.bipush 6, 2) := by decide +kernel
theorem dX11_init_157 : decode cX11_init 157 = .ok (.newarray .int, 2) := by decide +kernel
theorem dX11_init_159 : decode cX11_init 159 = .ok (.putfield 66, 3) := by decide +kernel
theorem dX11_init_162 : decode cX11_init 162 = .ok (.aload_n 0, 1) := by decide +kernel
theorem dX11_init_163 : decode cX11_init 163 = .ok (.bipush 6, 2) := by decide +kernel
theorem dX11_init_165 : decode cX11_init 165 = .ok (.newarray .int, 2) := by decide +kernel
theorem dX11_init_167 : decode cX11_init 167 = .ok (.putfield 69, 3) := by decide +kernel
theorem dX11_init_170 : decode cX11_init 170 = .ok (.aload_n 0, 1) := by decide +kernel
theorem dX11_init_171 : decode cX11_init 171 = .ok (.sipush 1440, 3) := by decide +kernel
theorem dX11_init_174 : decode cX11_init 174 = .ok (.newarray .int, 2) := by decide +kernel
theorem dX11_init_176 : decode cX11_init 176 = .ok (.putfield 72, 3) := by decide +kernel
theorem dX11_init_179 : decode cX11_init 179 = .ok (.aload_n 0, 1) := by decide +kernel
theorem dX11_init_180 : decode cX11_init 180 = .ok (.iconst 4, 1) := by decide +kernel
theorem dX11_init_181 : decode cX11_init 181 = .ok (.newarray .boolean, 2) := by decide +kernel
theorem dX11_init_183 : decode cX11_init 183 = .ok (.putfield 75, 3) := by decide +kernel
theorem dX11_init_186 : decode cX11_init 186 = .ok (.aload_n 0, 1) := by decide +kernel
theorem dX11_init_187 : decode cX11_init 187 = .ok (.getfield 39, 3) := by decide +kernel
theorem dX11_init_190 : decode cX11_init 190 = .ok (.bipush 8, 2) := by decide +kernel
theorem dX11_init_192 : decode cX11_init 192 = .ok (.iconst (-1), 1) := by decide +kernel
theorem dX11_init_193 : decode cX11_init 193 = .ok (.iastore, 1) := by decide +kernel
theorem dX11_init_194 : decode cX11_init 194 = .ok (.return_, 1) := by decide +kernel
end
section
set_option maxHeartbeats 4000000 in
set_option maxRecDepth 100000 in
theorem mX6_init_12_4 (l : Launch) (dC : Nat → ClassId) (dI : Nat → Nat → Nat) (kA : Nat → ClassId) (sz : Nat) (a0 : Nat)  : Met l yX6_init wsX6_init ({ frames := 1, cells := 1, slots := 48, locals := 14 }) (zPc dC dI kA sz [.ref a0, .int 12, .int 4] [(a0, .inr (6, [.int 0, .null, .int 0]))]) (va_Qv (fun (u : Nat) => True) (zB dC dI (va_A [(a0, .inr (6, [.int 0, .null, .int 0]))] sz) (fun (u : Nat) => [(a0, .inr (6, [.int 4, .ref u, .int 0])), (u, .inl (kA 0, 48, .inl (fun _ => 0)))])) (va_A [(a0, .inr (6, [.int 0, .null, .int 0]))] sz)) 1 48 (va_A [(a0, .inr (6, [.int 0, .null, .int 0]))] sz) := by
  refine Met.ofW (cc := cX6_init) (maxL := 3) (ret := none) (by decide) rfl ?_
  intro p e s m args below meth c s₁ B hml hv
  obtain ⟨rfl, hsz, hP, hK, hD0⟩ := hv
  have hx := B.exec
  have hb := B.bytes
  have hr := B.returns
  have hts := atoms_spec (ws := wsX6_init) B.pre
  have hown : s.vm.findClass RX6 = some m.cls := findClass_of_methodNamed B.named
  have hlocks := B.notSynchronized
  have hin : meth.name = "<init>" := (name_of_methodNamed B.named B.method).1
  subst hsz
  have hD := hD0.self (sz := s.heap.size)
  generalize hAe : va_A [(a0, .inr (6, [.int 0, .null, .int 0]))] s.heap.size = A at hD ⊢
  have hA : ∀ q : Nat, s.heap.size ≤ q → A q := fun q h => by rw [← hAe]; exact Or.inr h
  have hS : va_S A s.heap s.heap [] := va_S.rf
  have hP : va_P (dC, dI) vwCl [(a0, .inr (6, [.int 0, .null, .int 0]))] s.heap := hP
  have hl := lv_entry ([.ref a0, .int 12, .int 4]) (n := 3) (Nat.le_of_ble_eq_true rfl)
  rw [lg_entry_eq]
  generalize (lg_sl ([.ref a0, .int 12, .int 4]) ++ List.replicate (3 - (lg_sl ([.ref a0, .int 12, .int 4])).length) Slot.unset).toArray = ls at hl ⊢
  have hl : lv_has ls 3 [(0, .ref a0), (1, .int 12), (2, .int 4)] := hl
  refine lv_aload_n hx hb dX6_init_0 rfl (lv_at hl 0 rfl) ?_
  refine W.objInit hx hb hown (kX6_init_1 hts) (kX6_init_2 hts) (kX6_init_3 hts) rfl (by rw [hml]; exact hl.1) rfl dX6_init_1 (Nat.le_of_ble_eq_true rfl) (Nat.le_of_ble_eq_true rfl) ?_
  refine W.eq (g2 := F0 m 4 ls []) rfl ?_
  refine lv_aload_n hx hb dX6_init_4 rfl (lv_at hl 0 rfl) ?_
  refine lv_iload_n hx hb dX6_init_5 rfl (lv_at hl 2 rfl) ?_
  refine va_putF (D := (dC, dI)) (ci := 6) (v := .int 4) (ty := .int) (C := RX6) (T := TX6) (N := 3) hx hb hts iX6_init_X6 tyX6 tyX6_ok nmX6 hown hK.1 hP hD hS 0 rfl rfl 0 (by decide) (kX6_init_4 hts) (fun _ h9 => h9) rfl hin rfl (by decide +kernel) rfl rfl (Nat.le_of_ble_eq_true rfl) dX6_init_6 (fun H locs hP hD hS => ?_)
  have hP : va_P (dC, dI) vwCl [(a0, .inr (6, [.int 4, .null, .int 0]))] H := hP
  have hD : va_D A [(a0, .inr (6, [.int 4, .null, .int 0]))] := hD
  refine lv_aload_n hx hb dX6_init_9 rfl (lv_at hl 0 rfl) ?_
  refine lv_iconst (v := 0) hx hb dX6_init_10 (by decide) ?_
  refine lv_iload_n hx hb dX6_init_11 rfl (lv_at hl 1 rfl) ?_
  refine lv_iload_n hx hb dX6_init_12 rfl (lv_at hl 2 rfl) ?_
  refine lv_imul hx hb dX6_init_13 ?_
  refine zi 48 (by decide) ?_
  refine va_mmax hx hb (by rw [hml]; exact hl.1.symm) hown (kX6_init_5 hts) (kX6_init_6 hts) (kX6_init_7 hts) (kX6_init_8 hts) (Nat.le_of_ble_eq_true rfl) (Nat.le_of_ble_eq_true rfl) (Nat.le_of_ble_eq_true rfl) (Nat.le_of_ble_eq_true rfl) dX6_init_14 ?_
  refine zi 48 (by decide) ?_
  refine z_newi hx hb (kX6_init_9 hts) hK hP hD hS hA 48 (by decide) (by decide) (by decide) (Nat.le_of_ble_eq_true rfl) (Nat.le_of_ble_eq_true rfl) dX6_init_17 (fun q1 H hP hD hS => ?_)
  refine W.widen (k := 1) (n := 48) (Nat.le_of_ble_eq_true rfl) (Nat.le_of_ble_eq_true rfl) ?_
  have hP : va_P (dC, dI) vwCl [(a0, .inr (6, [.int 4, .null, .int 0])), (q1, .inl (kA 0, 48, .inl (fun _ => 0)))] H := hP
  have hD : va_D A [(a0, .inr (6, [.int 4, .null, .int 0])), (q1, .inl (kA 0, 48, .inl (fun _ => 0)))] := hD
  refine va_putF (D := (dC, dI)) (ci := 6) (v := .ref q1) (ty := .array (.int)) (C := RX6) (T := TX6) (N := 3) hx hb hts iX6_init_X6 tyX6 tyX6_ok nmX6 hown hK.1 hP hD hS 0 rfl rfl 1 (by decide) (kX6_init_10 hts) (fun _ h9 => h9) rfl hin rfl (by decide +kernel) rfl rfl (Nat.le_of_ble_eq_true rfl) dX6_init_19 (fun H locs hP hD hS => ?_)
  have hP : va_P (dC, dI) vwCl [(a0, .inr (6, [.int 4, .ref q1, .int 0])), (q1, .inl (kA 0, 48, .inl (fun _ => 0)))] H := hP
  have hD : va_D A [(a0, .inr (6, [.int 4, .ref q1, .int 0])), (q1, .inl (kA 0, 48, .inl (fun _ => 0)))] := hD
  have hP9 := hP.sub (ws' := [(a0, .inr (6, [.int 4, .ref q1, .int 0])), (q1, .inl (kA 0, 48, .inl (fun _ => 0)))]) [0, 1] rfl
  have hD9 := hD.sub (ws' := [(a0, .inr (6, [.int 4, .ref q1, .int 0])), (q1, .inl (kA 0, 48, .inl (fun _ => 0)))]) [0, 1] (by decide) rfl
  refine W.widen (k := 1) (n := 48) (Nat.le_of_ble_eq_true rfl) (Nat.le_of_ble_eq_true rfl) ?_
  exact W.vret hx hb hr (fun t ht hW => ⟨⟨(q1), rfl, trivial, by rw [ht]; exact hP9, hD9⟩, hS.F ht⟩) hS.2.2 dX6_init_22
set_option maxHeartbeats 4000000 in
set_option maxRecDepth 100000 in
theorem mX6_init_20_5 (l : Launch) (dC : Nat → ClassId) (dI : Nat → Nat → Nat) (kA : Nat → ClassId) (sz : Nat) (a0 : Nat)  : Met l yX6_init wsX6_init ({ frames := 1, cells := 1, slots := 100, locals := 14 }) (zPc dC dI kA sz [.ref a0, .int 20, .int 5] [(a0, .inr (6, [.int 0, .null, .int 0]))]) (va_Qv (fun (u : Nat) => True) (zB dC dI (va_A [(a0, .inr (6, [.int 0, .null, .int 0]))] sz) (fun (u : Nat) => [(a0, .inr (6, [.int 5, .ref u, .int 0])), (u, .inl (kA 0, 100, .inl (fun _ => 0)))])) (va_A [(a0, .inr (6, [.int 0, .null, .int 0]))] sz)) 1 100 (va_A [(a0, .inr (6, [.int 0, .null, .int 0]))] sz) := by
  refine Met.ofW (cc := cX6_init) (maxL := 3) (ret := none) (by decide) rfl ?_
  intro p e s m args below meth c s₁ B hml hv
  obtain ⟨rfl, hsz, hP, hK, hD0⟩ := hv
  have hx := B.exec
  have hb := B.bytes
  have hr := B.returns
  have hts := atoms_spec (ws := wsX6_init) B.pre
  have hown : s.vm.findClass RX6 = some m.cls := findClass_of_methodNamed B.named
  have hlocks := B.notSynchronized
  have hin : meth.name = "<init>" := (name_of_methodNamed B.named B.method).1
  subst hsz
  have hD := hD0.self (sz := s.heap.size)
  generalize hAe : va_A [(a0, .inr (6, [.int 0, .null, .int 0]))] s.heap.size = A at hD ⊢
  have hA : ∀ q : Nat, s.heap.size ≤ q → A q := fun q h => by rw [← hAe]; exact Or.inr h
  have hS : va_S A s.heap s.heap [] := va_S.rf
  have hP : va_P (dC, dI) vwCl [(a0, .inr (6, [.int 0, .null, .int 0]))] s.heap := hP
  have hl := lv_entry ([.ref a0, .int 20, .int 5]) (n := 3) (Nat.le_of_ble_eq_true rfl)
  rw [lg_entry_eq]
  generalize (lg_sl ([.ref a0, .int 20, .int 5]) ++ List.replicate (3 - (lg_sl ([.ref a0, .int 20, .int 5])).length) Slot.unset).toArray = ls at hl ⊢
  have hl : lv_has ls 3 [(0, .ref a0), (1, .int 20), (2, .int 5)] := hl
  refine lv_aload_n hx hb dX6_init_0 rfl (lv_at hl 0 rfl) ?_
  refine W.objInit hx hb hown (kX6_init_1 hts) (kX6_init_2 hts) (kX6_init_3 hts) rfl (by rw [hml]; exact hl.1) rfl dX6_init_1 (Nat.le_of_ble_eq_true rfl) (Nat.le_of_ble_eq_true rfl) ?_
  refine W.eq (g2 := F0 m 4 ls []) rfl ?_
  refine lv_aload_n hx hb dX6_init_4 rfl (lv_at hl 0 rfl) ?_
  refine lv_iload_n hx hb dX6_init_5 rfl (lv_at hl 2 rfl) ?_
  refine va_putF (D := (dC, dI)) (ci := 6) (v := .int 5) (ty := .int) (C := RX6) (T := TX6) (N := 3) hx hb hts iX6_init_X6 tyX6 tyX6_ok nmX6 hown hK.1 hP hD hS 0 rfl rfl 0 (by decide) (kX6_init_4 hts) (fun _ h9 => h9) rfl hin rfl (by decide +kernel) rfl rfl (Nat.le_of_ble_eq_true rfl) dX6_init_6 (fun H locs hP hD hS => ?_)
  have hP : va_P (dC, dI) vwCl [(a0, .inr (6, [.int 5, .null, .int 0]))] H := hP
  have hD : va_D A [(a0, .inr (6, [.int 5, .null, .int 0]))] := hD
  refine lv_aload_n hx hb dX6_init_9 rfl (lv_at hl 0 rfl) ?_
  refine lv_iconst (v := 0) hx hb dX6_init_10 (by decide) ?_
  refine lv_iload_n hx hb dX6_init_11 rfl (lv_at hl 1 rfl) ?_
  refine lv_iload_n hx hb dX6_init_12 rfl (lv_at hl 2 rfl) ?_
  refine lv_imul hx hb dX6_init_13 ?_
  refine zi 100 (by decide) ?_
  refine va_mmax hx hb (by rw [hml]; exact hl.1.symm) hown (kX6_init_5 hts) (kX6_init_6 hts) (kX6_init_7 hts) (kX6_init_8 hts) (Nat.le_of_ble_eq_true rfl) (Nat.le_of_ble_eq_true rfl) (Nat.le_of_ble_eq_true rfl) (Nat.le_of_ble_eq_true rfl) dX6_init_14 ?_
  refine zi 100 (by decide) ?_
  refine z_newi hx hb (kX6_init_9 hts) hK hP hD hS hA 100 (by decide) (by decide) (by decide) (Nat.le_of_ble_eq_true rfl) (Nat.le_of_ble_eq_true rfl) dX6_init_17 (fun q1 H hP hD hS => ?_)
  refine W.widen (k := 1) (n := 100) (Nat.le_of_ble_eq_true rfl) (Nat.le_of_ble_eq_true rfl) ?_
  have hP : va_P (dC, dI) vwCl [(a0, .inr (6, [.int 5, .null, .int 0])), (q1, .inl (kA 0, 100, .inl (fun _ => 0)))] H := hP
  have hD : va_D A [(a0, .inr (6, [.int 5, .null, .int 0])), (q1, .inl (kA 0, 100, .inl (fun _ => 0)))] := hD
  refine va_putF (D := (dC, dI)) (ci := 6) (v := .ref q1) (ty := .array (.int)) (C := RX6) (T := TX6) (N := 3) hx hb hts iX6_init_X6 tyX6 tyX6_ok nmX6 hown hK.1 hP hD hS 0 rfl rfl 1 (by decide) (kX6_init_10 hts) (fun _ h9 => h9) rfl hin rfl (by decide +kernel) rfl rfl (Nat.le_of_ble_eq_true rfl) dX6_init_19 (fun H locs hP hD hS => ?_)
  have hP : va_P (dC, dI) vwCl [(a0, .inr (6, [.int 5, .ref q1, .int 0])), (q1, .inl (kA 0, 100, .inl (fun _ => 0)))] H := hP
  have hD : va_D A [(a0, .inr (6, [.int 5, .ref q1, .int 0])), (q1, .inl (kA 0, 100, .inl (fun _ => 0)))] := hD
  have hP9 := hP.sub (ws' := [(a0, .inr (6, [.int 5, .ref q1, .int 0])), (q1, .inl (kA 0, 100, .inl (fun _ => 0)))]) [0, 1] rfl
  have hD9 := hD.sub (ws' := [(a0, .inr (6, [.int 5, .ref q1, .int 0])), (q1, .inl (kA 0, 100, .inl (fun _ => 0)))]) [0, 1] (by decide) rfl
  refine W.widen (k := 1) (n := 100) (Nat.le_of_ble_eq_true rfl) (Nat.le_of_ble_eq_true rfl) ?_
  exact W.vret hx hb hr (fun t ht hW => ⟨⟨(q1), rfl, trivial, by rw [ht]; exact hP9, hD9⟩, hS.F ht⟩) hS.2.2 dX6_init_22
set_option maxHeartbeats 4000000 in
set_option maxRecDepth 100000 in
theorem mX6_init_16_9 (l : Launch) (dC : Nat → ClassId) (dI : Nat → Nat → Nat) (kA : Nat → ClassId) (sz : Nat) (a0 : Nat)  : Met l yX6_init wsX6_init ({ frames := 1, cells := 1, slots := 144, locals := 14 }) (zPc dC dI kA sz [.ref a0, .int 16, .int 9] [(a0, .inr (6, [.int 0, .null, .int 0]))]) (va_Qv (fun (u : Nat) => True) (zB dC dI (va_A [(a0, .inr (6, [.int 0, .null, .int 0]))] sz) (fun (u : Nat) => [(a0, .inr (6, [.int 9, .ref u, .int 0])), (u, .inl (kA 0, 144, .inl (fun _ => 0)))])) (va_A [(a0, .inr (6, [.int 0, .null, .int 0]))] sz)) 1 144 (va_A [(a0, .inr (6, [.int 0, .null, .int 0]))] sz) := by
  refine Met.ofW (cc := cX6_init) (maxL := 3) (ret := none) (by decide) rfl ?_
  intro p e s m args below meth c s₁ B hml hv
  obtain ⟨rfl, hsz, hP, hK, hD0⟩ := hv
  have hx := B.exec
  have hb := B.bytes
  have hr := B.returns
  have hts := atoms_spec (ws := wsX6_init) B.pre
  have hown : s.vm.findClass RX6 = some m.cls := findClass_of_methodNamed B.named
  have hlocks := B.notSynchronized
  have hin : meth.name = "<init>" := (name_of_methodNamed B.named B.method).1
  subst hsz
  have hD := hD0.self (sz := s.heap.size)
  generalize hAe : va_A [(a0, .inr (6, [.int 0, .null, .int 0]))] s.heap.size = A at hD ⊢
  have hA : ∀ q : Nat, s.heap.size ≤ q → A q := fun q h => by rw [← hAe]; exact Or.inr h
  have hS : va_S A s.heap s.heap [] := va_S.rf
  have hP : va_P (dC, dI) vwCl [(a0, .inr (6, [.int 0, .null, .int 0]))] s.heap := hP
  have hl := lv_entry ([.ref a0, .int 16, .int 9]) (n := 3) (Nat.le_of_ble_eq_true rfl)
  rw [lg_entry_eq]
  generalize (lg_sl ([.ref a0, .int 16, .int 9]) ++ List.replicate (3 - (lg_sl ([.ref a0, .int 16, .int 9])).length) Slot.unset).toArray = ls at hl ⊢
  have hl : lv_has ls 3 [(0, .ref a0), (1, .int 16), (2, .int 9)] := hl
  refine lv_aload_n hx hb dX6_init_0 rfl (lv_at hl 0 rfl) ?_
  refine W.objInit hx hb hown (kX6_init_1 hts) (kX6_init_2 hts) (kX6_init_3 hts) rfl (by rw [hml]; exact hl.1) rfl dX6_init_1 (Nat.le_of_ble_eq_true rfl) (Nat.le_of_ble_eq_true rfl) ?_
  refine W.eq (g2 := F0 m 4 ls []) rfl ?_
  refine lv_aload_n hx hb dX6_init_4 rfl (lv_at hl 0 rfl) ?_
  refine lv_iload_n hx hb dX6_init_5 rfl (lv_at hl 2 rfl) ?_
  refine va_putF (D := (dC, dI)) (ci := 6) (v := .int 9) (ty := .int) (C := RX6) (T := TX6) (N := 3) hx hb hts iX6_init_X6 tyX6 tyX6_ok nmX6 hown hK.1 hP hD hS 0 rfl rfl 0 (by decide) (kX6_init_4 hts) (fun _ h9 => h9) rfl hin rfl (by decide +kernel) rfl rfl (Nat.le_of_ble_eq_true rfl) dX6_init_6 (fun H locs hP hD hS => ?_)
  have hP : va_P (dC, dI) vwCl [(a0, .inr (6, [.int 9, .null, .int 0]))] H := hP
  have hD : va_D A [(a0, .inr (6, [.int 9, .null, .int 0]))] := hD
  refine lv_aload_n hx hb dX6_init_9 rfl (lv_at hl 0 rfl) ?_
  refine lv_iconst (v := 0) hx hb dX6_init_10 (by decide) ?_
  refine lv_iload_n hx hb dX6_init_11 rfl (lv_at hl 1 rfl) ?_
  refine lv_iload_n hx hb dX6_init_12 rfl (lv_at hl 2 rfl) ?_
  refine lv_imul hx hb dX6_init_13 ?_
  refine zi 144 (by decide) ?_
  refine va_mmax hx hb (by rw [hml]; exact hl.1.symm) hown (kX6_init_5 hts) (kX6_init_6 hts) (kX6_init_7 hts) (kX6_init_8 hts) (Nat.le_of_ble_eq_true rfl) (Nat.le_of_ble_eq_true rfl) (Nat.le_of_ble_eq_true rfl) (Nat.le_of_ble_eq_true rfl) dX6_init_14 ?_
  refine zi 144 (by decide) ?_
  refine z_newi hx hb (kX6_init_9 hts) hK hP hD hS hA 144 (by decide) (by decide) (by decide) (Nat.le_of_ble_eq_true rfl) (Nat.le_of_ble_eq_true rfl) dX6_init_17 (fun q1 H hP hD hS => ?_)
  refine W.widen (k := 1) (n := 144) (Nat.le_of_ble_eq_true rfl) (Nat.le_of_ble_eq_true rfl) ?_
  have hP : va_P (dC, dI) vwCl [(a0, .inr (6, [.int 9, .null, .int 0])), (q1, .inl (kA 0, 144, .inl (fun _ => 0)))] H := hP
  have hD : va_D A [(a0, .inr (6, [.int 9, .null, .int 0])), (q1, .inl (kA 0, 144, .inl (fun _ => 0)))] := hD
  refine va_putF (D := (dC, dI)) (ci := 6) (v := .ref q1) (ty := .array (.int)) (C := RX6) (T := TX6) (N := 3) hx hb hts iX6_init_X6 tyX6 tyX6_ok nmX6 hown hK.1 hP hD hS 0 rfl rfl 1 (by decide) (kX6_init_10 hts) (fun _ h9 => h9) rfl hin rfl (by decide +kernel) rfl rfl (Nat.le_of_ble_eq_true rfl) dX6_init_19 (fun H locs hP hD hS => ?_)
  have hP : va_P (dC, dI) vwCl [(a0, .inr (6, [.int 9, .ref q1, .int 0])), (q1, .inl (kA 0, 144, .inl (fun _ => 0)))] H := hP
  have hD : va_D A [(a0, .inr (6, [.int 9, .ref q1, .int 0])), (q1, .inl (kA 0, 144, .inl (fun _ => 0)))] := hD
  have hP9 := hP.sub (ws' := [(a0, .inr (6, [.int 9, .ref q1, .int 0])), (q1, .inl (kA 0, 144, .inl (fun _ => 0)))]) [0, 1] rfl
  have hD9 := hD.sub (ws' := [(a0, .inr (6, [.int 9, .ref q1, .int 0])), (q1, .inl (kA 0, 144, .inl (fun _ => 0)))]) [0, 1] (by decide) rfl
  refine W.widen (k := 1) (n := 144) (Nat.le_of_ble_eq_true rfl) (Nat.le_of_ble_eq_true rfl) ?_
  exact W.vret hx hb hr (fun t ht hW => ⟨⟨(q1), rfl, trivial, by rw [ht]; exact hP9, hD9⟩, hS.F ht⟩) hS.2.2 dX6_init_22
set_option maxHeartbeats 4000000 in
set_option maxRecDepth 100000 in
theorem mX6_init_6_4 (l : Launch) (dC : Nat → ClassId) (dI : Nat → Nat → Nat) (kA : Nat → ClassId) (sz : Nat) (a0 : Nat)  : Met l yX6_init wsX6_init ({ frames := 1, cells := 1, slots := 24, locals := 14 }) (zPc dC dI kA sz [.ref a0, .int 6, .int 4] [(a0, .inr (6, [.int 0, .null, .int 0]))]) (va_Qv (fun (u : Nat) => True) (zB dC dI (va_A [(a0, .inr (6, [.int 0, .null, .int 0]))] sz) (fun (u : Nat) => [(a0, .inr (6, [.int 4, .ref u, .int 0])), (u, .inl (kA 0, 24, .inl (fun _ => 0)))])) (va_A [(a0, .inr (6, [.int 0, .null, .int 0]))] sz)) 1 24 (va_A [(a0, .inr (6, [.int 0, .null, .int 0]))] sz) := by
  refine Met.ofW (cc := cX6_init) (maxL := 3) (ret := none) (by decide) rfl ?_
  intro p e s m args below meth c s₁ B hml hv
  obtain ⟨rfl, hsz, hP, hK, hD0⟩ := hv
  have hx := B.exec
  have hb := B.bytes
  have hr := B.returns
  have hts := atoms_spec (ws := wsX6_init) B.pre
  have hown : s.vm.findClass RX6 = some m.cls := findClass_of_methodNamed B.named
  have hlocks := B.notSynchronized
  have hin : meth.name = "<init>" := (name_of_methodNamed B.named B.method).1
  subst hsz
  have hD := hD0.self (sz := s.heap.size)
  generalize hAe : va_A [(a0, .inr (6, [.int 0, .null, .int 0]))] s.heap.size = A at hD ⊢
  have hA : ∀ q : Nat, s.heap.size ≤ q → A q := fun q h => by rw [← hAe]; exact Or.inr h
  have hS : va_S A s.heap s.heap [] := va_S.rf
  have hP : va_P (dC, dI) vwCl [(a0, .inr (6, [.int 0, .null, .int 0]))] s.heap := hP
  have hl := lv_entry ([.ref a0, .int 6, .int 4]) (n := 3) (Nat.le_of_ble_eq_true rfl)
  rw [lg_entry_eq]
  generalize (lg_sl ([.ref a0, .int 6, .int 4]) ++ List.replicate (3 - (lg_sl ([.ref a0, .int 6, .int 4])).length) Slot.unset).toArray = ls at hl ⊢
  have hl : lv_has ls 3 [(0, .ref a0), (1, .int 6), (2, .int 4)] := hl
  refine lv_aload_n hx hb dX6_init_0 rfl (lv_at hl 0 rfl) ?_
  refine W.objInit hx hb hown (kX6_init_1 hts) (kX6_init_2 hts) (kX6_init_3 hts) rfl (by rw [hml]; exact hl.1) rfl dX6_init_1 (Nat.le_of_ble_eq_true rfl) (Nat.le_of_ble_eq_true rfl) ?_
  refine W.eq (g2 := F0 m 4 ls []) rfl ?_
  refine lv_aload_n hx hb dX6_init_4 rfl (lv_at hl 0 rfl) ?_
  refine lv_iload_n hx hb dX6_init_5 rfl (lv_at hl 2 rfl) ?_
  refine va_putF (D := (dC, dI)) (ci := 6) (v := .int 4) (ty := .int) (C := RX6) (T := TX6) (N := 3) hx hb hts iX6_init_X6 tyX6 tyX6_ok nmX6 hown hK.1 hP hD hS 0 rfl rfl 0 (by decide) (kX6_init_4 hts) (fun _ h9 => h9) rfl hin rfl (by decide +kernel) rfl rfl (Nat.le_of_ble_eq_true rfl) dX6_init_6 (fun H locs hP hD hS => ?_)
  have hP : va_P (dC, dI) vwCl [(a0, .inr (6, [.int 4, .null, .int 0]))] H := hP
  have hD : va_D A [(a0, .inr (6, [.int 4, .null, .int 0]))] := hD
  refine lv_aload_n hx hb dX6_init_9 rfl (lv_at hl 0 rfl) ?_
  refine lv_iconst (v := 0) hx hb dX6_init_10 (by decide) ?_
  refine lv_iload_n hx hb dX6_init_11 rfl (lv_at hl 1 rfl) ?_
  refine lv_iload_n hx hb dX6_init_12 rfl (lv_at hl 2 rfl) ?_
  refine lv_imul hx hb dX6_init_13 ?_
  refine zi 24 (by decide) ?_
  refine va_mmax hx hb (by rw [hml]; exact hl.1.symm) hown (kX6_init_5 hts) (kX6_init_6 hts) (kX6_init_7 hts) (kX6_init_8 hts) (Nat.le_of_ble_eq_true rfl) (Nat.le_of_ble_eq_true rfl) (Nat.le_of_ble_eq_true rfl) (Nat.le_of_ble_eq_true rfl) dX6_init_14 ?_
  refine zi 24 (by decide) ?_
  refine z_newi hx hb (kX6_init_9 hts) hK hP hD hS hA 24 (by decide) (by decide) (by decide) (Nat.le_of_ble_eq_true rfl) (Nat.le_of_ble_eq_true rfl) dX6_init_17 (fun q1 H hP hD hS => ?_)
  refine W.widen (k := 1) (n := 24) (Nat.le_of_ble_eq_true rfl) (Nat.le_of_ble_eq_true rfl) ?_
  have hP : va_P (dC, dI) vwCl [(a0, .inr (6, [.int 4, .null, .int 0])), (q1, .inl (kA 0, 24, .inl (fun _ => 0)))] H := hP
  have hD : va_D A [(a0, .inr (6, [.int 4, .null, .int 0])), (q1, .inl (kA 0, 24, .inl (fun _ => 0)))] := hD
  refine va_putF (D := (dC, dI)) (ci := 6) (v := .ref q1) (ty := .array (.int)) (C := RX6) (T := TX6) (N := 3) hx hb hts iX6_init_X6 tyX6 tyX6_ok nmX6 hown hK.1 hP hD hS 0 rfl rfl 1 (by decide) (kX6_init_10 hts) (fun _ h9 => h9) rfl hin rfl (by decide +kernel) rfl rfl (Nat.le_of_ble_eq_true rfl) dX6_init_19 (fun H locs hP hD hS => ?_)
  have hP : va_P (dC, dI) vwCl [(a0, .inr (6, [.int 4, .ref q1, .int 0])), (q1, .inl (kA 0, 24, .inl (fun _ => 0)))] H := hP
  have hD : va_D A [(a0, .inr (6, [.int 4, .ref q1, .int 0])), (q1, .inl (kA 0, 24, .inl (fun _ => 0)))] := hD
  have hP9 := hP.sub (ws' := [(a0, .inr (6, [.int 4, .ref q1, .int 0])), (q1, .inl (kA 0, 24, .inl (fun _ => 0)))]) [0, 1] rfl
  have hD9 := hD.sub (ws' := [(a0, .inr (6, [.int 4, .ref q1, .int 0])), (q1, .inl (kA 0, 24, .inl (fun _ => 0)))]) [0, 1] (by decide) rfl
  refine W.widen (k := 1) (n := 24) (Nat.le_of_ble_eq_true rfl) (Nat.le_of_ble_eq_true rfl) ?_
  exact W.vret hx hb hr (fun t ht hW => ⟨⟨(q1), rfl, trivial, by rw [ht]; exact hP9, hD9⟩, hS.F ht⟩) hS.2.2 dX6_init_22
set_option maxHeartbeats 4000000 in
set_option maxRecDepth 100000 in
theorem mX6_init_8_3 (l : Launch) (dC : Nat → ClassId) (dI : Nat → Nat → Nat) (kA : Nat → ClassId) (sz : Nat) (a0 : Nat)  : Met l yX6_init wsX6_init ({ frames := 1, cells := 1, slots := 24, locals := 14 }) (zPc dC dI kA sz [.ref a0, .int 8, .int 3] [(a0, .inr (6, [.int 0, .null, .int 0]))]) (va_Qv (fun (u : Nat) => True) (zB dC dI (va_A [(a0, .inr (6, [.int 0, .null, .int 0]))] sz) (fun (u : Nat) => [(a0, .inr (6, [.int 3, .ref u, .int 0])), (u, .inl (kA 0, 24, .inl (fun _ => 0)))])) (va_A [(a0, .inr (6, [.int 0, .null, .int 0]))] sz)) 1 24 (va_A [(a0, .inr (6, [.int 0, .null, .int 0]))] sz) := by
  refine Met.ofW (cc := cX6_init) (maxL := 3) (ret := none) (by decide) rfl ?_
  intro p e s m args below meth c s₁ B hml hv
  obtain ⟨rfl, hsz, hP, hK, hD0⟩ := hv
  have hx := B.exec
  have hb := B.bytes
  have hr := B.returns
  have hts := atoms_spec (ws := wsX6_init) B.pre
  have hown : s.vm.findClass RX6 = some m.cls := findClass_of_methodNamed B.named
  have hlocks := B.notSynchronized
  have hin : meth.name = "<init>" := (name_of_methodNamed B.named B.method).1
  subst hsz
  have hD := hD0.self (sz := s.heap.size)
  generalize hAe : va_A [(a0, .inr (6, [.int 0, .null, .int 0]))] s.heap.size = A at hD ⊢
  have hA : ∀ q : Nat, s.heap.size ≤ q → A q := fun q h => by rw [← hAe]; exact Or.inr h
  have hS : va_S A s.heap s.heap [] := va_S.rf
  have hP : va_P (dC, dI) vwCl [(a0, .inr (6, [.int 0, .null, .int 0]))] s.heap := hP
  have hl := lv_entry ([.ref a0, .int 8, .int 3]) (n := 3) (Nat.le_of_ble_eq_true rfl)
  rw [lg_entry_eq]
  generalize (lg_sl ([.ref a0, .int 8, .int 3]) ++ List.replicate (3 - (lg_sl ([.ref a0, .int 8, .int 3])).length) Slot.unset).toArray = ls at hl ⊢
  have hl : lv_has ls 3 [(0, .ref a0), (1, .int 8), (2, .int 3)] := hl
  refine lv_aload_n hx hb dX6_init_0 rfl (lv_at hl 0 rfl) ?_
  refine W.objInit hx hb hown (kX6_init_1 hts) (kX6_init_2 hts) (kX6_init_3 hts) rfl (by rw [hml]; exact hl.1) rfl dX6_init_1 (Nat.le_of_ble_eq_true rfl) (Nat.le_of_ble_eq_true rfl) ?_
  refine W.eq (g2 := F0 m 4 ls []) rfl ?_
  refine lv_aload_n hx hb dX6_init_4 rfl (lv_at hl 0 rfl) ?_
  refine lv_iload_n hx hb dX6_init_5 rfl (lv_at hl 2 rfl) ?_
  refine va_putF (D := (dC, dI)) (ci := 6) (v := .int 3) (ty := .int) (C := RX6) (T := TX6) (N := 3) hx hb hts iX6_init_X6 tyX6 tyX6_ok nmX6 hown hK.1 hP hD hS 0 rfl rfl 0 (by decide) (kX6_init_4 hts) (fun _ h9 => h9) rfl hin rfl (by decide +kernel) rfl rfl (Nat.le_of_ble_eq_true rfl) dX6_init_6 (fun H locs hP hD hS => ?_)
  have hP : va_P (dC, dI) vwCl [(a0, .inr (6, [.int 3, .null, .int 0]))] H := hP
  have hD : va_D A [(a0, .inr (6, [.int 3, .null, .int 0]))] := hD
  refine lv_aload_n hx hb dX6_init_9 rfl (lv_at hl 0 rfl) ?_
  refine lv_iconst (v := 0) hx hb dX6_init_10 (by decide) ?_
  refine lv_iload_n hx hb dX6_init_11 rfl (lv_at hl 1 rfl) ?_
  refine lv_iload_n hx hb dX6_init_12 rfl (lv_at hl 2 rfl) ?_
  refine lv_imul hx hb dX6_init_13 ?_
  refine zi 24 (by decide) ?_
  refine va_mmax hx hb (by rw [hml]; exact hl.1.symm) hown (kX6_init_5 hts) (kX6_init_6 hts) (kX6_init_7 hts) (kX6_init_8 hts) (Nat.le_of_ble_eq_true rfl) (Nat.le_of_ble_eq_true rfl) (Nat.le_of_ble_eq_true rfl) (Nat.le_of_ble_eq_true rfl) dX6_init_14 ?_
  refine zi 24 (by decide) ?_
  refine z_newi hx hb (kX6_init_9 hts) hK hP hD hS hA 24 (by decide) (by decide) (by decide) (Nat.le_of_ble_eq_true rfl) (Nat.le_of_ble_eq_true rfl) dX6_init_17 (fun q1 H hP hD hS => ?_)
  refine W.widen (k := 1) (n := 24) (Nat.le_of_ble_eq_true rfl) (Nat.le_of_ble_eq_true rfl) ?_
  have hP : va_P (dC, dI) vwCl [(a0, .inr (6, [.int 3, .null, .int 0])), (q1, .inl (kA 0, 24, .inl (fun _ => 0)))] H := hP
  have hD : va_D A [(a0, .inr (6, [.int 3, .null, .int 0])), (q1, .inl (kA 0, 24, .inl (fun _ => 0)))] := hD
  refine va_putF (D := (dC, dI)) (ci := 6) (v := .ref q1) (ty := .array (.int)) (C := RX6) (T := TX6) (N := 3) hx hb hts iX6_init_X6 tyX6 tyX6_ok nmX6 hown hK.1 hP hD hS 0 rfl rfl 1 (by decide) (kX6_init_10 hts) (fun _ h9 => h9) rfl hin rfl (by decide +kernel) rfl rfl (Nat.le_of_ble_eq_true rfl) dX6_init_19 (fun H locs hP hD hS => ?_)
  have hP : va_P (dC, dI) vwCl [(a0, .inr (6, [.int 3, .ref q1, .int 0])), (q1, .inl (kA 0, 24, .inl (fun _ => 0)))] H := hP
  have hD : va_D A [(a0, .inr (6, [.int 3, .ref q1, .int 0])), (q1, .inl (kA 0, 24, .inl (fun _ => 0)))] := hD
  have hP9 := hP.sub (ws' := [(a0, .inr (6, [.int 3, .ref q1, .int 0])), (q1, .inl (kA 0, 24, .inl (fun _ => 0)))]) [0, 1] rfl
  have hD9 := hD.sub (ws' := [(a0, .inr (6, [.int 3, .ref q1, .int 0])), (q1, .inl (kA 0, 24, .inl (fun _ => 0)))]) [0, 1] (by decide) rfl
  refine W.widen (k := 1) (n := 24) (Nat.le_of_ble_eq_true rfl) (Nat.le_of_ble_eq_true rfl) ?_
  exact W.vret hx hb hr (fun t ht hW => ⟨⟨(q1), rfl, trivial, by rw [ht]; exact hP9, hD9⟩, hS.F ht⟩) hS.2.2 dX6_init_22
set_option maxHeartbeats 4000000 in
set_option maxRecDepth 100000 in
theorem mX6_init_6_1 (l : Launch) (dC : Nat → ClassId) (dI : Nat → Nat → Nat) (kA : Nat → ClassId) (sz : Nat) (a0 : Nat)  : Met l yX6_init wsX6_init ({ frames := 1, cells := 1, slots := 6, locals := 14 }) (zPc dC dI kA sz [.ref a0, .int 6, .int 1] [(a0, .inr (6, [.int 0, .null, .int 0]))]) (va_Qv (fun (u : Nat) => True) (zB dC dI (va_A [(a0, .inr (6, [.int 0, .null, .int 0]))] sz) (fun (u : Nat) => [(a0, .inr (6, [.int 1, .ref u, .int 0])), (u, .inl (kA 0, 6, .inl (fun _ => 0)))])) (va_A [(a0, .inr (6, [.int 0, .null, .int 0]))] sz)) 1 6 (va_A [(a0, .inr (6, [.int 0, .null, .int 0]))] sz) := by
  refine Met.ofW (cc := cX6_init) (maxL := 3) (ret := none) (by decide) rfl ?_
  intro p e s m args below meth c s₁ B hml hv
  obtain ⟨rfl, hsz, hP, hK, hD0⟩ := hv
  have hx := B.exec
  have hb := B.bytes
  have hr := B.returns
  have hts := atoms_spec (ws := wsX6_init) B.pre
  have hown : s.vm.findClass RX6 = some m.cls := findClass_of_methodNamed B.named
  have hlocks := B.notSynchronized
  have hin : meth.name = "<init>" := (name_of_methodNamed B.named B.method).1
  subst hsz
  have hD := hD0.self (sz := s.heap.size)
  generalize hAe : va_A [(a0, .inr (6, [.int 0, .null, .int 0]))] s.heap.size = A at hD ⊢
  have hA : ∀ q : Nat, s.heap.size ≤ q → A q := fun q h => by rw [← hAe]; exact Or.inr h
  have hS : va_S A s.heap s.heap [] := va_S.rf
  have hP : va_P (dC, dI) vwCl [(a0, .inr (6, [.int 0, .null, .int 0]))] s.heap := hP
  have hl := lv_entry ([.ref a0, .int 6, .int 1]) (n := 3) (Nat.le_of_ble_eq_true rfl)
  rw [lg_entry_eq]
  generalize (lg_sl ([.ref a0, .int 6, .int 1]) ++ List.replicate (3 - (lg_sl ([.ref a0, .int 6, .int 1])).length) Slot.unset).toArray = ls at hl ⊢
  have hl : lv_has ls 3 [(0, .ref a0), (1, .int 6), (2, .int 1)] := hl
  refine lv_aload_n hx hb dX6_init_0 rfl (lv_at hl 0 rfl) ?_
  refine W.objInit hx hb hown (kX6_init_1 hts) (kX6_init_2 hts) (kX6_init_3 hts) rfl (by rw [hml]; exact hl.1) rfl dX6_init_1 (Nat.le_of_ble_eq_true rfl) (Nat.le_of_ble_eq_true rfl) ?_
  refine W.eq (g2 := F0 m 4 ls []) rfl ?_
  refine lv_aload_n hx hb dX6_init_4 rfl (lv_at hl 0 rfl) ?_
  refine lv_iload_n hx hb dX6_init_5 rfl (lv_at hl 2 rfl) ?_
  refine va_putF (D := (dC, dI)) (ci := 6) (v := .int 1) (ty := .int) (C := RX6) (T := TX6) (N := 3) hx hb hts iX6_init_X6 tyX6 tyX6_ok nmX6 hown hK.1 hP hD hS 0 rfl rfl 0 (by decide) (kX6_init_4 hts) (fun _ h9 => h9) rfl hin rfl (by decide +kernel) rfl rfl (Nat.le_of_ble_eq_true rfl) dX6_init_6 (fun H locs hP hD hS => ?_)
  have hP : va_P (dC, dI) vwCl [(a0, .inr (6, [.int 1, .null, .int 0]))] H := hP
  have hD : va_D A [(a0, .inr (6, [.int 1, .null, .int 0]))] := hD
  refine lv_aload_n hx hb dX6_init_9 rfl (lv_at hl 0 rfl) ?_
  refine lv_iconst (v := 0) hx hb dX6_init_10 (by decide) ?_
  refine lv_iload_n hx hb dX6_init_11 rfl (lv_at hl 1 rfl) ?_
  refine lv_iload_n hx hb dX6_init_12 rfl (lv_at hl 2 rfl) ?_
  refine lv_imul hx hb dX6_init_13 ?_
  refine zi 6 (by decide) ?_
  refine va_mmax hx hb (by rw [hml]; exact hl.1.symm) hown (kX6_init_5 hts) (kX6_init_6 hts) (kX6_init_7 hts) (kX6_init_8 hts) (Nat.le_of_ble_eq_true rfl) (Nat.le_of_ble_eq_true rfl) (Nat.le_of_ble_eq_true rfl) (Nat.le_of_ble_eq_true rfl) dX6_init_14 ?_
  refine zi 6 (by decide) ?_
  refine z_newi hx hb (kX6_init_9 hts) hK hP hD hS hA 6 (by decide) (by decide) (by decide) (Nat.le_of_ble_eq_true rfl) (Nat.le_of_ble_eq_true rfl) dX6_init_17 (fun q1 H hP hD hS => ?_)
  refine W.widen (k := 1) (n := 6) (Nat.le_of_ble_eq_true rfl) (Nat.le_of_ble_eq_true rfl) ?_
  have hP : va_P (dC, dI) vwCl [(a0, .inr (6, [.int 1, .null, .int 0])), (q1, .inl (kA 0, 6, .inl (fun _ => 0)))] H := hP
  have hD : va_D A [(a0, .inr (6, [.int 1, .null, .int 0])), (q1, .inl (kA 0, 6, .inl (fun _ => 0)))] := hD
  refine va_putF (D := (dC, dI)) (ci := 6) (v := .ref q1) (ty := .array (.int)) (C := RX6) (T := TX6) (N := 3) hx hb hts iX6_init_X6 tyX6 tyX6_ok nmX6 hown hK.1 hP hD hS 0 rfl rfl 1 (by decide) (kX6_init_10 hts) (fun _ h9 => h9) rfl hin rfl (by decide +kernel) rfl rfl (Nat.le_of_ble_eq_true rfl) dX6_init_19 (fun H locs hP hD hS => ?_)
  have hP : va_P (dC, dI) vwCl [(a0, .inr (6, [.int 1, .ref q1, .int 0])), (q1, .inl (kA 0, 6, .inl (fun _ => 0)))] H := hP
  have hD : va_D A [(a0, .inr (6, [.int 1, .ref q1, .int 0])), (q1, .inl (kA 0, 6, .inl (fun _ => 0)))] := hD
  have hP9 := hP.sub (ws' := [(a0, .inr (6, [.int 1, .ref q1, .int 0])), (q1, .inl (kA 0, 6, .inl (fun _ => 0)))]) [0, 1] rfl
  have hD9 := hD.sub (ws' := [(a0, .inr (6, [.int 1, .ref q1, .int 0])), (q1, .inl (kA 0, 6, .inl (fun _ => 0)))]) [0, 1] (by decide) rfl
  refine W.widen (k := 1) (n := 6) (Nat.le_of_ble_eq_true rfl) (Nat.le_of_ble_eq_true rfl) ?_
  exact W.vret hx hb hr (fun t ht hW => ⟨⟨(q1), rfl, trivial, by rw [ht]; exact hP9, hD9⟩, hS.F ht⟩) hS.2.2 dX6_init_22
set_option maxHeartbeats 4000000 in
set_option maxRecDepth 100000 in
theorem mX9_init (l : Launch) (dC : Nat → ClassId) (dI : Nat → Nat → Nat) (kA : Nat → ClassId) (sz : Nat) (a0 : Nat)  : Met l yX9_init wsX9_init ({ frames := 2, cells := 12, slots := 364, locals := 36 }) (zPc dC dI kA sz [.ref a0] [(a0, .inr (9, [.null, .null, .null, .null, .null, .null, .int 0, .int 0, .int 0, .int 0]))]) (va_Qv (fun (u : Nat × Nat × Nat × Nat × Nat × Nat × Nat × Nat × Nat × Nat × Nat × Nat) => True) (zB dC dI (va_A [(a0, .inr (9, [.null, .null, .null, .null, .null, .null, .int 0, .int 0, .int 0, .int 0]))] sz) (fun (u : Nat × Nat × Nat × Nat × Nat × Nat × Nat × Nat × Nat × Nat × Nat × Nat) => [(a0, .inr (9, [.ref u.1, .ref u.2.2.1, .ref u.2.2.2.2.1, .ref u.2.2.2.2.2.2.1, .ref u.2.2.2.2.2.2.2.2.1, .ref u.2.2.2.2.2.2.2.2.2.2.1, .int (-1), .int 0, .int 0, .int 0])), (u.1, .inr (6, [.int 4, .ref u.2.1, .int 0])), (u.2.1, .inl (kA 0, 48, .inl (fun _ => 0))), (u.2.2.1, .inr (6, [.int 5, .ref u.2.2.2.1, .int 0])), (u.2.2.2.1, .inl (kA 0, 100, .inl (fun _ => 0))), (u.2.2.2.2.1, .inr (6, [.int 9, .ref u.2.2.2.2.2.1, .int 0])), (u.2.2.2.2.2.1, .inl (kA 0, 144, .inl (fun _ => 0))), (u.2.2.2.2.2.2.1, .inr (6, [.int 4, .ref u.2.2.2.2.2.2.2.1, .int 0])), (u.2.2.2.2.2.2.2.1, .inl (kA 0, 24, .inl (fun _ => 0))), (u.2.2.2.2.2.2.2.2.1, .inr (6, [.int 3, .ref u.2.2.2.2.2.2.2.2.2.1, .int 0])), (u.2.2.2.2.2.2.2.2.2.1, .inl (kA 0, 24, .inl (fun _ => 0))), (u.2.2.2.2.2.2.2.2.2.2.1, .inr (6, [.int 1, .ref u.2.2.2.2.2.2.2.2.2.2.2, .int 0])), (u.2.2.2.2.2.2.2.2.2.2.2, .inl (kA 0, 6, .inl (fun _ => 0)))])) (va_A [(a0, .inr (9, [.null, .null, .null, .null, .null, .null, .int 0, .int 0, .int 0, .int 0]))] sz)) 12 364 (va_A [(a0, .inr (9, [.null, .null, .null, .null, .null, .null, .int 0, .int 0, .int 0, .int 0]))] sz) := by
  refine Met.ofW (cc := cX9_init) (maxL := 1) (ret := none) (by decide) rfl ?_
  intro p e s m args below meth c s₁ B hml hv
  obtain ⟨rfl, hsz, hP, hK, hD0⟩ := hv
  have hx := B.exec
  have hb := B.bytes
  have hr := B.returns
  have hts := atoms_spec (ws := wsX9_init) B.pre
  have hown : s.vm.findClass RX9 = some m.cls := findClass_of_methodNamed B.named
  have hlocks := B.notSynchronized
  have hin : meth.name = "<init>" := (name_of_methodNamed B.named B.method).1
  subst hsz
  have hD := hD0.self (sz := s.heap.size)
  generalize hAe : va_A [(a0, .inr (9, [.null, .null, .null, .null, .null, .null, .int 0, .int 0, .int 0, .int 0]))] s.heap.size = A at hD ⊢
  have hA : ∀ q : Nat, s.heap.size ≤ q → A q := fun q h => by rw [← hAe]; exact Or.inr h
  have hS : va_S A s.heap s.heap [] := va_S.rf
  have hP : va_P (dC, dI) vwCl [(a0, .inr (9, [.null, .null, .null, .null, .null, .null, .int 0, .int 0, .int 0, .int 0]))] s.heap := hP
  have hl := lv_entry ([.ref a0]) (n := 1) (Nat.le_of_ble_eq_true rfl)
  rw [lg_entry_eq]
  generalize (lg_sl ([.ref a0]) ++ List.replicate (1 - (lg_sl ([.ref a0])).length) Slot.unset).toArray = ls at hl ⊢
  have hl : lv_has ls 1 [(0, .ref a0)] := hl
  refine lv_aload_n hx hb dX9_init_0 rfl (lv_at hl 0 rfl) ?_
  refine W.objInit hx hb hown (kX9_init_1 hts) (kX9_init_2 hts) (kX9_init_3 hts) rfl (by rw [hml]; exact hl.1) rfl dX9_init_1 (Nat.le_of_ble_eq_true rfl) (Nat.le_of_ble_eq_true rfl) ?_
  refine W.eq (g2 := F0 m 4 ls []) rfl ?_
  refine lv_aload_n hx hb dX9_init_4 rfl (lv_at hl 0 rfl) ?_
  refine va_new (ci := 6) (fs := [.int 0, .null, .int 0]) (C := RX6) (T := TX6) (N := 3) hx hb hts iX9_init_X6 tyX6 tyX6_ok hown (kX9_init_4 hts) (kX9_init_5 hts) (kX9_init_6 hts) hK.1 hP hD hS hA rfl fsX6 (Nat.le_of_ble_eq_true rfl) (Nat.le_of_ble_eq_true rfl) dX9_init_5 (fun q1 H hP hD hS => ?_)
  refine W.widen (k := 1) (n := 3) (Nat.le_of_ble_eq_true rfl) (Nat.le_of_ble_eq_true rfl) ?_
  have hP : va_P (dC, dI) vwCl [(a0, .inr (9, [.null, .null, .null, .null, .null, .null, .int 0, .int 0, .int 0, .int 0])), (q1, .inr (6, [.int 0, .null, .int 0]))] H := hP
  have hD : va_D A [(a0, .inr (9, [.null, .null, .null, .null, .null, .null, .int 0, .int 0, .int 0, .int 0])), (q1, .inr (6, [.int 0, .null, .int 0]))] := hD
  refine lv_dup hx hb dX9_init_8 rfl ?_
  refine lv_bipush (v := 12) hx hb dX9_init_9 (by decide) ?_
  refine lv_iconst (v := 4) hx hb dX9_init_11 (by decide) ?_
  refine z_v (wr := [(a0, .inr (9, [.null, .null, .null, .null, .null, .null, .int 0, .int 0, .int 0, .int 0]))]) (va_runI (As := [.int 12, .int 4]) (rest := [.ref q1, .ref a0]) ⟨hx, hb, hml, hown, hts⟩ (mX6_init_12_4 l dC dI kA _ q1) (cwI 2 hts gX9_init_X6_init rfl rfl rfl (kX9_init_6 hts) (kX9_init_14 hts) (kX9_init_15 hts) rfl (by decide +kernel) ⟨(Nat.le_of_ble_eq_true rfl), (Nat.le_of_ble_eq_true rfl)⟩) ⟨zPc.blind, zPre hK (hP.sub [1] rfl) (hD.sub [1] (by decide) rfl)⟩ rfl rfl hl.1 rfl (lv_room (Nat.le_of_ble_eq_true rfl)) dX9_init_12 ⟨(Nat.le_of_ble_eq_true rfl), (Nat.le_of_ble_eq_true rfl)⟩) hP hD hS hA [1] [0] rfl rfl (by decide) (by decide) (fun u2 H locs hw3 hP hD hS => ?_)
  obtain ⟨q_5, rfl⟩ : ∃ z, z = u2 := ⟨_, rfl⟩
  refine W.widen (k := 2) (n := 51) (Nat.le_of_ble_eq_true rfl) (Nat.le_of_ble_eq_true rfl) ?_
  have hP : va_P (dC, dI) vwCl [(a0, .inr (9, [.null, .null, .null, .null, .null, .null, .int 0, .int 0, .int 0, .int 0])), (q1, .inr (6, [.int 4, .ref q_5, .int 0])), (q_5, .inl (kA 0, 48, .inl (fun _ => 0)))] H := hP
  have hD : va_D A [(a0, .inr (9, [.null, .null, .null, .null, .null, .null, .int 0, .int 0, .int 0, .int 0])), (q1, .inr (6, [.int 4, .ref q_5, .int 0])), (q_5, .inl (kA 0, 48, .inl (fun _ => 0)))] := hD
  refine va_putF (D := (dC, dI)) (ci := 9) (v := .ref q1) (ty := .object "SnowMules$Table") (C := RX9) (T := TX9) (N := 10) hx hb hts iX9_init_X9 tyX9 tyX9_ok nmX9 hown hK.1 hP hD hS 0 rfl rfl 0 (by decide) (kX9_init_7 hts) (fun _ h9 => h9) rfl hin rfl (by decide +kernel) rfl rfl (Nat.le_of_ble_eq_true rfl) dX9_init_15 (fun H locs hP hD hS => ?_)
  have hP : va_P (dC, dI) vwCl [(a0, .inr (9, [.ref q1, .null, .null, .null, .null, .null, .int 0, .int 0, .int 0, .int 0])), (q1, .inr (6, [.int 4, .ref q_5, .int 0])), (q_5, .inl (kA 0, 48, .inl (fun _ => 0)))] H := hP
  have hD : va_D A [(a0, .inr (9, [.ref q1, .null, .null, .null, .null, .null, .int 0, .int 0, .int 0, .int 0])), (q1, .inr (6, [.int 4, .ref q_5, .int 0])), (q_5, .inl (kA 0, 48, .inl (fun _ => 0)))] := hD
  refine lv_aload_n hx hb dX9_init_18 rfl (lv_at hl 0 rfl) ?_
  refine va_new (ci := 6) (fs := [.int 0, .null, .int 0]) (C := RX6) (T := TX6) (N := 3) hx hb hts iX9_init_X6 tyX6 tyX6_ok hown (kX9_init_4 hts) (kX9_init_5 hts) (kX9_init_6 hts) hK.1 hP hD hS hA rfl fsX6 (Nat.le_of_ble_eq_true rfl) (Nat.le_of_ble_eq_true rfl) dX9_init_19 (fun q6 H hP hD hS => ?_)
  refine W.widen (k := 3) (n := 54) (Nat.le_of_ble_eq_true rfl) (Nat.le_of_ble_eq_true rfl) ?_
  have hP : va_P (dC, dI) vwCl [(a0, .inr (9, [.ref q1, .null, .null, .null, .null, .null, .int 0, .int 0, .int 0, .int 0])), (q1, .inr (6, [.int 4, .ref q_5, .int 0])), (q_5, .inl (kA 0, 48, .inl (fun _ => 0))), (q6, .inr (6, [.int 0, .null, .int 0]))] H := hP
  have hD : va_D A [(a0, .inr (9, [.ref q1, .null, .null, .null, .null, .null, .int 0, .int 0, .int 0, .int 0])), (q1, .inr (6, [.int 4, .ref q_5, .int 0])), (q_5, .inl (kA 0, 48, .inl (fun _ => 0))), (q6, .inr (6, [.int 0, .null, .int 0]))] := hD
  refine lv_dup hx hb dX9_init_22 rfl ?_
  refine lv_bipush (v := 20) hx hb dX9_init_23 (by decide) ?_
  refine lv_iconst (v := 5) hx hb dX9_init_25 (by decide) ?_
  refine z_v (wr := [(a0, .inr (9, [.ref q1, .null, .null, .null, .null, .null, .int 0, .int 0, .int 0, .int 0])), (q1, .inr (6, [.int 4, .ref q_5, .int 0])), (q_5, .inl (kA 0, 48, .inl (fun _ => 0)))]) (va_runI (As := [.int 20, .int 5]) (rest := [.ref q6, .ref a0]) ⟨hx, hb, hml, hown, hts⟩ (mX6_init_20_5 l dC dI kA _ q6) (cwI 2 hts gX9_init_X6_init rfl rfl rfl (kX9_init_6 hts) (kX9_init_14 hts) (kX9_init_15 hts) rfl (by decide +kernel) ⟨(Nat.le_of_ble_eq_true rfl), (Nat.le_of_ble_eq_true rfl)⟩) ⟨zPc.blind, zPre hK (hP.sub [3] rfl) (hD.sub [3] (by decide) rfl)⟩ rfl rfl hl.1 rfl (lv_room (Nat.le_of_ble_eq_true rfl)) dX9_init_26 ⟨(Nat.le_of_ble_eq_true rfl), (Nat.le_of_ble_eq_true rfl)⟩) hP hD hS hA [3] [0, 1, 2] rfl rfl (by decide) (by decide) (fun u7 H locs hw8 hP hD hS => ?_)
  obtain ⟨q_10, rfl⟩ : ∃ z, z = u7 := ⟨_, rfl⟩
  refine W.widen (k := 4) (n := 154) (Nat.le_of_ble_eq_true rfl) (Nat.le_of_ble_eq_true rfl) ?_
  have hP : va_P (dC, dI) vwCl [(a0, .inr (9, [.ref q1, .null, .null, .null, .null, .null, .int 0, .int 0, .int 0, .int 0])), (q1, .inr (6, [.int 4, .ref q_5, .int 0])), (q_5, .inl (kA 0, 48, .inl (fun _ => 0))), (q6, .inr (6, [.int 5, .ref q_10, .int 0])), (q_10, .inl (kA 0, 100, .inl (fun _ => 0)))] H := hP
  have hD : va_D A [(a0, .inr (9, [.ref q1, .null, .null, .null, .null, .null, .int 0, .int 0, .int 0, .int 0])), (q1, .inr (6, [.int 4, .ref q_5, .int 0])), (q_5, .inl (kA 0, 48, .inl (fun _ => 0))), (q6, .inr (6, [.int 5, .ref q_10, .int 0])), (q_10, .inl (kA 0, 100, .inl (fun _ => 0)))] := hD
  refine va_putF (D := (dC, dI)) (ci := 9) (v := .ref q6) (ty := .object "SnowMules$Table") (C := RX9) (T := TX9) (N := 10) hx hb hts iX9_init_X9 tyX9 tyX9_ok nmX9 hown hK.1 hP hD hS 0 rfl rfl 1 (by decide) (kX9_init_8 hts) (fun _ h9 => h9) rfl hin rfl (by decide +kernel) rfl rfl (Nat.le_of_ble_eq_true rfl) dX9_init_29 (fun H locs hP hD hS => ?_)
  have hP : va_P (dC, dI) vwCl [(a0, .inr (9, [.ref q1, .ref q6, .null, .null, .null, .null, .int 0, .int 0, .int 0, .int 0])), (q1, .inr (6, [.int 4, .ref q_5, .int 0])), (q_5, .inl (kA 0, 48, .inl (fun _ => 0))), (q6, .inr (6, [.int 5, .ref q_10, .int 0])), (q_10, .inl (kA 0, 100, .inl (fun _ => 0)))] H := hP
  have hD : va_D A [(a0, .inr (9, [.ref q1, .ref q6, .null, .null, .null, .null, .int 0, .int 0, .int 0, .int 0])), (q1, .inr (6, [.int 4, .ref q_5, .int 0])), (q_5, .inl (kA 0, 48, .inl (fun _ => 0))), (q6, .inr (6, [.int 5, .ref q_10, .int 0])), (q_10, .inl (kA 0, 100, .inl (fun _ => 0)))] := hD
  refine lv_aload_n hx hb dX9_init_32 rfl (lv_at hl 0 rfl) ?_
  refine va_new (ci := 6) (fs := [.int 0, .null, .int 0]) (C := RX6) (T := TX6) (N := 3) hx hb hts iX9_init_X6 tyX6 tyX6_ok hown (kX9_init_4 hts) (kX9_init_5 hts) (kX9_init_6 hts) hK.1 hP hD hS hA rfl fsX6 (Nat.le_of_ble_eq_true rfl) (Nat.le_of_ble_eq_true rfl) dX9_init_33 (fun q11 H hP hD hS => ?_)
  refine W.widen (k := 5) (n := 157) (Nat.le_of_ble_eq_true rfl) (Nat.le_of_ble_eq_true rfl) ?_
  have hP : va_P (dC, dI) vwCl [(a0, .inr (9, [.ref q1, .ref q6, .null, .null, .null, .null, .int 0, .int 0, .int 0, .int 0])), (q1, .inr (6, [.int 4, .ref q_5, .int 0])), (q_5, .inl (kA 0, 48, .inl (fun _ => 0))), (q6, .inr (6, [.int 5, .ref q_10, .int 0])), (q_10, .inl (kA 0, 100, .inl (fun _ => 0))), (q11, .inr (6, [.int 0, .null, .int 0]))] H := hP
  have hD : va_D A [(a0, .inr (9, [.ref q1, .ref q6, .null, .null, .null, .null, .int 0, .int 0, .int 0, .int 0])), (q1, .inr (6, [.int 4, .ref q_5, .int 0])), (q_5, .inl (kA 0, 48, .inl (fun _ => 0))), (q6, .inr (6, [.int 5, .ref q_10, .int 0])), (q_10, .inl (kA 0, 100, .inl (fun _ => 0))), (q11, .inr (6, [.int 0, .null, .int 0]))] := hD
  refine lv_dup hx hb dX9_init_36 rfl ?_
  refine lv_bipush (v := 16) hx hb dX9_init_37 (by decide) ?_
  refine lv_bipush (v := 9) hx hb dX9_init_39 (by decide) ?_
  refine z_v (wr := [(a0, .inr (9, [.ref q1, .ref q6, .null, .null, .null, .null, .int 0, .int 0, .int 0, .int 0])), (q1, .inr (6, [.int 4, .ref q_5, .int 0])), (q_5, .inl (kA 0, 48, .inl (fun _ => 0))), (q6, .inr (6, [.int 5, .ref q_10, .int 0])), (q_10, .inl (kA 0, 100, .inl (fun _ => 0)))]) (va_runI (As := [.int 16, .int 9]) (rest := [.ref q11, .ref a0]) ⟨hx, hb, hml, hown, hts⟩ (mX6_init_16_9 l dC dI kA _ q11) (cwI 2 hts gX9_init_X6_init rfl rfl rfl (kX9_init_6 hts) (kX9_init_14 hts) (kX9_init_15 hts) rfl (by decide +kernel) ⟨(Nat.le_of_ble_eq_true rfl), (Nat.le_of_ble_eq_true rfl)⟩) ⟨zPc.blind, zPre hK (hP.sub [5] rfl) (hD.sub [5] (by decide) rfl)⟩ rfl rfl hl.1 rfl (lv_room (Nat.le_of_ble_eq_true rfl)) dX9_init_41 ⟨(Nat.le_of_ble_eq_true rfl), (Nat.le_of_ble_eq_true rfl)⟩) hP hD hS hA [5] [0, 1, 2, 3, 4] rfl rfl (by decide) (by decide) (fun u12 H locs hw13 hP hD hS => ?_)
  obtain ⟨q_15, rfl⟩ : ∃ z, z = u12 := ⟨_, rfl⟩
  refine W.widen (k := 6) (n := 301) (Nat.le_of_ble_eq_true rfl) (Nat.le_of_ble_eq_true rfl) ?_
  have hP : va_P (dC, dI) vwCl [(a0, .inr (9, [.ref q1, .ref q6, .null, .null, .null, .null, .int 0, .int 0, .int 0, .int 0])), (q1, .inr (6, [.int 4, .ref q_5, .int 0])), (q_5, .inl (kA 0, 48, .inl (fun _ => 0))), (q6, .inr (6, [.int 5, .ref q_10, .int 0])), (q_10, .inl (kA 0, 100, .inl (fun _ => 0))), (q11, .inr (6, [.int 9, .ref q_15, .int 0])), (q_15, .inl (kA 0, 144, .inl (fun _ => 0)))] H := hP
  have hD : va_D A [(a0, .inr (9, [.ref q1, .ref q6, .null, .null, .null, .null, .int 0, .int 0, .int 0, .int 0])), (q1, .inr (6, [.int 4, .ref q_5, .int 0])), (q_5, .inl (kA 0, 48, .inl (fun _ => 0))), (q6, .inr (6, [.int 5, .ref q_10, .int 0])), (q_10, .inl (kA 0, 100, .inl (fun _ => 0))), (q11, .inr (6, [.int 9, .ref q_15, .int 0])), (q_15, .inl (kA 0, 144, .inl (fun _ => 0)))] := hD
  refine va_putF (D := (dC, dI)) (ci := 9) (v := .ref q11) (ty := .object "SnowMules$Table") (C := RX9) (T := TX9) (N := 10) hx hb hts iX9_init_X9 tyX9 tyX9_ok nmX9 hown hK.1 hP hD hS 0 rfl rfl 2 (by decide) (kX9_init_9 hts) (fun _ h9 => h9) rfl hin rfl (by decide +kernel) rfl rfl (Nat.le_of_ble_eq_true rfl) dX9_init_44 (fun H locs hP hD hS => ?_)
  have hP : va_P (dC, dI) vwCl [(a0, .inr (9, [.ref q1, .ref q6, .ref q11, .null, .null, .null, .int 0, .int 0, .int 0, .int 0])), (q1, .inr (6, [.int 4, .ref q_5, .int 0])), (q_5, .inl (kA 0, 48, .inl (fun _ => 0))), (q6, .inr (6, [.int 5, .ref q_10, .int 0])), (q_10, .inl (kA 0, 100, .inl (fun _ => 0))), (q11, .inr (6, [.int 9, .ref q_15, .int 0])), (q_15, .inl (kA 0, 144, .inl (fun _ => 0)))] H := hP
  have hD : va_D A [(a0, .inr (9, [.ref q1, .ref q6, .ref q11, .null, .null, .null, .int 0, .int 0, .int 0, .int 0])), (q1, .inr (6, [.int 4, .ref q_5, .int 0])), (q_5, .inl (kA 0, 48, .inl (fun _ => 0))), (q6, .inr (6, [.int 5, .ref q_10, .int 0])), (q_10, .inl (kA 0, 100, .inl (fun _ => 0))), (q11, .inr (6, [.int 9, .ref q_15, .int 0])), (q_15, .inl (kA 0, 144, .inl (fun _ => 0)))] := hD
  refine lv_aload_n hx hb dX9_init_47 rfl (lv_at hl 0 rfl) ?_
  refine va_new (ci := 6) (fs := [.int 0, .null, .int 0]) (C := RX6) (T := TX6) (N := 3) hx hb hts iX9_init_X6 tyX6 tyX6_ok hown (kX9_init_4 hts) (kX9_init_5 hts) (kX9_init_6 hts) hK.1 hP hD hS hA rfl fsX6 (Nat.le_of_ble_eq_true rfl) (Nat.le_of_ble_eq_true rfl) dX9_init_48 (fun q16 H hP hD hS => ?_)
  refine W.widen (k := 7) (n := 304) (Nat.le_of_ble_eq_true rfl) (Nat.le_of_ble_eq_true rfl) ?_
  have hP : va_P (dC, dI) vwCl [(a0, .inr (9, [.ref q1, .ref q6, .ref q11, .null, .null, .null, .int 0, .int 0, .int 0, .int 0])), (q1, .inr (6, [.int 4, .ref q_5, .int 0])), (q_5, .inl (kA 0, 48, .inl (fun _ => 0))), (q6, .inr (6, [.int 5, .ref q_10, .int 0])), (q_10, .inl (kA 0, 100, .inl (fun _ => 0))), (q11, .inr (6, [.int 9, .ref q_15, .int 0])), (q_15, .inl (kA 0, 144, .inl (fun _ => 0))), (q16, .inr (6, [.int 0, .null, .int 0]))] H := hP
  have hD : va_D A [(a0, .inr (9, [.ref q1, .ref q6, .ref q11, .null, .null, .null, .int 0, .int 0, .int 0, .int 0])), (q1, .inr (6, [.int 4, .ref q_5, .int 0])), (q_5, .inl (kA 0, 48, .inl (fun _ => 0))), (q6, .inr (6, [.int 5, .ref q_10, .int 0])), (q_10, .inl (kA 0, 100, .inl (fun _ => 0))), (q11, .inr (6, [.int 9, .ref q_15, .int 0])), (q_15, .inl (kA 0, 144, .inl (fun _ => 0))), (q16, .inr (6, [.int 0, .null, .int 0]))] := hD
  refine lv_dup hx hb dX9_init_51 rfl ?_
  refine lv_bipush (v := 6) hx hb dX9_init_52 (by decide) ?_
  refine lv_iconst (v := 4) hx hb dX9_init_54 (by decide) ?_
  refine z_v (wr := [(a0, .inr (9, [.ref q1, .ref q6, .ref q11, .null, .null, .null, .int 0, .int 0, .int 0, .int 0])), (q1, .inr (6, [.int 4, .ref q_5, .int 0])), (q_5, .inl (kA 0, 48, .inl (fun _ => 0))), (q6, .inr (6, [.int 5, .ref q_10, .int 0])), (q_10, .inl (kA 0, 100, .inl (fun _ => 0))), (q11, .inr (6, [.int 9, .ref q_15, .int 0])), (q_15, .inl (kA 0, 144, .inl (fun _ => 0)))]) (va_runI (As := [.int 6, .int 4]) (rest := [.ref q16, .ref a0]) ⟨hx, hb, hml, hown, hts⟩ (mX6_init_6_4 l dC dI kA _ q16) (cwI 2 hts gX9_init_X6_init rfl rfl rfl (kX9_init_6 hts) (kX9_init_14 hts) (kX9_init_15 hts) rfl (by decide +kernel) ⟨(Nat.le_of_ble_eq_true rfl), (Nat.le_of_ble_eq_true rfl)⟩) ⟨zPc.blind, zPre hK (hP.sub [7] rfl) (hD.sub [7] (by decide) rfl)⟩ rfl rfl hl.1 rfl (lv_room (Nat.le_of_ble_eq_true rfl)) dX9_init_55 ⟨(Nat.le_of_ble_eq_true rfl), (Nat.le_of_ble_eq_true rfl)⟩) hP hD hS hA [7] [0, 1, 2, 3, 4, 5, 6] rfl rfl (by decide) (by decide) (fun u17 H locs hw18 hP hD hS => ?_)
  obtain ⟨q_20, rfl⟩ : ∃ z, z = u17 := ⟨_, rfl⟩
  refine W.widen (k := 8) (n := 328) (Nat.le_of_ble_eq_true rfl) (Nat.le_of_ble_eq_true rfl) ?_
  have hP : va_P (dC, dI) vwCl [(a0, .inr (9, [.ref q1, .ref q6, .ref q11, .null, .null, .null, .int 0, .int 0, .int 0, .int 0])), (q1, .inr (6, [.int 4, .ref q_5, .int 0])), (q_5, .inl (kA 0, 48, .inl (fun _ => 0))), (q6, .inr (6, [.int 5, .ref q_10, .int 0])), (q_10, .inl (kA 0, 100, .inl (fun _ => 0))), (q11, .inr (6, [.int 9, .ref q_15, .int 0])), (q_15, .inl (kA 0, 144, .inl (fun _ => 0))), (q16, .inr (6, [.int 4, .ref q_20, .int 0])), (q_20, .inl (kA 0, 24, .inl (fun _ => 0)))] H := hP
  have hD : va_D A [(a0, .inr (9, [.ref q1, .ref q6, .ref q11, .null, .null, .null, .int 0, .int 0, .int 0, .int 0])), (q1, .inr (6, [.int 4, .ref q_5, .int 0])), (q_5, .inl (kA 0, 48, .inl (fun _ => 0))), (q6, .inr (6, [.int 5, .ref q_10, .int 0])), (q_10, .inl (kA 0, 100, .inl (fun _ => 0))), (q11, .inr (6, [.int 9, .ref q_15, .int 0])), (q_15, .inl (kA 0, 144, .inl (fun _ => 0))), (q16, .inr (6, [.int 4, .ref q_20, .int 0])), (q_20, .inl (kA 0, 24, .inl (fun _ => 0)))] := hD
  refine va_putF (D := (dC, dI)) (ci := 9) (v := .ref q16) (ty := .object "SnowMules$Table") (C := RX9) (T := TX9) (N := 10) hx hb hts iX9_init_X9 tyX9 tyX9_ok nmX9 hown hK.1 hP hD hS 0 rfl rfl 3 (by decide) (kX9_init_10 hts) (fun _ h9 => h9) rfl hin rfl (by decide +kernel) rfl rfl (Nat.le_of_ble_eq_true rfl) dX9_init_58 (fun H locs hP hD hS => ?_)
  have hP : va_P (dC, dI) vwCl [(a0, .inr (9, [.ref q1, .ref q6, .ref q11, .ref q16, .null, .null, .int 0, .int 0, .int 0, .int 0])), (q1, .inr (6, [.int 4, .ref q_5, .int 0])), (q_5, .inl (kA 0, 48, .inl (fun _ => 0))), (q6, .inr (6, [.int 5, .ref q_10, .int 0])), (q_10, .inl (kA 0, 100, .inl (fun _ => 0))), (q11, .inr (6, [.int 9, .ref q_15, .int 0])), (q_15, .inl (kA 0, 144, .inl (fun _ => 0))), (q16, .inr (6, [.int 4, .ref q_20, .int 0])), (q_20, .inl (kA 0, 24, .inl (fun _ => 0)))] H := hP
  have hD : va_D A [(a0, .inr (9, [.ref q1, .ref q6, .ref q11, .ref q16, .null, .null, .int 0, .int 0, .int 0, .int 0])), (q1, .inr (6, [.int 4, .ref q_5, .int 0])), (q_5, .inl (kA 0, 48, .inl (fun _ => 0))), (q6, .inr (6, [.int 5, .ref q_10, .int 0])), (q_10, .inl (kA 0, 100, .inl (fun _ => 0))), (q11, .inr (6, [.int 9, .ref q_15, .int 0])), (q_15, .inl (kA 0, 144, .inl (fun _ => 0))), (q16, .inr (6, [.int 4, .ref q_20, .int 0])), (q_20, .inl (kA 0, 24, .inl (fun _ => 0)))] := hD
  refine lv_aload_n hx hb dX9_init_61 rfl (lv_at hl 0 rfl) ?_
  refine va_new (ci := 6) (fs := [.int 0, .null, .int 0]) (C := RX6) (T := TX6) (N := 3) hx hb hts iX9_init_X6 tyX6 tyX6_ok hown (kX9_init_4 hts) (kX9_init_5 hts) (kX9_init_6 hts) hK.1 hP hD hS hA rfl fsX6 (Nat.le_of_ble_eq_true rfl) (Nat.le_of_ble_eq_true rfl) dX9_init_62 (fun q21 H hP hD hS => ?_)
  refine W.widen (k := 9) (n := 331) (Nat.le_of_ble_eq_true rfl) (Nat.le_of_ble_eq_true rfl) ?_
  have hP : va_P (dC, dI) vwCl [(a0, .inr (9, [.ref q1, .ref q6, .ref q11, .ref q16, .null, .null, .int 0, .int 0, .int 0, .int 0])), (q1, .inr (6, [.int 4, .ref q_5, .int 0])), (q_5, .inl (kA 0, 48, .inl (fun _ => 0))), (q6, .inr (6, [.int 5, .ref q_10, .int 0])), (q_10, .inl (kA 0, 100, .inl (fun _ => 0))), (q11, .inr (6, [.int 9, .ref q_15, .int 0])), (q_15, .inl (kA 0, 144, .inl (fun _ => 0))), (q16, .inr (6, [.int 4, .ref q_20, .int 0])), (q_20, .inl (kA 0, 24, .inl (fun _ => 0))), (q21, .inr (6, [.int 0, .null, .int 0]))] H := hP
  have hD : va_D A [(a0, .inr (9, [.ref q1, .ref q6, .ref q11, .ref q16, .null, .null, .int 0, .int 0, .int 0, .int 0])), (q1, .inr (6, [.int 4, .ref q_5, .int 0])), (q_5, .inl (kA 0, 48, .inl (fun _ => 0))), (q6, .inr (6, [.int 5, .ref q_10, .int 0])), (q_10, .inl (kA 0, 100, .inl (fun _ => 0))), (q11, .inr (6, [.int 9, .ref q_15, .int 0])), (q_15, .inl (kA 0, 144, .inl (fun _ => 0))), (q16, .inr (6, [.int 4, .ref q_20, .int 0])), (q_20, .inl (kA 0, 24, .inl (fun _ => 0))), (q21, .inr (6, [.int 0, .null, .int 0]))] := hD
  refine lv_dup hx hb dX9_init_65 rfl ?_
  refine lv_bipush (v := 8) hx hb dX9_init_66 (by decide) ?_
  refine lv_iconst (v := 3) hx hb dX9_init_68 (by decide) ?_
  refine z_v (wr := [(a0, .inr (9, [.ref q1, .ref q6, .ref q11, .ref q16, .null, .null, .int 0, .int 0, .int 0, .int 0])), (q1, .inr (6, [.int 4, .ref q_5, .int 0])), (q_5, .inl (kA 0, 48, .inl (fun _ => 0))), (q6, .inr (6, [.int 5, .ref q_10, .int 0])), (q_10, .inl (kA 0, 100, .inl (fun _ => 0))), (q11, .inr (6, [.int 9, .ref q_15, .int 0])), (q_15, .inl (kA 0, 144, .inl (fun _ => 0))), (q16, .inr (6, [.int 4, .ref q_20, .int 0])), (q_20, .inl (kA 0, 24, .inl (fun _ => 0)))]) (va_runI (As := [.int 8, .int 3]) (rest := [.ref q21, .ref a0]) ⟨hx, hb, hml, hown, hts⟩ (mX6_init_8_3 l dC dI kA _ q21) (cwI 2 hts gX9_init_X6_init rfl rfl rfl (kX9_init_6 hts) (kX9_init_14 hts) (kX9_init_15 hts) rfl (by decide +kernel) ⟨(Nat.le_of_ble_eq_true rfl), (Nat.le_of_ble_eq_true rfl)⟩) ⟨zPc.blind, zPre hK (hP.sub [9] rfl) (hD.sub [9] (by decide) rfl)⟩ rfl rfl hl.1 rfl (lv_room (Nat.le_of_ble_eq_true rfl)) dX9_init_69 ⟨(Nat.le_of_ble_eq_true rfl), (Nat.le_of_ble_eq_true rfl)⟩) hP hD hS hA [9] [0, 1, 2, 3, 4, 5, 6, 7, 8] rfl rfl (by decide) (by decide) (fun u22 H locs hw23 hP hD hS => ?_)
  obtain ⟨q_25, rfl⟩ : ∃ z, z = u22 := ⟨_, rfl⟩
  refine W.widen (k := 10) (n := 355) (Nat.le_of_ble_eq_true rfl) (Nat.le_of_ble_eq_true rfl) ?_
  have hP : va_P (dC, dI) vwCl [(a0, .inr (9, [.ref q1, .ref q6, .ref q11, .ref q16, .null, .null, .int 0, .int 0, .int 0, .int 0])), (q1, .inr (6, [.int 4, .ref q_5, .int 0])), (q_5, .inl (kA 0, 48, .inl (fun _ => 0))), (q6, .inr (6, [.int 5, .ref q_10, .int 0])), (q_10, .inl (kA 0, 100, .inl (fun _ => 0))), (q11, .inr (6, [.int 9, .ref q_15, .int 0])), (q_15, .inl (kA 0, 144, .inl (fun _ => 0))), (q16, .inr (6, [.int 4, .ref q_20, .int 0])), (q_20, .inl (kA 0, 24, .inl (fun _ => 0))), (q21, .inr (6, [.int 3, .ref q_25, .int 0])), (q_25, .inl (kA 0, 24, .inl (fun _ => 0)))] H := hP
  have hD : va_D A [(a0, .inr (9, [.ref q1, .ref q6, .ref q11, .ref q16, .null, .null, .int 0, .int 0, .int 0, .int 0])), (q1, .inr (6, [.int 4, .ref q_5, .int 0])), (q_5, .inl (kA 0, 48, .inl (fun _ => 0))), (q6, .inr (6, [.int 5, .ref q_10, .int 0])), (q_10, .inl (kA 0, 100, .inl (fun _ => 0))), (q11, .inr (6, [.int 9, .ref q_15, .int 0])), (q_15, .inl (kA 0, 144, .inl (fun _ => 0))), (q16, .inr (6, [.int 4, .ref q_20, .int 0])), (q_20, .inl (kA 0, 24, .inl (fun _ => 0))), (q21, .inr (6, [.int 3, .ref q_25, .int 0])), (q_25, .inl (kA 0, 24, .inl (fun _ => 0)))] := hD
  refine va_putF (D := (dC, dI)) (ci := 9) (v := .ref q21) (ty := .object "SnowMules$Table") (C := RX9) (T := TX9) (N := 10) hx hb hts iX9_init_X9 tyX9 tyX9_ok nmX9 hown hK.1 hP hD hS 0 rfl rfl 4 (by decide) (kX9_init_11 hts) (fun _ h9 => h9) rfl hin rfl (by decide +kernel) rfl rfl (Nat.le_of_ble_eq_true rfl) dX9_init_72 (fun H locs hP hD hS => ?_)
  have hP : va_P (dC, dI) vwCl [(a0, .inr (9, [.ref q1, .ref q6, .ref q11, .ref q16, .ref q21, .null, .int 0, .int 0, .int 0, .int 0])), (q1, .inr (6, [.int 4, .ref q_5, .int 0])), (q_5, .inl (kA 0, 48, .inl (fun _ => 0))), (q6, .inr (6, [.int 5, .ref q_10, .int 0])), (q_10, .inl (kA 0, 100, .inl (fun _ => 0))), (q11, .inr (6, [.int 9, .ref q_15, .int 0])), (q_15, .inl (kA 0, 144, .inl (fun _ => 0))), (q16, .inr (6, [.int 4, .ref q_20, .int 0])), (q_20, .inl (kA 0, 24, .inl (fun _ => 0))), (q21, .inr (6, [.int 3, .ref q_25, .int 0])), (q_25, .inl (kA 0, 24, .inl (fun _ => 0)))] H := hP
  have hD : va_D A [(a0, .inr (9, [.ref q1, .ref q6, .ref q11, .ref q16, .ref q21, .null, .int 0, .int 0, .int 0, .int 0])), (q1, .inr (6, [.int 4, .ref q_5, .int 0])), (q_5, .inl (kA 0, 48, .inl (fun _ => 0))), (q6, .inr (6, [.int 5, .ref q_10, .int 0])), (q_10, .inl (kA 0, 100, .inl (fun _ => 0))), (q11, .inr (6, [.int 9, .ref q_15, .int 0])), (q_15, .inl (kA 0, 144, .inl (fun _ => 0))), (q16, .inr (6, [.int 4, .ref q_20, .int 0])), (q_20, .inl (kA 0, 24, .inl (fun _ => 0))), (q21, .inr (6, [.int 3, .ref q_25, .int 0])), (q_25, .inl (kA 0, 24, .inl (fun _ => 0)))] := hD
  refine lv_aload_n hx hb dX9_init_75 rfl (lv_at hl 0 rfl) ?_
  refine va_new (ci := 6) (fs := [.int 0, .null, .int 0]) (C := RX6) (T := TX6) (N := 3) hx hb hts iX9_init_X6 tyX6 tyX6_ok hown (kX9_init_4 hts) (kX9_init_5 hts) (kX9_init_6 hts) hK.1 hP hD hS hA rfl fsX6 (Nat.le_of_ble_eq_true rfl) (Nat.le_of_ble_eq_true rfl) dX9_init_76 (fun q26 H hP hD hS => ?_)
  refine W.widen (k := 11) (n := 358) (Nat.le_of_ble_eq_true rfl) (Nat.le_of_ble_eq_true rfl) ?_
  have hP : va_P (dC, dI) vwCl [(a0, .inr (9, [.ref q1, .ref q6, .ref q11, .ref q16, .ref q21, .null, .int 0, .int 0, .int 0, .int 0])), (q1, .inr (6, [.int 4, .ref q_5, .int 0])), (q_5, .inl (kA 0, 48, .inl (fun _ => 0))), (q6, .inr (6, [.int 5, .ref q_10, .int 0])), (q_10, .inl (kA 0, 100, .inl (fun _ => 0))), (q11, .inr (6, [.int 9, .ref q_15, .int 0])), (q_15, .inl (kA 0, 144, .inl (fun _ => 0))), (q16, .inr (6, [.int 4, .ref q_20, .int 0])), (q_20, .inl (kA 0, 24, .inl (fun _ => 0))), (q21, .inr (6, [.int 3, .ref q_25, .int 0])), (q_25, .inl (kA 0, 24, .inl (fun _ => 0))), (q26, .inr (6, [.int 0, .null, .int 0]))] H := hP
  have hD : va_D A [(a0, .inr (9, [.ref q1, .ref q6, .ref q11, .ref q16, .ref q21, .null, .int 0, .int 0, .int 0, .int 0])), (q1, .inr (6, [.int 4, .ref q_5, .int 0])), (q_5, .inl (kA 0, 48, .inl (fun _ => 0))), (q6, .inr (6, [.int 5, .ref q_10, .int 0])), (q_10, .inl (kA 0, 100, .inl (fun _ => 0))), (q11, .inr (6, [.int 9, .ref q_15, .int 0])), (q_15, .inl (kA 0, 144, .inl (fun _ => 0))), (q16, .inr (6, [.int 4, .ref q_20, .int 0])), (q_20, .inl (kA 0, 24, .inl (fun _ => 0))), (q21, .inr (6, [.int 3, .ref q_25, .int 0])), (q_25, .inl (kA 0, 24, .inl (fun _ => 0))), (q26, .inr (6, [.int 0, .null, .int 0]))] := hD
  refine lv_dup hx hb dX9_init_79 rfl ?_
  refine lv_bipush (v := 6) hx hb dX9_init_80 (by decide) ?_
  refine lv_iconst (v := 1) hx hb dX9_init_82 (by decide) ?_
  refine z_v (wr := [(a0, .inr (9, [.ref q1, .ref q6, .ref q11, .ref q16, .ref q21, .null, .int 0, .int 0, .int 0, .int 0])), (q1, .inr (6, [.int 4, .ref q_5, .int 0])), (q_5, .inl (kA 0, 48, .inl (fun _ => 0))), (q6, .inr (6, [.int 5, .ref q_10, .int 0])), (q_10, .inl (kA 0, 100, .inl (fun _ => 0))), (q11, .inr (6, [.int 9, .ref q_15, .int 0])), (q_15, .inl (kA 0, 144, .inl (fun _ => 0))), (q16, .inr (6, [.int 4, .ref q_20, .int 0])), (q_20, .inl (kA 0, 24, .inl (fun _ => 0))), (q21, .inr (6, [.int 3, .ref q_25, .int 0])), (q_25, .inl (kA 0, 24, .inl (fun _ => 0)))]) (va_runI (As := [.int 6, .int 1]) (rest := [.ref q26, .ref a0]) ⟨hx, hb, hml, hown, hts⟩ (mX6_init_6_1 l dC dI kA _ q26) (cwI 2 hts gX9_init_X6_init rfl rfl rfl (kX9_init_6 hts) (kX9_init_14 hts) (kX9_init_15 hts) rfl (by decide +kernel) ⟨(Nat.le_of_ble_eq_true rfl), (Nat.le_of_ble_eq_true rfl)⟩) ⟨zPc.blind, zPre hK (hP.sub [11] rfl) (hD.sub [11] (by decide) rfl)⟩ rfl rfl hl.1 rfl (lv_room (Nat.le_of_ble_eq_true rfl)) dX9_init_83 ⟨(Nat.le_of_ble_eq_true rfl), (Nat.le_of_ble_eq_true rfl)⟩) hP hD hS hA [11] [0, 1, 2, 3, 4, 5, 6, 7, 8, 9, 10] rfl rfl (by decide) (by decide) (fun u27 H locs hw28 hP hD hS => ?_)
  obtain ⟨q_30, rfl⟩ : ∃ z, z = u27 := ⟨_, rfl⟩
  refine W.widen (k := 12) (n := 364) (Nat.le_of_ble_eq_true rfl) (Nat.le_of_ble_eq_true rfl) ?_
  have hP : va_P (dC, dI) vwCl [(a0, .inr (9, [.ref q1, .ref q6, .ref q11, .ref q16, .ref q21, .null, .int 0, .int 0, .int 0, .int 0])), (q1, .inr (6, [.int 4, .ref q_5, .int 0])), (q_5, .inl (kA 0, 48, .inl (fun _ => 0))), (q6, .inr (6, [.int 5, .ref q_10, .int 0])), (q_10, .inl (kA 0, 100, .inl (fun _ => 0))), (q11, .inr (6, [.int 9, .ref q_15, .int 0])), (q_15, .inl (kA 0, 144, .inl (fun _ => 0))), (q16, .inr (6, [.int 4, .ref q_20, .int 0])), (q_20, .inl (kA 0, 24, .inl (fun _ => 0))), (q21, .inr (6, [.int 3, .ref q_25, .int 0])), (q_25, .inl (kA 0, 24, .inl (fun _ => 0))), (q26, .inr (6, [.int 1, .ref q_30, .int 0])), (q_30, .inl (kA 0, 6, .inl (fun _ => 0)))] H := hP
  have hD : va_D A [(a0, .inr (9, [.ref q1, .ref q6, .ref q11, .ref q16, .ref q21, .null, .int 0, .int 0, .int 0, .int 0])), (q1, .inr (6, [.int 4, .ref q_5, .int 0])), (q_5, .inl (kA 0, 48, .inl (fun _ => 0))), (q6, .inr (6, [.int 5, .ref q_10, .int 0])), (q_10, .inl (kA 0, 100, .inl (fun _ => 0))), (q11, .inr (6, [.int 9, .ref q_15, .int 0])), (q_15, .inl (kA 0, 144, .inl (fun _ => 0))), (q16, .inr (6, [.int 4, .ref q_20, .int 0])), (q_20, .inl (kA 0, 24, .inl (fun _ => 0))), (q21, .inr (6, [.int 3, .ref q_25, .int 0])), (q_25, .inl (kA 0, 24, .inl (fun _ => 0))), (q26, .inr (6, [.int 1, .ref q_30, .int 0])), (q_30, .inl (kA 0, 6, .inl (fun _ => 0)))] := hD
  refine va_putF (D := (dC, dI)) (ci := 9) (v := .ref q26) (ty := .object "SnowMules$Table") (C := RX9) (T := TX9) (N := 10) hx hb hts iX9_init_X9 tyX9 tyX9_ok nmX9 hown hK.1 hP hD hS 0 rfl rfl 5 (by decide) (kX9_init_12 hts) (fun _ h9 => h9) rfl hin rfl (by decide +kernel) rfl rfl (Nat.le_of_ble_eq_true rfl) dX9_init_86 (fun H locs hP hD hS => ?_)
  have hP : va_P (dC, dI) vwCl [(a0, .inr (9, [.ref q1, .ref q6, .ref q11, .ref q16, .ref q21, .ref q26, .int 0, .int 0, .int 0, .int 0])), (q1, .inr (6, [.int 4, .ref q_5, .int 0])), (q_5, .inl (kA 0, 48, .inl (fun _ => 0))), (q6, .inr (6, [.int 5, .ref q_10, .int 0])), (q_10, .inl (kA 0, 100, .inl (fun _ => 0))), (q11, .inr (6, [.int 9, .ref q_15, .int 0])), (q_15, .inl (kA 0, 144, .inl (fun _ => 0))), (q16, .inr (6, [.int 4, .ref q_20, .int 0])), (q_20, .inl (kA 0, 24, .inl (fun _ => 0))), (q21, .inr (6, [.int 3, .ref q_25, .int 0])), (q_25, .inl (kA 0, 24, .inl (fun _ => 0))), (q26, .inr (6, [.int 1, .ref q_30, .int 0])), (q_30, .inl (kA 0, 6, .inl (fun _ => 0)))] H := hP
  have hD : va_D A [(a0, .inr (9, [.ref q1, .ref q6, .ref q11, .ref q16, .ref q21, .ref q26, .int 0, .int 0, .int 0, .int 0])), (q1, .inr (6, [.int 4, .ref q_5, .int 0])), (q_5, .inl (kA 0, 48, .inl (fun _ => 0))), (q6, .inr (6, [.int 5, .ref q_10, .int 0])), (q_10, .inl (kA 0, 100, .inl (fun _ => 0))), (q11, .inr (6, [.int 9, .ref q_15, .int 0])), (q_15, .inl (kA 0, 144, .inl (fun _ => 0))), (q16, .inr (6, [.int 4, .ref q_20, .int 0])), (q_20, .inl (kA 0, 24, .inl (fun _ => 0))), (q21, .inr (6, [.int 3, .ref q_25, .int 0])), (q_25, .inl (kA 0, 24, .inl (fun _ => 0))), (q26, .inr (6, [.int 1, .ref q_30, .int 0])), (q_30, .inl (kA 0, 6, .inl (fun _ => 0)))] := hD
  refine lv_aload_n hx hb dX9_init_89 rfl (lv_at hl 0 rfl) ?_
  refine lv_iconst (v := (-1)) hx hb dX9_init_90 (by decide) ?_
  refine va_put (D := (dC, dI)) (ci := 9) (v := .int (-1)) (ty := .int) (C := RX9) (T := TX9) (N := 10) hx hb hts iX9_init_X9 tyX9 tyX9_ok nmX9 hown hK.1 hP hD hS 0 rfl rfl 6 (by decide) (kX9_init_13 hts) (fun _ h9 => h9) rfl (by decide +kernel) rfl rfl (Nat.le_of_ble_eq_true rfl) dX9_init_91 (fun H locs hP hD hS => ?_)
  have hP : va_P (dC, dI) vwCl [(a0, .inr (9, [.ref q1, .ref q6, .ref q11, .ref q16, .ref q21, .ref q26, .int (-1), .int 0, .int 0, .int 0])), (q1, .inr (6, [.int 4, .ref q_5, .int 0])), (q_5, .inl (kA 0, 48, .inl (fun _ => 0))), (q6, .inr (6, [.int 5, .ref q_10, .int 0])), (q_10, .inl (kA 0, 100, .inl (fun _ => 0))), (q11, .inr (6, [.int 9, .ref q_15, .int 0])), (q_15, .inl (kA 0, 144, .inl (fun _ => 0))), (q16, .inr (6, [.int 4, .ref q_20, .int 0])), (q_20, .inl (kA 0, 24, .inl (fun _ => 0))), (q21, .inr (6, [.int 3, .ref q_25, .int 0])), (q_25, .inl (kA 0, 24, .inl (fun _ => 0))), (q26, .inr (6, [.int 1, .ref q_30, .int 0])), (q_30, .inl (kA 0, 6, .inl (fun _ => 0)))] H := hP
  have hD : va_D A [(a0, .inr (9, [.ref q1, .ref q6, .ref q11, .ref q16, .ref q21, .ref q26, .int (-1), .int 0, .int 0, .int 0])), (q1, .inr (6, [.int 4, .ref q_5, .int 0])), (q_5, .inl (kA 0, 48, .inl (fun _ => 0))), (q6, .inr (6, [.int 5, .ref q_10, .int 0])), (q_10, .inl (kA 0, 100, .inl (fun _ => 0))), (q11, .inr (6, [.int 9, .ref q_15, .int 0])), (q_15, .inl (kA 0, 144, .inl (fun _ => 0))), (q16, .inr (6, [.int 4, .ref q_20, .int 0])), (q_20, .inl (kA 0, 24, .inl (fun _ => 0))), (q21, .inr (6, [.int 3, .ref q_25, .int 0])), (q_25, .inl (kA 0, 24, .inl (fun _ => 0))), (q26, .inr (6, [.int 1, .ref q_30, .int 0])), (q_30, .inl (kA 0, 6, .inl (fun _ => 0)))] := hD
  have hP9 := hP.sub (ws' := [(a0, .inr (9, [.ref q1, .ref q6, .ref q11, .ref q16, .ref q21, .ref q26, .int (-1), .int 0, .int 0, .int 0])), (q1, .inr (6, [.int 4, .ref q_5, .int 0])), (q_5, .inl (kA 0, 48, .inl (fun _ => 0))), (q6, .inr (6, [.int 5, .ref q_10, .int 0])), (q_10, .inl (kA 0, 100, .inl (fun _ => 0))), (q11, .inr (6, [.int 9, .ref q_15, .int 0])), (q_15, .inl (kA 0, 144, .inl (fun _ => 0))), (q16, .inr (6, [.int 4, .ref q_20, .int 0])), (q_20, .inl (kA 0, 24, .inl (fun _ => 0))), (q21, .inr (6, [.int 3, .ref q_25, .int 0])), (q_25, .inl (kA 0, 24, .inl (fun _ => 0))), (q26, .inr (6, [.int 1, .ref q_30, .int 0])), (q_30, .inl (kA 0, 6, .inl (fun _ => 0)))]) [0, 1, 2, 3, 4, 5, 6, 7, 8, 9, 10, 11, 12] rfl
  have hD9 := hD.sub (ws' := [(a0, .inr (9, [.ref q1, .ref q6, .ref q11, .ref q16, .ref q21, .ref q26, .int (-1), .int 0, .int 0, .int 0])), (q1, .inr (6, [.int 4, .ref q_5, .int 0])), (q_5, .inl (kA 0, 48, .inl (fun _ => 0))), (q6, .inr (6, [.int 5, .ref q_10, .int 0])), (q_10, .inl (kA 0, 100, .inl (fun _ => 0))), (q11, .inr (6, [.int 9, .ref q_15, .int 0])), (q_15, .inl (kA 0, 144, .inl (fun _ => 0))), (q16, .inr (6, [.int 4, .ref q_20, .int 0])), (q_20, .inl (kA 0, 24, .inl (fun _ => 0))), (q21, .inr (6, [.int 3, .ref q_25, .int 0])), (q_25, .inl (kA 0, 24, .inl (fun _ => 0))), (q26, .inr (6, [.int 1, .ref q_30, .int 0])), (q_30, .inl (kA 0, 6, .inl (fun _ => 0)))]) [0, 1, 2, 3, 4, 5, 6, 7, 8, 9, 10, 11, 12] (by decide) rfl
  refine W.widen (k := 12) (n := 364) (Nat.le_of_ble_eq_true rfl) (Nat.le_of_ble_eq_true rfl) ?_
  exact W.vret hx hb hr (fun t ht hW => ⟨⟨(q1, q_5, q6, q_10, q11, q_15, q16, q_20, q21, q_25, q26, q_30), rfl, trivial, by rw [ht]; exact hP9, hD9⟩, hS.F ht⟩) hS.2.2 dX9_init_94
set_option maxHeartbeats 4000000 in
set_option maxRecDepth 100000 in
theorem mX4_init (l : Launch) (dC : Nat → ClassId) (dI : Nat → Nat → Nat) (kA : Nat → ClassId) (sz : Nat) (a0 : Nat)  : Met l yX4_init wsX4_init ({ frames := 1, cells := 1, slots := 11, locals := 12 }) (zPc dC dI kA sz [.ref a0] [(a0, .inr (4, [.null, .int 0, .int 0, .int 0]))]) (va_Qv (fun (u : Unit) => True) (zB dC dI (va_A [(a0, .inr (4, [.null, .int 0, .int 0, .int 0]))] sz) (fun (u : Unit) => [])) (va_A [(a0, .inr (4, [.null, .int 0, .int 0, .int 0]))] sz)) 1 11 (va_A [(a0, .inr (4, [.null, .int 0, .int 0, .int 0]))] sz) := by
  refine Met.ofW (cc := cX4_init) (maxL := 1) (ret := none) (by decide) rfl ?_
  intro p e s m args below meth c s₁ B hml hv
  obtain ⟨rfl, hsz, hP, hK, hD0⟩ := hv
  have hx := B.exec
  have hb := B.bytes
  have hr := B.returns
  have hts := atoms_spec (ws := wsX4_init) B.pre
  have hown : s.vm.findClass RX4 = some m.cls := findClass_of_methodNamed B.named
  have hlocks := B.notSynchronized
  have hin : meth.name = "<init>" := (name_of_methodNamed B.named B.method).1
  subst hsz
  have hD := hD0.self (sz := s.heap.size)
  generalize hAe : va_A [(a0, .inr (4, [.null, .int 0, .int 0, .int 0]))] s.heap.size = A at hD ⊢
  have hA : ∀ q : Nat, s.heap.size ≤ q → A q := fun q h => by rw [← hAe]; exact Or.inr h
  have hS : va_S A s.heap s.heap [] := va_S.rf
  have hP : va_P (dC, dI) vwCl [(a0, .inr (4, [.null, .int 0, .int 0, .int 0]))] s.heap := hP
  have hl := lv_entry ([.ref a0]) (n := 1) (Nat.le_of_ble_eq_true rfl)
  rw [lg_entry_eq]
  generalize (lg_sl ([.ref a0]) ++ List.replicate (1 - (lg_sl ([.ref a0])).length) Slot.unset).toArray = ls at hl ⊢
  have hl : lv_has ls 1 [(0, .ref a0)] := hl
  refine lv_aload_n hx hb dX4_init_0 rfl (lv_at hl 0 rfl) ?_
  refine W.objInit hx hb hown (kX4_init_1 hts) (kX4_init_2 hts) (kX4_init_3 hts) rfl (by rw [hml]; exact hl.1) rfl dX4_init_1 (Nat.le_of_ble_eq_true rfl) (Nat.le_of_ble_eq_true rfl) ?_
  refine W.eq (g2 := F0 m 4 ls []) rfl ?_
  refine lv_aload_n hx hb dX4_init_4 rfl (lv_at hl 0 rfl) ?_
  refine lv_bipush (v := 11) hx hb dX4_init_5 (by decide) ?_
  refine z_newi hx hb (kX4_init_4 hts) hK hP hD hS hA 11 (by decide) (by decide) (by decide) (Nat.le_of_ble_eq_true rfl) (Nat.le_of_ble_eq_true rfl) dX4_init_7 (fun q1 H hP hD hS => ?_)
  refine W.widen (k := 1) (n := 11) (Nat.le_of_ble_eq_true rfl) (Nat.le_of_ble_eq_true rfl) ?_
  have hP : va_P (dC, dI) vwCl [(a0, .inr (4, [.null, .int 0, .int 0, .int 0])), (q1, .inl (kA 0, 11, .inl (fun _ => 0)))] H := hP
  have hD : va_D A [(a0, .inr (4, [.null, .int 0, .int 0, .int 0])), (q1, .inl (kA 0, 11, .inl (fun _ => 0)))] := hD
  refine va_putF (D := (dC, dI)) (ci := 4) (v := .ref q1) (ty := .array (.int)) (C := RX4) (T := TX4) (N := 4) hx hb hts iX4_init_X4 tyX4 tyX4_ok nmX4 hown hK.1 hP hD hS 0 rfl rfl 0 (by decide) (kX4_init_5 hts) (fun _ h9 => h9) rfl hin rfl (by decide +kernel) rfl rfl (Nat.le_of_ble_eq_true rfl) dX4_init_9 (fun H locs hP hD hS => ?_)
  have hP : va_P (dC, dI) vwCl [(a0, .inr (4, [.ref q1, .int 0, .int 0, .int 0])), (q1, .inl (kA 0, 11, .inl (fun _ => 0)))] H := hP
  have hD : va_D A [(a0, .inr (4, [.ref q1, .int 0, .int 0, .int 0])), (q1, .inl (kA 0, 11, .inl (fun _ => 0)))] := hD
  have hP9 := hP.sub (ws' := []) [] rfl
  have hD9 := hD.sub (ws' := []) [] (by decide) rfl
  refine W.widen (k := 1) (n := 11) (Nat.le_of_ble_eq_true rfl) (Nat.le_of_ble_eq_true rfl) ?_
  exact W.vret hx hb hr (fun t ht hW => ⟨⟨(), rfl, trivial, by rw [ht]; exact hP9, hD9⟩, hS.F ht⟩) hS.2.2 dX4_init_12
set_option maxHeartbeats 4000000 in
set_option maxRecDepth 100000 in
theorem mX1_init (l : Launch) (dC : Nat → ClassId) (dI : Nat → Nat → Nat) (kA : Nat → ClassId) (sz : Nat) (a0 : Nat)  : Met l yX1_init wsX1_init ({ frames := 1, cells := 12, slots := 516, locals := 12 }) (zPc dC dI kA sz [.ref a0] [(a0, .inr (1, [.int 0, .int 0, .null, .null, .null, .null, .null, .int 0, .null, .null, .int 0, .null, .null, .null, .null, .int 0, .null]))]) (va_Qv (fun (u : Unit) => True) (zB dC dI (va_A [(a0, .inr (1, [.int 0, .int 0, .null, .null, .null, .null, .null, .int 0, .null, .null, .int 0, .null, .null, .null, .null, .int 0, .null]))] sz) (fun (u : Unit) => [])) (va_A [(a0, .inr (1, [.int 0, .int 0, .null, .null, .null, .null, .null, .int 0, .null, .null, .int 0, .null, .null, .null, .null, .int 0, .null]))] sz)) 12 516 (va_A [(a0, .inr (1, [.int 0, .int 0, .null, .null, .null, .null, .null, .int 0, .null, .null, .int 0, .null, .null, .null, .null, .int 0, .null]))] sz) := by
  refine Met.ofW (cc := cX1_init) (maxL := 1) (ret := none) (by decide) rfl ?_
  intro p e s m args below meth c s₁ B hml hv
  obtain ⟨rfl, hsz, hP, hK, hD0⟩ := hv
  have hx := B.exec
  have hb := B.bytes
  have hr := B.returns
  have hts := atoms_spec (ws := wsX1_init) B.pre
  have hown : s.vm.findClass RX1 = some m.cls := findClass_of_methodNamed B.named
  have hlocks := B.notSynchronized
  have hin : meth.name = "<init>" := (name_of_methodNamed B.named B.method).1
  subst hsz
  have hD := hD0.self (sz := s.heap.size)
  generalize hAe : va_A [(a0, .inr (1, [.int 0, .int 0, .null, .null, .null, .null, .null, .int 0, .null, .null, .int 0, .null, .null, .null, .null, .int 0, .null]))] s.heap.size = A at hD ⊢
  have hA : ∀ q : Nat, s.heap.size ≤ q → A q := fun q h => by rw [← hAe]; exact Or.inr h
  have hS : va_S A s.heap s.heap [] := va_S.rf
  have hP : va_P (dC, dI) vwCl [(a0, .inr (1, [.int 0, .int 0, .null, .null, .null, .null, .null, .int 0, .null, .null, .int 0, .null, .null, .null, .null, .int 0, .null]))] s.heap := hP
  have hl := lv_entry ([.ref a0]) (n := 1) (Nat.le_of_ble_eq_true rfl)
  rw [lg_entry_eq]
  generalize (lg_sl ([.ref a0]) ++ List.replicate (1 - (lg_sl ([.ref a0])).length) Slot.unset).toArray = ls at hl ⊢
  have hl : lv_has ls 1 [(0, .ref a0)] := hl
  refine lv_aload_n hx hb dX1_init_0 rfl (lv_at hl 0 rfl) ?_
  refine W.objInit hx hb hown (kX1_init_1 hts) (kX1_init_2 hts) (kX1_init_3 hts) rfl (by rw [hml]; exact hl.1) rfl dX1_init_1 (Nat.le_of_ble_eq_true rfl) (Nat.le_of_ble_eq_true rfl) ?_
  refine W.eq (g2 := F0 m 4 ls []) rfl ?_
  refine lv_aload_n hx hb dX1_init_4 rfl (lv_at hl 0 rfl) ?_
  refine lv_bipush (v := 12) hx hb dX1_init_5 (by decide) ?_
  refine z_newi hx hb (kX1_init_4 hts) hK hP hD hS hA 12 (by decide) (by decide) (by decide) (Nat.le_of_ble_eq_true rfl) (Nat.le_of_ble_eq_true rfl) dX1_init_7 (fun q1 H hP hD hS => ?_)
  refine W.widen (k := 1) (n := 12) (Nat.le_of_ble_eq_true rfl) (Nat.le_of_ble_eq_true rfl) ?_
  have hP : va_P (dC, dI) vwCl [(a0, .inr (1, [.int 0, .int 0, .null, .null, .null, .null, .null, .int 0, .null, .null, .int 0, .null, .null, .null, .null, .int 0, .null])), (q1, .inl (kA 0, 12, .inl (fun _ => 0)))] H := hP
  have hD : va_D A [(a0, .inr (1, [.int 0, .int 0, .null, .null, .null, .null, .null, .int 0, .null, .null, .int 0, .null, .null, .null, .null, .int 0, .null])), (q1, .inl (kA 0, 12, .inl (fun _ => 0)))] := hD
  refine va_putF (D := (dC, dI)) (ci := 1) (v := .ref q1) (ty := .array (.int)) (C := RX1) (T := TX1) (N := 17) hx hb hts iX1_init_X1 tyX1 tyX1_ok nmX1 hown hK.1 hP hD hS 0 rfl rfl 2 (by decide) (kX1_init_5 hts) (fun _ h9 => h9) rfl hin rfl (by decide +kernel) rfl rfl (Nat.le_of_ble_eq_true rfl) dX1_init_9 (fun H locs hP hD hS => ?_)
  have hP : va_P (dC, dI) vwCl [(a0, .inr (1, [.int 0, .int 0, .ref q1, .null, .null, .null, .null, .int 0, .null, .null, .int 0, .null, .null, .null, .null, .int 0, .null])), (q1, .inl (kA 0, 12, .inl (fun _ => 0)))] H := hP
  have hD : va_D A [(a0, .inr (1, [.int 0, .int 0, .ref q1, .null, .null, .null, .null, .int 0, .null, .null, .int 0, .null, .null, .null, .null, .int 0, .null])), (q1, .inl (kA 0, 12, .inl (fun _ => 0)))] := hD
  refine lv_aload_n hx hb dX1_init_12 rfl (lv_at hl 0 rfl) ?_
  refine lv_bipush (v := 12) hx hb dX1_init_13 (by decide) ?_
  refine z_newi hx hb (kX1_init_4 hts) hK hP hD hS hA 12 (by decide) (by decide) (by decide) (Nat.le_of_ble_eq_true rfl) (Nat.le_of_ble_eq_true rfl) dX1_init_15 (fun q2 H hP hD hS => ?_)
  refine W.widen (k := 2) (n := 24) (Nat.le_of_ble_eq_true rfl) (Nat.le_of_ble_eq_true rfl) ?_
  have hP : va_P (dC, dI) vwCl [(a0, .inr (1, [.int 0, .int 0, .ref q1, .null, .null, .null, .null, .int 0, .null, .null, .int 0, .null, .null, .null, .null, .int 0, .null])), (q1, .inl (kA 0, 12, .inl (fun _ => 0))), (q2, .inl (kA 0, 12, .inl (fun _ => 0)))] H := hP
  have hD : va_D A [(a0, .inr (1, [.int 0, .int 0, .ref q1, .null, .null, .null, .null, .int 0, .null, .null, .int 0, .null, .null, .null, .null, .int 0, .null])), (q1, .inl (kA 0, 12, .inl (fun _ => 0))), (q2, .inl (kA 0, 12, .inl (fun _ => 0)))] := hD
  refine va_putF (D := (dC, dI)) (ci := 1) (v := .ref q2) (ty := .array (.int)) (C := RX1) (T := TX1) (N := 17) hx hb hts iX1_init_X1 tyX1 tyX1_ok nmX1 hown hK.1 hP hD hS 0 rfl rfl 3 (by decide) (kX1_init_6 hts) (fun _ h9 => h9) rfl hin rfl (by decide +kernel) rfl rfl (Nat.le_of_ble_eq_true rfl) dX1_init_17 (fun H locs hP hD hS => ?_)
  have hP : va_P (dC, dI) vwCl [(a0, .inr (1, [.int 0, .int 0, .ref q1, .ref q2, .null, .null, .null, .int 0, .null, .null, .int 0, .null, .null, .null, .null, .int 0, .null])), (q1, .inl (kA 0, 12, .inl (fun _ => 0))), (q2, .inl (kA 0, 12, .inl (fun _ => 0)))] H := hP
  have hD : va_D A [(a0, .inr (1, [.int 0, .int 0, .ref q1, .ref q2, .null, .null, .null, .int 0, .null, .null, .int 0, .null, .null, .null, .null, .int 0, .null])), (q1, .inl (kA 0, 12, .inl (fun _ => 0))), (q2, .inl (kA 0, 12, .inl (fun _ => 0)))] := hD
  refine lv_aload_n hx hb dX1_init_20 rfl (lv_at hl 0 rfl) ?_
  refine lv_bipush (v := 12) hx hb dX1_init_21 (by decide) ?_
  refine z_newi hx hb (kX1_init_4 hts) hK hP hD hS hA 12 (by decide) (by decide) (by decide) (Nat.le_of_ble_eq_true rfl) (Nat.le_of_ble_eq_true rfl) dX1_init_23 (fun q3 H hP hD hS => ?_)
  refine W.widen (k := 3) (n := 36) (Nat.le_of_ble_eq_true rfl) (Nat.le_of_ble_eq_true rfl) ?_
  have hP : va_P (dC, dI) vwCl [(a0, .inr (1, [.int 0, .int 0, .ref q1, .ref q2, .null, .null, .null, .int 0, .null, .null, .int 0, .null, .null, .null, .null, .int 0, .null])), (q1, .inl (kA 0, 12, .inl (fun _ => 0))), (q2, .inl (kA 0, 12, .inl (fun _ => 0))), (q3, .inl (kA 0, 12, .inl (fun _ => 0)))] H := hP
  have hD : va_D A [(a0, .inr (1, [.int 0, .int 0, .ref q1, .ref q2, .null, .null, .null, .int 0, .null, .null, .int 0, .null, .null, .null, .null, .int 0, .null])), (q1, .inl (kA 0, 12, .inl (fun _ => 0))), (q2, .inl (kA 0, 12, .inl (fun _ => 0))), (q3, .inl (kA 0, 12, .inl (fun _ => 0)))] := hD
  refine va_putF (D := (dC, dI)) (ci := 1) (v := .ref q3) (ty := .array (.int)) (C := RX1) (T := TX1) (N := 17) hx hb hts iX1_init_X1 tyX1 tyX1_ok nmX1 hown hK.1 hP hD hS 0 rfl rfl 4 (by decide) (kX1_init_7 hts) (fun _ h9 => h9) rfl hin rfl (by decide +kernel) rfl rfl (Nat.le_of_ble_eq_true rfl) dX1_init_25 (fun H locs hP hD hS => ?_)
  have hP : va_P (dC, dI) vwCl [(a0, .inr (1, [.int 0, .int 0, .ref q1, .ref q2, .ref q3, .null, .null, .int 0, .null, .null, .int 0, .null, .null, .null, .null, .int 0, .null])), (q1, .inl (kA 0, 12, .inl (fun _ => 0))), (q2, .inl (kA 0, 12, .inl (fun _ => 0))), (q3, .inl (kA 0, 12, .inl (fun _ => 0)))] H := hP
  have hD : va_D A [(a0, .inr (1, [.int 0, .int 0, .ref q1, .ref q2, .ref q3, .null, .null, .int 0, .null, .null, .int 0, .null, .null, .null, .null, .int 0, .null])), (q1, .inl (kA 0, 12, .inl (fun _ => 0))), (q2, .inl (kA 0, 12, .inl (fun _ => 0))), (q3, .inl (kA 0, 12, .inl (fun _ => 0)))] := hD
  refine lv_aload_n hx hb dX1_init_28 rfl (lv_at hl 0 rfl) ?_
  refine lv_bipush (v := 12) hx hb dX1_init_29 (by decide) ?_
  refine z_newi hx hb (kX1_init_4 hts) hK hP hD hS hA 12 (by decide) (by decide) (by decide) (Nat.le_of_ble_eq_true rfl) (Nat.le_of_ble_eq_true rfl) dX1_init_31 (fun q4 H hP hD hS => ?_)
  refine W.widen (k := 4) (n := 48) (Nat.le_of_ble_eq_true rfl) (Nat.le_of_ble_eq_true rfl) ?_
  have hP : va_P (dC, dI) vwCl [(a0, .inr (1, [.int 0, .int 0, .ref q1, .ref q2, .ref q3, .null, .null, .int 0, .null, .null, .int 0, .null, .null, .null, .null, .int 0, .null])), (q1, .inl (kA 0, 12, .inl (fun _ => 0))), (q2, .inl (kA 0, 12, .inl (fun _ => 0))), (q3, .inl (kA 0, 12, .inl (fun _ => 0))), (q4, .inl (kA 0, 12, .inl (fun _ => 0)))] H := hP
  have hD : va_D A [(a0, .inr (1, [.int 0, .int 0, .ref q1, .ref q2, .ref q3, .null, .null, .int 0, .null, .null, .int 0, .null, .null, .null, .null, .int 0, .null])), (q1, .inl (kA 0, 12, .inl (fun _ => 0))), (q2, .inl (kA 0, 12, .inl (fun _ => 0))), (q3, .inl (kA 0, 12, .inl (fun _ => 0))), (q4, .inl (kA 0, 12, .inl (fun _ => 0)))] := hD
  refine va_putF (D := (dC, dI)) (ci := 1) (v := .ref q4) (ty := .array (.int)) (C := RX1) (T := TX1) (N := 17) hx hb hts iX1_init_X1 tyX1 tyX1_ok nmX1 hown hK.1 hP hD hS 0 rfl rfl 5 (by decide) (kX1_init_8 hts) (fun _ h9 => h9) rfl hin rfl (by decide +kernel) rfl rfl (Nat.le_of_ble_eq_true rfl) dX1_init_33 (fun H locs hP hD hS => ?_)
  have hP : va_P (dC, dI) vwCl [(a0, .inr (1, [.int 0, .int 0, .ref q1, .ref q2, .ref q3, .ref q4, .null, .int 0, .null, .null, .int 0, .null, .null, .null, .null, .int 0, .null])), (q1, .inl (kA 0, 12, .inl (fun _ => 0))), (q2, .inl (kA 0, 12, .inl (fun _ => 0))), (q3, .inl (kA 0, 12, .inl (fun _ => 0))), (q4, .inl (kA 0, 12, .inl (fun _ => 0)))] H := hP
  have hD : va_D A [(a0, .inr (1, [.int 0, .int 0, .ref q1, .ref q2, .ref q3, .ref q4, .null, .int 0, .null, .null, .int 0, .null, .null, .null, .null, .int 0, .null])), (q1, .inl (kA 0, 12, .inl (fun _ => 0))), (q2, .inl (kA 0, 12, .inl (fun _ => 0))), (q3, .inl (kA 0, 12, .inl (fun _ => 0))), (q4, .inl (kA 0, 12, .inl (fun _ => 0)))] := hD
  refine lv_aload_n hx hb dX1_init_36 rfl (lv_at hl 0 rfl) ?_
  refine lv_bipush (v := 12) hx hb dX1_init_37 (by decide) ?_
  refine z_newi hx hb (kX1_init_4 hts) hK hP hD hS hA 12 (by decide) (by decide) (by decide) (Nat.le_of_ble_eq_true rfl) (Nat.le_of_ble_eq_true rfl) dX1_init_39 (fun q5 H hP hD hS => ?_)
  refine W.widen (k := 5) (n := 60) (Nat.le_of_ble_eq_true rfl) (Nat.le_of_ble_eq_true rfl) ?_
  have hP : va_P (dC, dI) vwCl [(a0, .inr (1, [.int 0, .int 0, .ref q1, .ref q2, .ref q3, .ref q4, .null, .int 0, .null, .null, .int 0, .null, .null, .null, .null, .int 0, .null])), (q1, .inl (kA 0, 12, .inl (fun _ => 0))), (q2, .inl (kA 0, 12, .inl (fun _ => 0))), (q3, .inl (kA 0, 12, .inl (fun _ => 0))), (q4, .inl (kA 0, 12, .inl (fun _ => 0))), (q5, .inl (kA 0, 12, .inl (fun _ => 0)))] H := hP
  have hD : va_D A [(a0, .inr (1, [.int 0, .int 0, .ref q1, .ref q2, .ref q3, .ref q4, .null, .int 0, .null, .null, .int 0, .null, .null, .null, .null, .int 0, .null])), (q1, .inl (kA 0, 12, .inl (fun _ => 0))), (q2, .inl (kA 0, 12, .inl (fun _ => 0))), (q3, .inl (kA 0, 12, .inl (fun _ => 0))), (q4, .inl (kA 0, 12, .inl (fun _ => 0))), (q5, .inl (kA 0, 12, .inl (fun _ => 0)))] := hD
  refine va_putF (D := (dC, dI)) (ci := 1) (v := .ref q5) (ty := .array (.int)) (C := RX1) (T := TX1) (N := 17) hx hb hts iX1_init_X1 tyX1 tyX1_ok nmX1 hown hK.1 hP hD hS 0 rfl rfl 6 (by decide) (kX1_init_9 hts) (fun _ h9 => h9) rfl hin rfl (by decide +kernel) rfl rfl (Nat.le_of_ble_eq_true rfl) dX1_init_41 (fun H locs hP hD hS => ?_)
  have hP : va_P (dC, dI) vwCl [(a0, .inr (1, [.int 0, .int 0, .ref q1, .ref q2, .ref q3, .ref q4, .ref q5, .int 0, .null, .null, .int 0, .null, .null, .null, .null, .int 0, .null])), (q1, .inl (kA 0, 12, .inl (fun _ => 0))), (q2, .inl (kA 0, 12, .inl (fun _ => 0))), (q3, .inl (kA 0, 12, .inl (fun _ => 0))), (q4, .inl (kA 0, 12, .inl (fun _ => 0))), (q5, .inl (kA 0, 12, .inl (fun _ => 0)))] H := hP
  have hD : va_D A [(a0, .inr (1, [.int 0, .int 0, .ref q1, .ref q2, .ref q3, .ref q4, .ref q5, .int 0, .null, .null, .int 0, .null, .null, .null, .null, .int 0, .null])), (q1, .inl (kA 0, 12, .inl (fun _ => 0))), (q2, .inl (kA 0, 12, .inl (fun _ => 0))), (q3, .inl (kA 0, 12, .inl (fun _ => 0))), (q4, .inl (kA 0, 12, .inl (fun _ => 0))), (q5, .inl (kA 0, 12, .inl (fun _ => 0)))] := hD
  refine lv_aload_n hx hb dX1_init_44 rfl (lv_at hl 0 rfl) ?_
  refine lv_bipush (v := 60) hx hb dX1_init_45 (by decide) ?_
  refine z_newi hx hb (kX1_init_4 hts) hK hP hD hS hA 60 (by decide) (by decide) (by decide) (Nat.le_of_ble_eq_true rfl) (Nat.le_of_ble_eq_true rfl) dX1_init_47 (fun q6 H hP hD hS => ?_)
  refine W.widen (k := 6) (n := 120) (Nat.le_of_ble_eq_true rfl) (Nat.le_of_ble_eq_true rfl) ?_
  have hP : va_P (dC, dI) vwCl [(a0, .inr (1, [.int 0, .int 0, .ref q1, .ref q2, .ref q3, .ref q4, .ref q5, .int 0, .null, .null, .int 0, .null, .null, .null, .null, .int 0, .null])), (q1, .inl (kA 0, 12, .inl (fun _ => 0))), (q2, .inl (kA 0, 12, .inl (fun _ => 0))), (q3, .inl (kA 0, 12, .inl (fun _ => 0))), (q4, .inl (kA 0, 12, .inl (fun _ => 0))), (q5, .inl (kA 0, 12, .inl (fun _ => 0))), (q6, .inl (kA 0, 60, .inl (fun _ => 0)))] H := hP
  have hD : va_D A [(a0, .inr (1, [.int 0, .int 0, .ref q1, .ref q2, .ref q3, .ref q4, .ref q5, .int 0, .null, .null, .int 0, .null, .null, .null, .null, .int 0, .null])), (q1, .inl (kA 0, 12, .inl (fun _ => 0))), (q2, .inl (kA 0, 12, .inl (fun _ => 0))), (q3, .inl (kA 0, 12, .inl (fun _ => 0))), (q4, .inl (kA 0, 12, .inl (fun _ => 0))), (q5, .inl (kA 0, 12, .inl (fun _ => 0))), (q6, .inl (kA 0, 60, .inl (fun _ => 0)))] := hD
  refine va_putF (D := (dC, dI)) (ci := 1) (v := .ref q6) (ty := .array (.int)) (C := RX1) (T := TX1) (N := 17) hx hb hts iX1_init_X1 tyX1 tyX1_ok nmX1 hown hK.1 hP hD hS 0 rfl rfl 8 (by decide) (kX1_init_10 hts) (fun _ h9 => h9) rfl hin rfl (by decide +kernel) rfl rfl (Nat.le_of_ble_eq_true rfl) dX1_init_49 (fun H locs hP hD hS => ?_)
  have hP : va_P (dC, dI) vwCl [(a0, .inr (1, [.int 0, .int 0, .ref q1, .ref q2, .ref q3, .ref q4, .ref q5, .int 0, .ref q6, .null, .int 0, .null, .null, .null, .null, .int 0, .null])), (q1, .inl (kA 0, 12, .inl (fun _ => 0))), (q2, .inl (kA 0, 12, .inl (fun _ => 0))), (q3, .inl (kA 0, 12, .inl (fun _ => 0))), (q4, .inl (kA 0, 12, .inl (fun _ => 0))), (q5, .inl (kA 0, 12, .inl (fun _ => 0))), (q6, .inl (kA 0, 60, .inl (fun _ => 0)))] H := hP
  have hD : va_D A [(a0, .inr (1, [.int 0, .int 0, .ref q1, .ref q2, .ref q3, .ref q4, .ref q5, .int 0, .ref q6, .null, .int 0, .null, .null, .null, .null, .int 0, .null])), (q1, .inl (kA 0, 12, .inl (fun _ => 0))), (q2, .inl (kA 0, 12, .inl (fun _ => 0))), (q3, .inl (kA 0, 12, .inl (fun _ => 0))), (q4, .inl (kA 0, 12, .inl (fun _ => 0))), (q5, .inl (kA 0, 12, .inl (fun _ => 0))), (q6, .inl (kA 0, 60, .inl (fun _ => 0)))] := hD
  refine lv_aload_n hx hb dX1_init_52 rfl (lv_at hl 0 rfl) ?_
  refine lv_bipush (v := 60) hx hb dX1_init_53 (by decide) ?_
  refine z_newi hx hb (kX1_init_4 hts) hK hP hD hS hA 60 (by decide) (by decide) (by decide) (Nat.le_of_ble_eq_true rfl) (Nat.le_of_ble_eq_true rfl) dX1_init_55 (fun q7 H hP hD hS => ?_)
  refine W.widen (k := 7) (n := 180) (Nat.le_of_ble_eq_true rfl) (Nat.le_of_ble_eq_true rfl) ?_
  have hP : va_P (dC, dI) vwCl [(a0, .inr (1, [.int 0, .int 0, .ref q1, .ref q2, .ref q3, .ref q4, .ref q5, .int 0, .ref q6, .null, .int 0, .null, .null, .null, .null, .int 0, .null])), (q1, .inl (kA 0, 12, .inl (fun _ => 0))), (q2, .inl (kA 0, 12, .inl (fun _ => 0))), (q3, .inl (kA 0, 12, .inl (fun _ => 0))), (q4, .inl (kA 0, 12, .inl (fun _ => 0))), (q5, .inl (kA 0, 12, .inl (fun _ => 0))), (q6, .inl (kA 0, 60, .inl (fun _ => 0))), (q7, .inl (kA 0, 60, .inl (fun _ => 0)))] H := hP
  have hD : va_D A [(a0, .inr (1, [.int 0, .int 0, .ref q1, .ref q2, .ref q3, .ref q4, .ref q5, .int 0, .ref q6, .null, .int 0, .null, .null, .null, .null, .int 0, .null])), (q1, .inl (kA 0, 12, .inl (fun _ => 0))), (q2, .inl (kA 0, 12, .inl (fun _ => 0))), (q3, .inl (kA 0, 12, .inl (fun _ => 0))), (q4, .inl (kA 0, 12, .inl (fun _ => 0))), (q5, .inl (kA 0, 12, .inl (fun _ => 0))), (q6, .inl (kA 0, 60, .inl (fun _ => 0))), (q7, .inl (kA 0, 60, .inl (fun _ => 0)))] := hD
  refine va_putF (D := (dC, dI)) (ci := 1) (v := .ref q7) (ty := .array (.int)) (C := RX1) (T := TX1) (N := 17) hx hb hts iX1_init_X1 tyX1 tyX1_ok nmX1 hown hK.1 hP hD hS 0 rfl rfl 9 (by decide) (kX1_init_11 hts) (fun _ h9 => h9) rfl hin rfl (by decide +kernel) rfl rfl (Nat.le_of_ble_eq_true rfl) dX1_init_57 (fun H locs hP hD hS => ?_)
  have hP : va_P (dC, dI) vwCl [(a0, .inr (1, [.int 0, .int 0, .ref q1, .ref q2, .ref q3, .ref q4, .ref q5, .int 0, .ref q6, .ref q7, .int 0, .null, .null, .null, .null, .int 0, .null])), (q1, .inl (kA 0, 12, .inl (fun _ => 0))), (q2, .inl (kA 0, 12, .inl (fun _ => 0))), (q3, .inl (kA 0, 12, .inl (fun _ => 0))), (q4, .inl (kA 0, 12, .inl (fun _ => 0))), (q5, .inl (kA 0, 12, .inl (fun _ => 0))), (q6, .inl (kA 0, 60, .inl (fun _ => 0))), (q7, .inl (kA 0, 60, .inl (fun _ => 0)))] H := hP
  have hD : va_D A [(a0, .inr (1, [.int 0, .int 0, .ref q1, .ref q2, .ref q3, .ref q4, .ref q5, .int 0, .ref q6, .ref q7, .int 0, .null, .null, .null, .null, .int 0, .null])), (q1, .inl (kA 0, 12, .inl (fun _ => 0))), (q2, .inl (kA 0, 12, .inl (fun _ => 0))), (q3, .inl (kA 0, 12, .inl (fun _ => 0))), (q4, .inl (kA 0, 12, .inl (fun _ => 0))), (q5, .inl (kA 0, 12, .inl (fun _ => 0))), (q6, .inl (kA 0, 60, .inl (fun _ => 0))), (q7, .inl (kA 0, 60, .inl (fun _ => 0)))] := hD
  refine lv_aload_n hx hb dX1_init_60 rfl (lv_at hl 0 rfl) ?_
  refine lv_bipush (v := 20) hx hb dX1_init_61 (by decide) ?_
  refine z_newi hx hb (kX1_init_4 hts) hK hP hD hS hA 20 (by decide) (by decide) (by decide) (Nat.le_of_ble_eq_true rfl) (Nat.le_of_ble_eq_true rfl) dX1_init_63 (fun q8 H hP hD hS => ?_)
  refine W.widen (k := 8) (n := 200) (Nat.le_of_ble_eq_true rfl) (Nat.le_of_ble_eq_true rfl) ?_
  have hP : va_P (dC, dI) vwCl [(a0, .inr (1, [.int 0, .int 0, .ref q1, .ref q2, .ref q3, .ref q4, .ref q5, .int 0, .ref q6, .ref q7, .int 0, .null, .null, .null, .null, .int 0, .null])), (q1, .inl (kA 0, 12, .inl (fun _ => 0))), (q2, .inl (kA 0, 12, .inl (fun _ => 0))), (q3, .inl (kA 0, 12, .inl (fun _ => 0))), (q4, .inl (kA 0, 12, .inl (fun _ => 0))), (q5, .inl (kA 0, 12, .inl (fun _ => 0))), (q6, .inl (kA 0, 60, .inl (fun _ => 0))), (q7, .inl (kA 0, 60, .inl (fun _ => 0))), (q8, .inl (kA 0, 20, .inl (fun _ => 0)))] H := hP
  have hD : va_D A [(a0, .inr (1, [.int 0, .int 0, .ref q1, .ref q2, .ref q3, .ref q4, .ref q5, .int 0, .ref q6, .ref q7, .int 0, .null, .null, .null, .null, .int 0, .null])), (q1, .inl (kA 0, 12, .inl (fun _ => 0))), (q2, .inl (kA 0, 12, .inl (fun _ => 0))), (q3, .inl (kA 0, 12, .inl (fun _ => 0))), (q4, .inl (kA 0, 12, .inl (fun _ => 0))), (q5, .inl (kA 0, 12, .inl (fun _ => 0))), (q6, .inl (kA 0, 60, .inl (fun _ => 0))), (q7, .inl (kA 0, 60, .inl (fun _ => 0))), (q8, .inl (kA 0, 20, .inl (fun _ => 0)))] := hD
  refine va_putF (D := (dC, dI)) (ci := 1) (v := .ref q8) (ty := .array (.int)) (C := RX1) (T := TX1) (N := 17) hx hb hts iX1_init_X1 tyX1 tyX1_ok nmX1 hown hK.1 hP hD hS 0 rfl rfl 11 (by decide) (kX1_init_12 hts) (fun _ h9 => h9) rfl hin rfl (by decide +kernel) rfl rfl (Nat.le_of_ble_eq_true rfl) dX1_init_65 (fun H locs hP hD hS => ?_)
  have hP : va_P (dC, dI) vwCl [(a0, .inr (1, [.int 0, .int 0, .ref q1, .ref q2, .ref q3, .ref q4, .ref q5, .int 0, .ref q6, .ref q7, .int 0, .ref q8, .null, .null, .null, .int 0, .null])), (q1, .inl (kA 0, 12, .inl (fun _ => 0))), (q2, .inl (kA 0, 12, .inl (fun _ => 0))), (q3, .inl (kA 0, 12, .inl (fun _ => 0))), (q4, .inl (kA 0, 12, .inl (fun _ => 0))), (q5, .inl (kA 0, 12, .inl (fun _ => 0))), (q6, .inl (kA 0, 60, .inl (fun _ => 0))), (q7, .inl (kA 0, 60, .inl (fun _ => 0))), (q8, .inl (kA 0, 20, .inl (fun _ => 0)))] H := hP
  have hD : va_D A [(a0, .inr (1, [.int 0, .int 0, .ref q1, .ref q2, .ref q3, .ref q4, .ref q5, .int 0, .ref q6, .ref q7, .int 0, .ref q8, .null, .null, .null, .int 0, .null])), (q1, .inl (kA 0, 12, .inl (fun _ => 0))), (q2, .inl (kA 0, 12, .inl (fun _ => 0))), (q3, .inl (kA 0, 12, .inl (fun _ => 0))), (q4, .inl (kA 0, 12, .inl (fun _ => 0))), (q5, .inl (kA 0, 12, .inl (fun _ => 0))), (q6, .inl (kA 0, 60, .inl (fun _ => 0))), (q7, .inl (kA 0, 60, .inl (fun _ => 0))), (q8, .inl (kA 0, 20, .inl (fun _ => 0)))] := hD
  refine lv_aload_n hx hb dX1_init_68 rfl (lv_at hl 0 rfl) ?_
  refine lv_bipush (v := 20) hx hb dX1_init_69 (by decide) ?_
  refine z_newi hx hb (kX1_init_4 hts) hK hP hD hS hA 20 (by decide) (by decide) (by decide) (Nat.le_of_ble_eq_true rfl) (Nat.le_of_ble_eq_true rfl) dX1_init_71 (fun q9 H hP hD hS => ?_)
  refine W.widen (k := 9) (n := 220) (Nat.le_of_ble_eq_true rfl) (Nat.le_of_ble_eq_true rfl) ?_
  have hP : va_P (dC, dI) vwCl [(a0, .inr (1, [.int 0, .int 0, .ref q1, .ref q2, .ref q3, .ref q4, .ref q5, .int 0, .ref q6, .ref q7, .int 0, .ref q8, .null, .null, .null, .int 0, .null])), (q1, .inl (kA 0, 12, .inl (fun _ => 0))), (q2, .inl (kA 0, 12, .inl (fun _ => 0))), (q3, .inl (kA 0, 12, .inl (fun _ => 0))), (q4, .inl (kA 0, 12, .inl (fun _ => 0))), (q5, .inl (kA 0, 12, .inl (fun _ => 0))), (q6, .inl (kA 0, 60, .inl (fun _ => 0))), (q7, .inl (kA 0, 60, .inl (fun _ => 0))), (q8, .inl (kA 0, 20, .inl (fun _ => 0))), (q9, .inl (kA 0, 20, .inl (fun _ => 0)))] H := hP
  have hD : va_D A [(a0, .inr (1, [.int 0, .int 0, .ref q1, .ref q2, .ref q3, .ref q4, .ref q5, .int 0, .ref q6, .ref q7, .int 0, .ref q8, .null, .null, .null, .int 0, .null])), (q1, .inl (kA 0, 12, .inl (fun _ => 0))), (q2, .inl (kA 0, 12, .inl (fun _ => 0))), (q3, .inl (kA 0, 12, .inl (fun _ => 0))), (q4, .inl (kA 0, 12, .inl (fun _ => 0))), (q5, .inl (kA 0, 12, .inl (fun _ => 0))), (q6, .inl (kA 0, 60, .inl (fun _ => 0))), (q7, .inl (kA 0, 60, .inl (fun _ => 0))), (q8, .inl (kA 0, 20, .inl (fun _ => 0))), (q9, .inl (kA 0, 20, .inl (fun _ => 0)))] := hD
  refine va_putF (D := (dC, dI)) (ci := 1) (v := .ref q9) (ty := .array (.int)) (C := RX1) (T := TX1) (N := 17) hx hb hts iX1_init_X1 tyX1 tyX1_ok nmX1 hown hK.1 hP hD hS 0 rfl rfl 12 (by decide) (kX1_init_13 hts) (fun _ h9 => h9) rfl hin rfl (by decide +kernel) rfl rfl (Nat.le_of_ble_eq_true rfl) dX1_init_73 (fun H locs hP hD hS => ?_)
  have hP : va_P (dC, dI) vwCl [(a0, .inr (1, [.int 0, .int 0, .ref q1, .ref q2, .ref q3, .ref q4, .ref q5, .int 0, .ref q6, .ref q7, .int 0, .ref q8, .ref q9, .null, .null, .int 0, .null])), (q1, .inl (kA 0, 12, .inl (fun _ => 0))), (q2, .inl (kA 0, 12, .inl (fun _ => 0))), (q3, .inl (kA 0, 12, .inl (fun _ => 0))), (q4, .inl (kA 0, 12, .inl (fun _ => 0))), (q5, .inl (kA 0, 12, .inl (fun _ => 0))), (q6, .inl (kA 0, 60, .inl (fun _ => 0))), (q7, .inl (kA 0, 60, .inl (fun _ => 0))), (q8, .inl (kA 0, 20, .inl (fun _ => 0))), (q9, .inl (kA 0, 20, .inl (fun _ => 0)))] H := hP
  have hD : va_D A [(a0, .inr (1, [.int 0, .int 0, .ref q1, .ref q2, .ref q3, .ref q4, .ref q5, .int 0, .ref q6, .ref q7, .int 0, .ref q8, .ref q9, .null, .null, .int 0, .null])), (q1, .inl (kA 0, 12, .inl (fun _ => 0))), (q2, .inl (kA 0, 12, .inl (fun _ => 0))), (q3, .inl (kA 0, 12, .inl (fun _ => 0))), (q4, .inl (kA 0, 12, .inl (fun _ => 0))), (q5, .inl (kA 0, 12, .inl (fun _ => 0))), (q6, .inl (kA 0, 60, .inl (fun _ => 0))), (q7, .inl (kA 0, 60, .inl (fun _ => 0))), (q8, .inl (kA 0, 20, .inl (fun _ => 0))), (q9, .inl (kA 0, 20, .inl (fun _ => 0)))] := hD
  refine lv_aload_n hx hb dX1_init_76 rfl (lv_at hl 0 rfl) ?_
  refine lv_bipush (v := 20) hx hb dX1_init_77 (by decide) ?_
  refine z_newi hx hb (kX1_init_4 hts) hK hP hD hS hA 20 (by decide) (by decide) (by decide) (Nat.le_of_ble_eq_true rfl) (Nat.le_of_ble_eq_true rfl) dX1_init_79 (fun q10 H hP hD hS => ?_)
  refine W.widen (k := 10) (n := 240) (Nat.le_of_ble_eq_true rfl) (Nat.le_of_ble_eq_true rfl) ?_
  have hP : va_P (dC, dI) vwCl [(a0, .inr (1, [.int 0, .int 0, .ref q1, .ref q2, .ref q3, .ref q4, .ref q5, .int 0, .ref q6, .ref q7, .int 0, .ref q8, .ref q9, .null, .null, .int 0, .null])), (q1, .inl (kA 0, 12, .inl (fun _ => 0))), (q2, .inl (kA 0, 12, .inl (fun _ => 0))), (q3, .inl (kA 0, 12, .inl (fun _ => 0))), (q4, .inl (kA 0, 12, .inl (fun _ => 0))), (q5, .inl (kA 0, 12, .inl (fun _ => 0))), (q6, .inl (kA 0, 60, .inl (fun _ => 0))), (q7, .inl (kA 0, 60, .inl (fun _ => 0))), (q8, .inl (kA 0, 20, .inl (fun _ => 0))), (q9, .inl (kA 0, 20, .inl (fun _ => 0))), (q10, .inl (kA 0, 20, .inl (fun _ => 0)))] H := hP
  have hD : va_D A [(a0, .inr (1, [.int 0, .int 0, .ref q1, .ref q2, .ref q3, .ref q4, .ref q5, .int 0, .ref q6, .ref q7, .int 0, .ref q8, .ref q9, .null, .null, .int 0, .null])), (q1, .inl (kA 0, 12, .inl (fun _ => 0))), (q2, .inl (kA 0, 12, .inl (fun _ => 0))), (q3, .inl (kA 0, 12, .inl (fun _ => 0))), (q4, .inl (kA 0, 12, .inl (fun _ => 0))), (q5, .inl (kA 0, 12, .inl (fun _ => 0))), (q6, .inl (kA 0, 60, .inl (fun _ => 0))), (q7, .inl (kA 0, 60, .inl (fun _ => 0))), (q8, .inl (kA 0, 20, .inl (fun _ => 0))), (q9, .inl (kA 0, 20, .inl (fun _ => 0))), (q10, .inl (kA 0, 20, .inl (fun _ => 0)))] := hD
  refine va_putF (D := (dC, dI)) (ci := 1) (v := .ref q10) (ty := .array (.int)) (C := RX1) (T := TX1) (N := 17) hx hb hts iX1_init_X1 tyX1 tyX1_ok nmX1 hown hK.1 hP hD hS 0 rfl rfl 13 (by decide) (kX1_init_14 hts) (fun _ h9 => h9) rfl hin rfl (by decide +kernel) rfl rfl (Nat.le_of_ble_eq_true rfl) dX1_init_81 (fun H locs hP hD hS => ?_)
  have hP : va_P (dC, dI) vwCl [(a0, .inr (1, [.int 0, .int 0, .ref q1, .ref q2, .ref q3, .ref q4, .ref q5, .int 0, .ref q6, .ref q7, .int 0, .ref q8, .ref q9, .ref q10, .null, .int 0, .null])), (q1, .inl (kA 0, 12, .inl (fun _ => 0))), (q2, .inl (kA 0, 12, .inl (fun _ => 0))), (q3, .inl (kA 0, 12, .inl (fun _ => 0))), (q4, .inl (kA 0, 12, .inl (fun _ => 0))), (q5, .inl (kA 0, 12, .inl (fun _ => 0))), (q6, .inl (kA 0, 60, .inl (fun _ => 0))), (q7, .inl (kA 0, 60, .inl (fun _ => 0))), (q8, .inl (kA 0, 20, .inl (fun _ => 0))), (q9, .inl (kA 0, 20, .inl (fun _ => 0))), (q10, .inl (kA 0, 20, .inl (fun _ => 0)))] H := hP
  have hD : va_D A [(a0, .inr (1, [.int 0, .int 0, .ref q1, .ref q2, .ref q3, .ref q4, .ref q5, .int 0, .ref q6, .ref q7, .int 0, .ref q8, .ref q9, .ref q10, .null, .int 0, .null])), (q1, .inl (kA 0, 12, .inl (fun _ => 0))), (q2, .inl (kA 0, 12, .inl (fun _ => 0))), (q3, .inl (kA 0, 12, .inl (fun _ => 0))), (q4, .inl (kA 0, 12, .inl (fun _ => 0))), (q5, .inl (kA 0, 12, .inl (fun _ => 0))), (q6, .inl (kA 0, 60, .inl (fun _ => 0))), (q7, .inl (kA 0, 60, .inl (fun _ => 0))), (q8, .inl (kA 0, 20, .inl (fun _ => 0))), (q9, .inl (kA 0, 20, .inl (fun _ => 0))), (q10, .inl (kA 0, 20, .inl (fun _ => 0)))] := hD
  refine lv_aload_n hx hb dX1_init_84 rfl (lv_at hl 0 rfl) ?_
  refine lv_bipush (v := 20) hx hb dX1_init_85 (by decide) ?_
  refine z_newi hx hb (kX1_init_4 hts) hK hP hD hS hA 20 (by decide) (by decide) (by decide) (Nat.le_of_ble_eq_true rfl) (Nat.le_of_ble_eq_true rfl) dX1_init_87 (fun q11 H hP hD hS => ?_)
  refine W.widen (k := 11) (n := 260) (Nat.le_of_ble_eq_true rfl) (Nat.le_of_ble_eq_true rfl) ?_
  have hP : va_P (dC, dI) vwCl [(a0, .inr (1, [.int 0, .int 0, .ref q1, .ref q2, .ref q3, .ref q4, .ref q5, .int 0, .ref q6, .ref q7, .int 0, .ref q8, .ref q9, .ref q10, .null, .int 0, .null])), (q1, .inl (kA 0, 12, .inl (fun _ => 0))), (q2, .inl (kA 0, 12, .inl (fun _ => 0))), (q3, .inl (kA 0, 12, .inl (fun _ => 0))), (q4, .inl (kA 0, 12, .inl (fun _ => 0))), (q5, .inl (kA 0, 12, .inl (fun _ => 0))), (q6, .inl (kA 0, 60, .inl (fun _ => 0))), (q7, .inl (kA 0, 60, .inl (fun _ => 0))), (q8, .inl (kA 0, 20, .inl (fun _ => 0))), (q9, .inl (kA 0, 20, .inl (fun _ => 0))), (q10, .inl (kA 0, 20, .inl (fun _ => 0))), (q11, .inl (kA 0, 20, .inl (fun _ => 0)))] H := hP
  have hD : va_D A [(a0, .inr (1, [.int 0, .int 0, .ref q1, .ref q2, .ref q3, .ref q4, .ref q5, .int 0, .ref q6, .ref q7, .int 0, .ref q8, .ref q9, .ref q10, .null, .int 0, .null])), (q1, .inl (kA 0, 12, .inl (fun _ => 0))), (q2, .inl (kA 0, 12, .inl (fun _ => 0))), (q3, .inl (kA 0, 12, .inl (fun _ => 0))), (q4, .inl (kA 0, 12, .inl (fun _ => 0))), (q5, .inl (kA 0, 12, .inl (fun _ => 0))), (q6, .inl (kA 0, 60, .inl (fun _ => 0))), (q7, .inl (kA 0, 60, .inl (fun _ => 0))), (q8, .inl (kA 0, 20, .inl (fun _ => 0))), (q9, .inl (kA 0, 20, .inl (fun _ => 0))), (q10, .inl (kA 0, 20, .inl (fun _ => 0))), (q11, .inl (kA 0, 20, .inl (fun _ => 0)))] := hD
  refine va_putF (D := (dC, dI)) (ci := 1) (v := .ref q11) (ty := .array (.int)) (C := RX1) (T := TX1) (N := 17) hx hb hts iX1_init_X1 tyX1 tyX1_ok nmX1 hown hK.1 hP hD hS 0 rfl rfl 14 (by decide) (kX1_init_15 hts) (fun _ h9 => h9) rfl hin rfl (by decide +kernel) rfl rfl (Nat.le_of_ble_eq_true rfl) dX1_init_89 (fun H locs hP hD hS => ?_)
  have hP : va_P (dC, dI) vwCl [(a0, .inr (1, [.int 0, .int 0, .ref q1, .ref q2, .ref q3, .ref q4, .ref q5, .int 0, .ref q6, .ref q7, .int 0, .ref q8, .ref q9, .ref q10, .ref q11, .int 0, .null])), (q1, .inl (kA 0, 12, .inl (fun _ => 0))), (q2, .inl (kA 0, 12, .inl (fun _ => 0))), (q3, .inl (kA 0, 12, .inl (fun _ => 0))), (q4, .inl (kA 0, 12, .inl (fun _ => 0))), (q5, .inl (kA 0, 12, .inl (fun _ => 0))), (q6, .inl (kA 0, 60, .inl (fun _ => 0))), (q7, .inl (kA 0, 60, .inl (fun _ => 0))), (q8, .inl (kA 0, 20, .inl (fun _ => 0))), (q9, .inl (kA 0, 20, .inl (fun _ => 0))), (q10, .inl (kA 0, 20, .inl (fun _ => 0))), (q11, .inl (kA 0, 20, .inl (fun _ => 0)))] H := hP
  have hD : va_D A [(a0, .inr (1, [.int 0, .int 0, .ref q1, .ref q2, .ref q3, .ref q4, .ref q5, .int 0, .ref q6, .ref q7, .int 0, .ref q8, .ref q9, .ref q10, .ref q11, .int 0, .null])), (q1, .inl (kA 0, 12, .inl (fun _ => 0))), (q2, .inl (kA 0, 12, .inl (fun _ => 0))), (q3, .inl (kA 0, 12, .inl (fun _ => 0))), (q4, .inl (kA 0, 12, .inl (fun _ => 0))), (q5, .inl (kA 0, 12, .inl (fun _ => 0))), (q6, .inl (kA 0, 60, .inl (fun _ => 0))), (q7, .inl (kA 0, 60, .inl (fun _ => 0))), (q8, .inl (kA 0, 20, .inl (fun _ => 0))), (q9, .inl (kA 0, 20, .inl (fun _ => 0))), (q10, .inl (kA 0, 20, .inl (fun _ => 0))), (q11, .inl (kA 0, 20, .inl (fun _ => 0)))] := hD
  refine lv_aload_n hx hb dX1_init_92 rfl (lv_at hl 0 rfl) ?_
  refine lv_sipush (v := 256) hx hb dX1_init_93 (by decide) ?_
  refine z_newi hx hb (kX1_init_4 hts) hK hP hD hS hA 256 (by decide) (by decide) (by decide) (Nat.le_of_ble_eq_true rfl) (Nat.le_of_ble_eq_true rfl) dX1_init_96 (fun q12 H hP hD hS => ?_)
  refine W.widen (k := 12) (n := 516) (Nat.le_of_ble_eq_true rfl) (Nat.le_of_ble_eq_true rfl) ?_
  have hP : va_P (dC, dI) vwCl [(a0, .inr (1, [.int 0, .int 0, .ref q1, .ref q2, .ref q3, .ref q4, .ref q5, .int 0, .ref q6, .ref q7, .int 0, .ref q8, .ref q9, .ref q10, .ref q11, .int 0, .null])), (q1, .inl (kA 0, 12, .inl (fun _ => 0))), (q2, .inl (kA 0, 12, .inl (fun _ => 0))), (q3, .inl (kA 0, 12, .inl (fun _ => 0))), (q4, .inl (kA 0, 12, .inl (fun _ => 0))), (q5, .inl (kA 0, 12, .inl (fun _ => 0))), (q6, .inl (kA 0, 60, .inl (fun _ => 0))), (q7, .inl (kA 0, 60, .inl (fun _ => 0))), (q8, .inl (kA 0, 20, .inl (fun _ => 0))), (q9, .inl (kA 0, 20, .inl (fun _ => 0))), (q10, .inl (kA 0, 20, .inl (fun _ => 0))), (q11, .inl (kA 0, 20, .inl (fun _ => 0))), (q12, .inl (kA 0, 256, .inl (fun _ => 0)))] H := hP
  have hD : va_D A [(a0, .inr (1, [.int 0, .int 0, .ref q1, .ref q2, .ref q3, .ref q4, .ref q5, .int 0, .ref q6, .ref q7, .int 0, .ref q8, .ref q9, .ref q10, .ref q11, .int 0, .null])), (q1, .inl (kA 0, 12, .inl (fun _ => 0))), (q2, .inl (kA 0, 12, .inl (fun _ => 0))), (q3, .inl (kA 0, 12, .inl (fun _ => 0))), (q4, .inl (kA 0, 12, .inl (fun _ => 0))), (q5, .inl (kA 0, 12, .inl (fun _ => 0))), (q6, .inl (kA 0, 60, .inl (fun _ => 0))), (q7, .inl (kA 0, 60, .inl (fun _ => 0))), (q8, .inl (kA 0, 20, .inl (fun _ => 0))), (q9, .inl (kA 0, 20, .inl (fun _ => 0))), (q10, .inl (kA 0, 20, .inl (fun _ => 0))), (q11, .inl (kA 0, 20, .inl (fun _ => 0))), (q12, .inl (kA 0, 256, .inl (fun _ => 0)))] := hD
  refine va_putF (D := (dC, dI)) (ci := 1) (v := .ref q12) (ty := .array (.int)) (C := RX1) (T := TX1) (N := 17) hx hb hts iX1_init_X1 tyX1 tyX1_ok nmX1 hown hK.1 hP hD hS 0 rfl rfl 16 (by decide) (kX1_init_16 hts) (fun _ h9 => h9) rfl hin rfl (by decide +kernel) rfl rfl (Nat.le_of_ble_eq_true rfl) dX1_init_98 (fun H locs hP hD hS => ?_)
  have hP : va_P (dC, dI) vwCl [(a0, .inr (1, [.int 0, .int 0, .ref q1, .ref q2, .ref q3, .ref q4, .ref q5, .int 0, .ref q6, .ref q7, .int 0, .ref q8, .ref q9, .ref q10, .ref q11, .int 0, .ref q12])), (q1, .inl (kA 0, 12, .inl (fun _ => 0))), (q2, .inl (kA 0, 12, .inl (fun _ => 0))), (q3, .inl (kA 0, 12, .inl (fun _ => 0))), (q4, .inl (kA 0, 12, .inl (fun _ => 0))), (q5, .inl (kA 0, 12, .inl (fun _ => 0))), (q6, .inl (kA 0, 60, .inl (fun _ => 0))), (q7, .inl (kA 0, 60, .inl (fun _ => 0))), (q8, .inl (kA 0, 20, .inl (fun _ => 0))), (q9, .inl (kA 0, 20, .inl (fun _ => 0))), (q10, .inl (kA 0, 20, .inl (fun _ => 0))), (q11, .inl (kA 0, 20, .inl (fun _ => 0))), (q12, .inl (kA 0, 256, .inl (fun _ => 0)))] H := hP
  have hD : va_D A [(a0, .inr (1, [.int 0, .int 0, .ref q1, .ref q2, .ref q3, .ref q4, .ref q5, .int 0, .ref q6, .ref q7, .int 0, .ref q8, .ref q9, .ref q10, .ref q11, .int 0, .ref q12])), (q1, .inl (kA 0, 12, .inl (fun _ => 0))), (q2, .inl (kA 0, 12, .inl (fun _ => 0))), (q3, .inl (kA 0, 12, .inl (fun _ => 0))), (q4, .inl (kA 0, 12, .inl (fun _ => 0))), (q5, .inl (kA 0, 12, .inl (fun _ => 0))), (q6, .inl (kA 0, 60, .inl (fun _ => 0))), (q7, .inl (kA 0, 60, .inl (fun _ => 0))), (q8, .inl (kA 0, 20, .inl (fun _ => 0))), (q9, .inl (kA 0, 20, .inl (fun _ => 0))), (q10, .inl (kA 0, 20, .inl (fun _ => 0))), (q11, .inl (kA 0, 20, .inl (fun _ => 0))), (q12, .inl (kA 0, 256, .inl (fun _ => 0)))] := hD
  have hP9 := hP.sub (ws' := []) [] rfl
  have hD9 := hD.sub (ws' := []) [] (by decide) rfl
  refine W.widen (k := 12) (n := 516) (Nat.le_of_ble_eq_true rfl) (Nat.le_of_ble_eq_true rfl) ?_
  exact W.vret hx hb hr (fun t ht hW => ⟨⟨(), rfl, trivial, by rw [ht]; exact hP9, hD9⟩, hS.F ht⟩) hS.2.2 dX1_init_101
end
section
set_option maxHeartbeats 4000000 in
set_option maxRecDepth 100000 in
theorem mX2_init (l : Launch) (dC : Nat → ClassId) (dI : Nat → Nat → Nat) (kA : Nat → ClassId) (sz : Nat) (a0 : Nat)  : Met l yX2_init wsX2_init ({ frames := 2, cells := 15, slots := 1335, locals := 32 }) (zPc dC dI kA sz [.ref a0] [(a0, .inr (2, [.null, .null, .int 0, .int 0, .int 0, .int 0, .int 0, .null]))]) (va_Qv (fun (u : Nat × Nat × Nat) => True) (zB dC dI (va_A [(a0, .inr (2, [.null, .null, .int 0, .int 0, .int 0, .int 0, .int 0, .null]))] sz) (fun (u : Nat × Nat × Nat) => [(a0, .inr (2, [.ref u.1, .ref u.2.1, .int 0, .int 0, .int 0, .int 0, .int 0, .ref u.2.2])), (u.1, .inl (kA 0, 401, .inl (fun _ => 0))), (u.2.1, .inl (kA 0, 401, .inl (fun _ => 0)))])) (va_A [(a0, .inr (2, [.null, .null, .int 0, .int 0, .int 0, .int 0, .int 0, .null]))] sz)) 15 1335 (va_A [(a0, .inr (2, [.null, .null, .int 0, .int 0, .int 0, .int 0, .int 0, .null]))] sz) := by
  refine Met.ofW (cc := cX2_init) (maxL := 1) (ret := none) (by decide) rfl ?_
  intro p e s m args below meth c s₁ B hml hv
  obtain ⟨rfl, hsz, hP, hK, hD0⟩ := hv
  have hx := B.exec
  have hb := B.bytes
  have hr := B.returns
  have hts := atoms_spec (ws := wsX2_init) B.pre
  have hown : s.vm.findClass RX2 = some m.cls := findClass_of_methodNamed B.named
  have hlocks := B.notSynchronized
  have hin : meth.name = "<init>" := (name_of_methodNamed B.named B.method).1
  subst hsz
  have hD := hD0.self (sz := s.heap.size)
  generalize hAe : va_A [(a0, .inr (2, [.null, .null, .int 0, .int 0, .int 0, .int 0, .int 0, .null]))] s.heap.size = A at hD ⊢
  have hA : ∀ q : Nat, s.heap.size ≤ q → A q := fun q h => by rw [← hAe]; exact Or.inr h
  have hS : va_S A s.heap s.heap [] := va_S.rf
  have hP : va_P (dC, dI) vwCl [(a0, .inr (2, [.null, .null, .int 0, .int 0, .int 0, .int 0, .int 0, .null]))] s.heap := hP
  have hl := lv_entry ([.ref a0]) (n := 1) (Nat.le_of_ble_eq_true rfl)
  rw [lg_entry_eq]
  generalize (lg_sl ([.ref a0]) ++ List.replicate (1 - (lg_sl ([.ref a0])).length) Slot.unset).toArray = ls at hl ⊢
  have hl : lv_has ls 1 [(0, .ref a0)] := hl
  refine lv_aload_n hx hb dX2_init_0 rfl (lv_at hl 0 rfl) ?_
  refine W.objInit hx hb hown (kX2_init_1 hts) (kX2_init_2 hts) (kX2_init_3 hts) rfl (by rw [hml]; exact hl.1) rfl dX2_init_1 (Nat.le_of_ble_eq_true rfl) (Nat.le_of_ble_eq_true rfl) ?_
  refine W.eq (g2 := F0 m 4 ls []) rfl ?_
  refine lv_aload_n hx hb dX2_init_4 rfl (lv_at hl 0 rfl) ?_
  refine lv_sipush (v := 401) hx hb dX2_init_5 (by decide) ?_
  refine z_newi hx hb (kX2_init_4 hts) hK hP hD hS hA 401 (by decide) (by decide) (by decide) (Nat.le_of_ble_eq_true rfl) (Nat.le_of_ble_eq_true rfl) dX2_init_8 (fun q1 H hP hD hS => ?_)
  refine W.widen (k := 1) (n := 401) (Nat.le_of_ble_eq_true rfl) (Nat.le_of_ble_eq_true rfl) ?_
  have hP : va_P (dC, dI) vwCl [(a0, .inr (2, [.null, .null, .int 0, .int 0, .int 0, .int 0, .int 0, .null])), (q1, .inl (kA 0, 401, .inl (fun _ => 0)))] H := hP
  have hD : va_D A [(a0, .inr (2, [.null, .null, .int 0, .int 0, .int 0, .int 0, .int 0, .null])), (q1, .inl (kA 0, 401, .inl (fun _ => 0)))] := hD
  refine va_putF (D := (dC, dI)) (ci := 2) (v := .ref q1) (ty := .array (.int)) (C := RX2) (T := TX2) (N := 8) hx hb hts iX2_init_X2 tyX2 tyX2_ok nmX2 hown hK.1 hP hD hS 0 rfl rfl 0 (by decide) (kX2_init_5 hts) (fun _ h9 => h9) rfl hin rfl (by decide +kernel) rfl rfl (Nat.le_of_ble_eq_true rfl) dX2_init_10 (fun H locs hP hD hS => ?_)
  have hP : va_P (dC, dI) vwCl [(a0, .inr (2, [.ref q1, .null, .int 0, .int 0, .int 0, .int 0, .int 0, .null])), (q1, .inl (kA 0, 401, .inl (fun _ => 0)))] H := hP
  have hD : va_D A [(a0, .inr (2, [.ref q1, .null, .int 0, .int 0, .int 0, .int 0, .int 0, .null])), (q1, .inl (kA 0, 401, .inl (fun _ => 0)))] := hD
  refine lv_aload_n hx hb dX2_init_13 rfl (lv_at hl 0 rfl) ?_
  refine lv_sipush (v := 401) hx hb dX2_init_14 (by decide) ?_
  refine z_newi hx hb (kX2_init_4 hts) hK hP hD hS hA 401 (by decide) (by decide) (by decide) (Nat.le_of_ble_eq_true rfl) (Nat.le_of_ble_eq_true rfl) dX2_init_17 (fun q2 H hP hD hS => ?_)
  refine W.widen (k := 2) (n := 802) (Nat.le_of_ble_eq_true rfl) (Nat.le_of_ble_eq_true rfl) ?_
  have hP : va_P (dC, dI) vwCl [(a0, .inr (2, [.ref q1, .null, .int 0, .int 0, .int 0, .int 0, .int 0, .null])), (q1, .inl (kA 0, 401, .inl (fun _ => 0))), (q2, .inl (kA 0, 401, .inl (fun _ => 0)))] H := hP
  have hD : va_D A [(a0, .inr (2, [.ref q1, .null, .int 0, .int 0, .int 0, .int 0, .int 0, .null])), (q1, .inl (kA 0, 401, .inl (fun _ => 0))), (q2, .inl (kA 0, 401, .inl (fun _ => 0)))] := hD
  refine va_putF (D := (dC, dI)) (ci := 2) (v := .ref q2) (ty := .array (.int)) (C := RX2) (T := TX2) (N := 8) hx hb hts iX2_init_X2 tyX2 tyX2_ok nmX2 hown hK.1 hP hD hS 0 rfl rfl 1 (by decide) (kX2_init_6 hts) (fun _ h9 => h9) rfl hin rfl (by decide +kernel) rfl rfl (Nat.le_of_ble_eq_true rfl) dX2_init_19 (fun H locs hP hD hS => ?_)
  have hP : va_P (dC, dI) vwCl [(a0, .inr (2, [.ref q1, .ref q2, .int 0, .int 0, .int 0, .int 0, .int 0, .null])), (q1, .inl (kA 0, 401, .inl (fun _ => 0))), (q2, .inl (kA 0, 401, .inl (fun _ => 0)))] H := hP
  have hD : va_D A [(a0, .inr (2, [.ref q1, .ref q2, .int 0, .int 0, .int 0, .int 0, .int 0, .null])), (q1, .inl (kA 0, 401, .inl (fun _ => 0))), (q2, .inl (kA 0, 401, .inl (fun _ => 0)))] := hD
  refine lv_aload_n hx hb dX2_init_22 rfl (lv_at hl 0 rfl) ?_
  refine va_new (ci := 1) (fs := [.int 0, .int 0, .null, .null, .null, .null, .null, .int 0, .null, .null, .int 0, .null, .null, .null, .null, .int 0, .null]) (C := RX1) (T := TX1) (N := 17) hx hb hts iX2_init_X1 tyX1 tyX1_ok hown (kX2_init_7 hts) (kX2_init_8 hts) (kX2_init_9 hts) hK.1 hP hD hS hA rfl fsX1 (Nat.le_of_ble_eq_true rfl) (Nat.le_of_ble_eq_true rfl) dX2_init_23 (fun q3 H hP hD hS => ?_)
  refine W.widen (k := 3) (n := 819) (Nat.le_of_ble_eq_true rfl) (Nat.le_of_ble_eq_true rfl) ?_
  have hP : va_P (dC, dI) vwCl [(a0, .inr (2, [.ref q1, .ref q2, .int 0, .int 0, .int 0, .int 0, .int 0, .null])), (q1, .inl (kA 0, 401, .inl (fun _ => 0))), (q2, .inl (kA 0, 401, .inl (fun _ => 0))), (q3, .inr (1, [.int 0, .int 0, .null, .null, .null, .null, .null, .int 0, .null, .null, .int 0, .null, .null, .null, .null, .int 0, .null]))] H := hP
  have hD : va_D A [(a0, .inr (2, [.ref q1, .ref q2, .int 0, .int 0, .int 0, .int 0, .int 0, .null])), (q1, .inl (kA 0, 401, .inl (fun _ => 0))), (q2, .inl (kA 0, 401, .inl (fun _ => 0))), (q3, .inr (1, [.int 0, .int 0, .null, .null, .null, .null, .null, .int 0, .null, .null, .int 0, .null, .null, .null, .null, .int 0, .null]))] := hD
  refine lv_dup hx hb dX2_init_26 rfl ?_
  refine z_v (wr := [(a0, .inr (2, [.ref q1, .ref q2, .int 0, .int 0, .int 0, .int 0, .int 0, .null])), (q1, .inl (kA 0, 401, .inl (fun _ => 0))), (q2, .inl (kA 0, 401, .inl (fun _ => 0)))]) (va_runIN (As := []) (rest := [.ref q3, .ref a0]) ⟨hx, hb, hml, hown, hts⟩ (mX1_init l dC dI kA _ q3) ⟨va_cnB 0 hts gX2_init_X1_init_n22 rfl rfl rfl hK.2.1.2.2.1 (kX2_init_9 hts) (by decide +kernel) ⟨(Nat.le_of_ble_eq_true rfl), (Nat.le_of_ble_eq_true rfl)⟩, rfl, (kX2_init_11 hts)⟩ ⟨zPc.blind, zPre hK (hP.sub [3] rfl) (hD.sub [3] (by decide) rfl)⟩ rfl rfl hl.1 rfl (lv_room (Nat.le_of_ble_eq_true rfl)) dX2_init_27 ⟨(Nat.le_of_ble_eq_true rfl), (Nat.le_of_ble_eq_true rfl)⟩) hP hD hS hA [3] [0, 1, 2] rfl rfl (by decide) (by decide) (fun u4 H locs hw5 hP hD hS => ?_)
  refine W.widen (k := 15) (n := 1335) (Nat.le_of_ble_eq_true rfl) (Nat.le_of_ble_eq_true rfl) ?_
  have hP : va_P (dC, dI) vwCl [(a0, .inr (2, [.ref q1, .ref q2, .int 0, .int 0, .int 0, .int 0, .int 0, .null])), (q1, .inl (kA 0, 401, .inl (fun _ => 0))), (q2, .inl (kA 0, 401, .inl (fun _ => 0)))] H := hP
  have hD : va_D A [(a0, .inr (2, [.ref q1, .ref q2, .int 0, .int 0, .int 0, .int 0, .int 0, .null])), (q1, .inl (kA 0, 401, .inl (fun _ => 0))), (q2, .inl (kA 0, 401, .inl (fun _ => 0)))] := hD
  refine va_put (D := (dC, dI)) (ci := 2) (v := .ref q3) (ty := .object "SnowMules$Law") (C := RX2) (T := TX2) (N := 8) hx hb hts iX2_init_X2 tyX2 tyX2_ok nmX2 hown hK.1 hP hD hS 0 rfl rfl 7 (by decide) (kX2_init_10 hts) (fun _ h9 => h9) rfl (by decide +kernel) rfl rfl (Nat.le_of_ble_eq_true rfl) dX2_init_30 (fun H locs hP hD hS => ?_)
  have hP : va_P (dC, dI) vwCl [(a0, .inr (2, [.ref q1, .ref q2, .int 0, .int 0, .int 0, .int 0, .int 0, .ref q3])), (q1, .inl (kA 0, 401, .inl (fun _ => 0))), (q2, .inl (kA 0, 401, .inl (fun _ => 0)))] H := hP
  have hD : va_D A [(a0, .inr (2, [.ref q1, .ref q2, .int 0, .int 0, .int 0, .int 0, .int 0, .ref q3])), (q1, .inl (kA 0, 401, .inl (fun _ => 0))), (q2, .inl (kA 0, 401, .inl (fun _ => 0)))] := hD
  have hP9 := hP.sub (ws' := [(a0, .inr (2, [.ref q1, .ref q2, .int 0, .int 0, .int 0, .int 0, .int 0, .ref q3])), (q1, .inl (kA 0, 401, .inl (fun _ => 0))), (q2, .inl (kA 0, 401, .inl (fun _ => 0)))]) [0, 1, 2] rfl
  have hD9 := hD.sub (ws' := [(a0, .inr (2, [.ref q1, .ref q2, .int 0, .int 0, .int 0, .int 0, .int 0, .ref q3])), (q1, .inl (kA 0, 401, .inl (fun _ => 0))), (q2, .inl (kA 0, 401, .inl (fun _ => 0)))]) [0, 1, 2] (by decide) rfl
  refine W.widen (k := 15) (n := 1335) (Nat.le_of_ble_eq_true rfl) (Nat.le_of_ble_eq_true rfl) ?_
  exact W.vret hx hb hr (fun t ht hW => ⟨⟨(q1, q2, q3), rfl, trivial, by rw [ht]; exact hP9, hD9⟩, hS.F ht⟩) hS.2.2 dX2_init_33
set_option maxHeartbeats 4000000 in
set_option maxRecDepth 100000 in
theorem mX0_init (l : Launch) (dC : Nat → ClassId) (dI : Nat → Nat → Nat) (kA : Nat → ClassId) (sz : Nat) (a0 : Nat)  : Met l yX0_init wsX0_init ({ frames := 2, cells := 2, slots := 15, locals := 32 }) (zPc dC dI kA sz [.ref a0] [(a0, .inr (0, [.null]))]) (va_Qv (fun (u : Unit) => True) (zB dC dI (va_A [(a0, .inr (0, [.null]))] sz) (fun (u : Unit) => [])) (va_A [(a0, .inr (0, [.null]))] sz)) 2 15 (va_A [(a0, .inr (0, [.null]))] sz) := by
  refine Met.ofW (cc := cX0_init) (maxL := 1) (ret := none) (by decide) rfl ?_
  intro p e s m args below meth c s₁ B hml hv
  obtain ⟨rfl, hsz, hP, hK, hD0⟩ := hv
  have hx := B.exec
  have hb := B.bytes
  have hr := B.returns
  have hts := atoms_spec (ws := wsX0_init) B.pre
  have hown : s.vm.findClass RX0 = some m.cls := findClass_of_methodNamed B.named
  have hlocks := B.notSynchronized
  have hin : meth.name = "<init>" := (name_of_methodNamed B.named B.method).1
  subst hsz
  have hD := hD0.self (sz := s.heap.size)
  generalize hAe : va_A [(a0, .inr (0, [.null]))] s.heap.size = A at hD ⊢
  have hA : ∀ q : Nat, s.heap.size ≤ q → A q := fun q h => by rw [← hAe]; exact Or.inr h
  have hS : va_S A s.heap s.heap [] := va_S.rf
  have hP : va_P (dC, dI) vwCl [(a0, .inr (0, [.null]))] s.heap := hP
  have hl := lv_entry ([.ref a0]) (n := 1) (Nat.le_of_ble_eq_true rfl)
  rw [lg_entry_eq]
  generalize (lg_sl ([.ref a0]) ++ List.replicate (1 - (lg_sl ([.ref a0])).length) Slot.unset).toArray = ls at hl ⊢
  have hl : lv_has ls 1 [(0, .ref a0)] := hl
  refine lv_aload_n hx hb dX0_init_0 rfl (lv_at hl 0 rfl) ?_
  refine W.objInit hx hb hown (kX0_init_1 hts) (kX0_init_2 hts) (kX0_init_3 hts) rfl (by rw [hml]; exact hl.1) rfl dX0_init_1 (Nat.le_of_ble_eq_true rfl) (Nat.le_of_ble_eq_true rfl) ?_
  refine W.eq (g2 := F0 m 4 ls []) rfl ?_
  refine lv_aload_n hx hb dX0_init_4 rfl (lv_at hl 0 rfl) ?_
  refine va_new (ci := 4) (fs := [.null, .int 0, .int 0, .int 0]) (C := RX4) (T := TX4) (N := 4) hx hb hts iX0_init_X4 tyX4 tyX4_ok hown (kX0_init_4 hts) (kX0_init_5 hts) (kX0_init_6 hts) hK.1 hP hD hS hA rfl fsX4 (Nat.le_of_ble_eq_true rfl) (Nat.le_of_ble_eq_true rfl) dX0_init_5 (fun q1 H hP hD hS => ?_)
  refine W.widen (k := 1) (n := 4) (Nat.le_of_ble_eq_true rfl) (Nat.le_of_ble_eq_true rfl) ?_
  have hP : va_P (dC, dI) vwCl [(a0, .inr (0, [.null])), (q1, .inr (4, [.null, .int 0, .int 0, .int 0]))] H := hP
  have hD : va_D A [(a0, .inr (0, [.null])), (q1, .inr (4, [.null, .int 0, .int 0, .int 0]))] := hD
  refine lv_dup hx hb dX0_init_8 rfl ?_
  refine z_v (wr := [(a0, .inr (0, [.null]))]) (va_runIN (As := []) (rest := [.ref q1, .ref a0]) ⟨hx, hb, hml, hown, hts⟩ (mX4_init l dC dI kA _ q1) ⟨va_cnB 0 hts gX0_init_X4_init_n11 rfl rfl rfl hK.2.1.2.2.2.2.1 (kX0_init_6 hts) (by decide +kernel) ⟨(Nat.le_of_ble_eq_true rfl), (Nat.le_of_ble_eq_true rfl)⟩, rfl, (kX0_init_8 hts)⟩ ⟨zPc.blind, zPre hK (hP.sub [1] rfl) (hD.sub [1] (by decide) rfl)⟩ rfl rfl hl.1 rfl (lv_room (Nat.le_of_ble_eq_true rfl)) dX0_init_9 ⟨(Nat.le_of_ble_eq_true rfl), (Nat.le_of_ble_eq_true rfl)⟩) hP hD hS hA [1] [0] rfl rfl (by decide) (by decide) (fun u2 H locs hw3 hP hD hS => ?_)
  refine W.widen (k := 2) (n := 15) (Nat.le_of_ble_eq_true rfl) (Nat.le_of_ble_eq_true rfl) ?_
  have hP : va_P (dC, dI) vwCl [(a0, .inr (0, [.null]))] H := hP
  have hD : va_D A [(a0, .inr (0, [.null]))] := hD
  refine va_putF (D := (dC, dI)) (ci := 0) (v := .ref q1) (ty := .object "SnowMules$Scene") (C := RX0) (T := TX0) (N := 1) hx hb hts iX0_init_X0 tyX0 tyX0_ok nmX0 hown hK.1 hP hD hS 0 rfl rfl 0 (by decide) (kX0_init_7 hts) (fun _ h9 => h9) rfl hin rfl (by decide +kernel) rfl rfl (Nat.le_of_ble_eq_true rfl) dX0_init_12 (fun H locs hP hD hS => ?_)
  have hP : va_P (dC, dI) vwCl [(a0, .inr (0, [.ref q1]))] H := hP
  have hD : va_D A [(a0, .inr (0, [.ref q1]))] := hD
  have hP9 := hP.sub (ws' := []) [] rfl
  have hD9 := hD.sub (ws' := []) [] (by decide) rfl
  refine W.widen (k := 2) (n := 15) (Nat.le_of_ble_eq_true rfl) (Nat.le_of_ble_eq_true rfl) ?_
  exact W.vret hx hb hr (fun t ht hW => ⟨⟨(), rfl, trivial, by rw [ht]; exact hP9, hD9⟩, hS.F ht⟩) hS.2.2 dX0_init_15
set_option maxHeartbeats 4000000 in
set_option maxRecDepth 100000 in
theorem mX7_init (l : Launch) (dC : Nat → ClassId) (dI : Nat → Nat → Nat) (kA : Nat → ClassId) (sz : Nat) (a0 : Nat) (a1 : Nat)  : Met l yX7_init wsX7_init ({ frames := 2, cells := 15, slots := 548, locals := 32 }) (zPc dC dI kA sz [.ref a0, .ref a1] [(a0, .inr (7, [.int 0, .int 0, .int 0, .int 0, .int 0, .int 0, .null, .null, .null]))]) (va_Qv (fun (u : Unit) => True) (zB dC dI (va_A [(a0, .inr (7, [.int 0, .int 0, .int 0, .int 0, .int 0, .int 0, .null, .null, .null]))] sz) (fun (u : Unit) => [])) (va_A [(a0, .inr (7, [.int 0, .int 0, .int 0, .int 0, .int 0, .int 0, .null, .null, .null]))] sz)) 15 548 (va_A [(a0, .inr (7, [.int 0, .int 0, .int 0, .int 0, .int 0, .int 0, .null, .null, .null]))] sz) := by
  refine Met.ofW (cc := cX7_init) (maxL := 2) (ret := none) (by decide) rfl ?_
  intro p e s m args below meth c s₁ B hml hv
  obtain ⟨rfl, hsz, hP, hK, hD0⟩ := hv
  have hx := B.exec
  have hb := B.bytes
  have hr := B.returns
  have hts := atoms_spec (ws := wsX7_init) B.pre
  have hown : s.vm.findClass RX7 = some m.cls := findClass_of_methodNamed B.named
  have hlocks := B.notSynchronized
  have hin : meth.name = "<init>" := (name_of_methodNamed B.named B.method).1
  subst hsz
  have hD := hD0.self (sz := s.heap.size)
  generalize hAe : va_A [(a0, .inr (7, [.int 0, .int 0, .int 0, .int 0, .int 0, .int 0, .null, .null, .null]))] s.heap.size = A at hD ⊢
  have hA : ∀ q : Nat, s.heap.size ≤ q → A q := fun q h => by rw [← hAe]; exact Or.inr h
  have hS : va_S A s.heap s.heap [] := va_S.rf
  have hP : va_P (dC, dI) vwCl [(a0, .inr (7, [.int 0, .int 0, .int 0, .int 0, .int 0, .int 0, .null, .null, .null]))] s.heap := hP
  have hl := lv_entry ([.ref a0, .ref a1]) (n := 2) (Nat.le_of_ble_eq_true rfl)
  rw [lg_entry_eq]
  generalize (lg_sl ([.ref a0, .ref a1]) ++ List.replicate (2 - (lg_sl ([.ref a0, .ref a1])).length) Slot.unset).toArray = ls at hl ⊢
  have hl : lv_has ls 2 [(0, .ref a0), (1, .ref a1)] := hl
  refine lv_aload_n hx hb dX7_init_0 rfl (lv_at hl 0 rfl) ?_
  refine W.objInit hx hb hown (kX7_init_1 hts) (kX7_init_2 hts) (kX7_init_3 hts) rfl (by rw [hml]; exact hl.1) rfl dX7_init_1 (Nat.le_of_ble_eq_true rfl) (Nat.le_of_ble_eq_true rfl) ?_
  refine W.eq (g2 := F0 m 4 ls []) rfl ?_
  refine lv_aload_n hx hb dX7_init_4 rfl (lv_at hl 0 rfl) ?_
  refine va_new (ci := 1) (fs := [.int 0, .int 0, .null, .null, .null, .null, .null, .int 0, .null, .null, .int 0, .null, .null, .null, .null, .int 0, .null]) (C := RX1) (T := TX1) (N := 17) hx hb hts iX7_init_X1 tyX1 tyX1_ok hown (kX7_init_4 hts) (kX7_init_5 hts) (kX7_init_6 hts) hK.1 hP hD hS hA rfl fsX1 (Nat.le_of_ble_eq_true rfl) (Nat.le_of_ble_eq_true rfl) dX7_init_5 (fun q1 H hP hD hS => ?_)
  refine W.widen (k := 1) (n := 17) (Nat.le_of_ble_eq_true rfl) (Nat.le_of_ble_eq_true rfl) ?_
  have hP : va_P (dC, dI) vwCl [(a0, .inr (7, [.int 0, .int 0, .int 0, .int 0, .int 0, .int 0, .null, .null, .null])), (q1, .inr (1, [.int 0, .int 0, .null, .null, .null, .null, .null, .int 0, .null, .null, .int 0, .null, .null, .null, .null, .int 0, .null]))] H := hP
  have hD : va_D A [(a0, .inr (7, [.int 0, .int 0, .int 0, .int 0, .int 0, .int 0, .null, .null, .null])), (q1, .inr (1, [.int 0, .int 0, .null, .null, .null, .null, .null, .int 0, .null, .null, .int 0, .null, .null, .null, .null, .int 0, .null]))] := hD
  refine lv_dup hx hb dX7_init_8 rfl ?_
  refine z_v (wr := [(a0, .inr (7, [.int 0, .int 0, .int 0, .int 0, .int 0, .int 0, .null, .null, .null]))]) (va_runIN (As := []) (rest := [.ref q1, .ref a0]) ⟨hx, hb, hml, hown, hts⟩ (mX1_init l dC dI kA _ q1) ⟨va_cnB 0 hts gX7_init_X1_init_n11 rfl rfl rfl hK.2.1.2.2.2.2.2.1 (kX7_init_6 hts) (by decide +kernel) ⟨(Nat.le_of_ble_eq_true rfl), (Nat.le_of_ble_eq_true rfl)⟩, rfl, (kX7_init_13 hts)⟩ ⟨zPc.blind, zPre hK (hP.sub [1] rfl) (hD.sub [1] (by decide) rfl)⟩ rfl rfl hl.1 rfl (lv_room (Nat.le_of_ble_eq_true rfl)) dX7_init_9 ⟨(Nat.le_of_ble_eq_true rfl), (Nat.le_of_ble_eq_true rfl)⟩) hP hD hS hA [1] [0] rfl rfl (by decide) (by decide) (fun u2 H locs hw3 hP hD hS => ?_)
  refine W.widen (k := 13) (n := 533) (Nat.le_of_ble_eq_true rfl) (Nat.le_of_ble_eq_true rfl) ?_
  have hP : va_P (dC, dI) vwCl [(a0, .inr (7, [.int 0, .int 0, .int 0, .int 0, .int 0, .int 0, .null, .null, .null]))] H := hP
  have hD : va_D A [(a0, .inr (7, [.int 0, .int 0, .int 0, .int 0, .int 0, .int 0, .null, .null, .null]))] := hD
  refine va_put (D := (dC, dI)) (ci := 7) (v := .ref q1) (ty := .object "SnowMules$Law") (C := RX7) (T := TX7) (N := 9) hx hb hts iX7_init_X7 tyX7 tyX7_ok nmX7 hown hK.1 hP hD hS 0 rfl rfl 6 (by decide) (kX7_init_7 hts) (fun _ h9 => h9) rfl (by decide +kernel) rfl rfl (Nat.le_of_ble_eq_true rfl) dX7_init_12 (fun H locs hP hD hS => ?_)
  have hP : va_P (dC, dI) vwCl [(a0, .inr (7, [.int 0, .int 0, .int 0, .int 0, .int 0, .int 0, .ref q1, .null, .null]))] H := hP
  have hD : va_D A [(a0, .inr (7, [.int 0, .int 0, .int 0, .int 0, .int 0, .int 0, .ref q1, .null, .null]))] := hD
  refine lv_aload_n hx hb dX7_init_15 rfl (lv_at hl 0 rfl) ?_
  refine va_new (ci := 4) (fs := [.null, .int 0, .int 0, .int 0]) (C := RX4) (T := TX4) (N := 4) hx hb hts iX7_init_X4 tyX4 tyX4_ok hown (kX7_init_8 hts) (kX7_init_9 hts) (kX7_init_10 hts) hK.1 hP hD hS hA rfl fsX4 (Nat.le_of_ble_eq_true rfl) (Nat.le_of_ble_eq_true rfl) dX7_init_16 (fun q5 H hP hD hS => ?_)
  refine W.widen (k := 14) (n := 537) (Nat.le_of_ble_eq_true rfl) (Nat.le_of_ble_eq_true rfl) ?_
  have hP : va_P (dC, dI) vwCl [(a0, .inr (7, [.int 0, .int 0, .int 0, .int 0, .int 0, .int 0, .ref q1, .null, .null])), (q5, .inr (4, [.null, .int 0, .int 0, .int 0]))] H := hP
  have hD : va_D A [(a0, .inr (7, [.int 0, .int 0, .int 0, .int 0, .int 0, .int 0, .ref q1, .null, .null])), (q5, .inr (4, [.null, .int 0, .int 0, .int 0]))] := hD
  refine lv_dup hx hb dX7_init_19 rfl ?_
  refine z_v (wr := [(a0, .inr (7, [.int 0, .int 0, .int 0, .int 0, .int 0, .int 0, .ref q1, .null, .null]))]) (va_runIN (As := []) (rest := [.ref q5, .ref a0]) ⟨hx, hb, hml, hown, hts⟩ (mX4_init l dC dI kA _ q5) ⟨va_cnB 0 hts gX7_init_X4_init_n20 rfl rfl rfl hK.2.1.2.2.2.2.2.2.1 (kX7_init_10 hts) (by decide +kernel) ⟨(Nat.le_of_ble_eq_true rfl), (Nat.le_of_ble_eq_true rfl)⟩, rfl, (kX7_init_29 hts)⟩ ⟨zPc.blind, zPre hK (hP.sub [1] rfl) (hD.sub [1] (by decide) rfl)⟩ rfl rfl hl.1 rfl (lv_room (Nat.le_of_ble_eq_true rfl)) dX7_init_20 ⟨(Nat.le_of_ble_eq_true rfl), (Nat.le_of_ble_eq_true rfl)⟩) hP hD hS hA [1] [0] rfl rfl (by decide) (by decide) (fun u6 H locs hw7 hP hD hS => ?_)
  refine W.widen (k := 15) (n := 548) (Nat.le_of_ble_eq_true rfl) (Nat.le_of_ble_eq_true rfl) ?_
  have hP : va_P (dC, dI) vwCl [(a0, .inr (7, [.int 0, .int 0, .int 0, .int 0, .int 0, .int 0, .ref q1, .null, .null]))] H := hP
  have hD : va_D A [(a0, .inr (7, [.int 0, .int 0, .int 0, .int 0, .int 0, .int 0, .ref q1, .null, .null]))] := hD
  refine va_putF (D := (dC, dI)) (ci := 7) (v := .ref q5) (ty := .object "SnowMules$Scene") (C := RX7) (T := TX7) (N := 9) hx hb hts iX7_init_X7 tyX7 tyX7_ok nmX7 hown hK.1 hP hD hS 0 rfl rfl 8 (by decide) (kX7_init_11 hts) (fun _ h9 => h9) rfl hin rfl (by decide +kernel) rfl rfl (Nat.le_of_ble_eq_true rfl) dX7_init_23 (fun H locs hP hD hS => ?_)
  have hP : va_P (dC, dI) vwCl [(a0, .inr (7, [.int 0, .int 0, .int 0, .int 0, .int 0, .int 0, .ref q1, .null, .ref q5]))] H := hP
  have hD : va_D A [(a0, .inr (7, [.int 0, .int 0, .int 0, .int 0, .int 0, .int 0, .ref q1, .null, .ref q5]))] := hD
  refine lv_aload_n hx hb dX7_init_26 rfl (lv_at hl 0 rfl) ?_
  refine lv_aload_n hx hb dX7_init_27 rfl (lv_at hl 1 rfl) ?_
  refine va_putF (D := (dC, dI)) (ci := 7) (v := .ref a1) (ty := .object "SnowMules$World") (C := RX7) (T := TX7) (N := 9) hx hb hts iX7_init_X7 tyX7 tyX7_ok nmX7 hown hK.1 hP hD hS 0 rfl rfl 7 (by decide) (kX7_init_12 hts) (fun _ h9 => h9) rfl hin rfl (by decide +kernel) rfl rfl (Nat.le_of_ble_eq_true rfl) dX7_init_28 (fun H locs hP hD hS => ?_)
  have hP : va_P (dC, dI) vwCl [(a0, .inr (7, [.int 0, .int 0, .int 0, .int 0, .int 0, .int 0, .ref q1, .ref a1, .ref q5]))] H := hP
  have hD : va_D A [(a0, .inr (7, [.int 0, .int 0, .int 0, .int 0, .int 0, .int 0, .ref q1, .ref a1, .ref q5]))] := hD
  have hP9 := hP.sub (ws' := []) [] rfl
  have hD9 := hD.sub (ws' := []) [] (by decide) rfl
  refine W.widen (k := 15) (n := 548) (Nat.le_of_ble_eq_true rfl) (Nat.le_of_ble_eq_true rfl) ?_
  exact W.vret hx hb hr (fun t ht hW => ⟨⟨(), rfl, trivial, by rw [ht]; exact hP9, hD9⟩, hS.F ht⟩) hS.2.2 dX7_init_31
set_option maxHeartbeats 4000000 in
set_option maxRecDepth 100000 in
theorem mX5_init (l : Launch) (dC : Nat → ClassId) (dI : Nat → Nat → Nat) (kA : Nat → ClassId) (sz : Nat) (a0 : Nat) (a1 : Nat) (a2 : Nat)  : Met l yX5_init wsX5_init ({ frames := 1, cells := 3, slots := 24, locals := 12 }) (zPc dC dI kA sz [.ref a0, .ref a1, .ref a2] [(a0, .inr (5, [.int 0, .int 0, .int 0, .int 0, .int 0, .int 0, .int 0, .int 0, .null, .null, .null, .null, .null]))]) (va_Qv (fun (u : Unit) => True) (zB dC dI (va_A [(a0, .inr (5, [.int 0, .int 0, .int 0, .int 0, .int 0, .int 0, .int 0, .int 0, .null, .null, .null, .null, .null]))] sz) (fun (u : Unit) => [])) (va_A [(a0, .inr (5, [.int 0, .int 0, .int 0, .int 0, .int 0, .int 0, .int 0, .int 0, .null, .null, .null, .null, .null]))] sz)) 3 24 (va_A [(a0, .inr (5, [.int 0, .int 0, .int 0, .int 0, .int 0, .int 0, .int 0, .int 0, .null, .null, .null, .null, .null]))] sz) := by
  refine Met.ofW (cc := cX5_init) (maxL := 3) (ret := none) (by decide) rfl ?_
  intro p e s m args below meth c s₁ B hml hv
  obtain ⟨rfl, hsz, hP, hK, hD0⟩ := hv
  have hx := B.exec
  have hb := B.bytes
  have hr := B.returns
  have hts := atoms_spec (ws := wsX5_init) B.pre
  have hown : s.vm.findClass RX5 = some m.cls := findClass_of_methodNamed B.named
  have hlocks := B.notSynchronized
  have hin : meth.name = "<init>" := (name_of_methodNamed B.named B.method).1
  subst hsz
  have hD := hD0.self (sz := s.heap.size)
  generalize hAe : va_A [(a0, .inr (5, [.int 0, .int 0, .int 0, .int 0, .int 0, .int 0, .int 0, .int 0, .null, .null, .null, .null, .null]))] s.heap.size = A at hD ⊢
  have hA : ∀ q : Nat, s.heap.size ≤ q → A q := fun q h => by rw [← hAe]; exact Or.inr h
  have hS : va_S A s.heap s.heap [] := va_S.rf
  have hP : va_P (dC, dI) vwCl [(a0, .inr (5, [.int 0, .int 0, .int 0, .int 0, .int 0, .int 0, .int 0, .int 0, .null, .null, .null, .null, .null]))] s.heap := hP
  have hl := lv_entry ([.ref a0, .ref a1, .ref a2]) (n := 3) (Nat.le_of_ble_eq_true rfl)
  rw [lg_entry_eq]
  generalize (lg_sl ([.ref a0, .ref a1, .ref a2]) ++ List.replicate (3 - (lg_sl ([.ref a0, .ref a1, .ref a2])).length) Slot.unset).toArray = ls at hl ⊢
  have hl : lv_has ls 3 [(0, .ref a0), (1, .ref a1), (2, .ref a2)] := hl
  refine lv_aload_n hx hb dX5_init_0 rfl (lv_at hl 0 rfl) ?_
  refine W.objInit hx hb hown (kX5_init_1 hts) (kX5_init_2 hts) (kX5_init_3 hts) rfl (by rw [hml]; exact hl.1) rfl dX5_init_1 (Nat.le_of_ble_eq_true rfl) (Nat.le_of_ble_eq_true rfl) ?_
  refine W.eq (g2 := F0 m 4 ls []) rfl ?_
  refine lv_aload_n hx hb dX5_init_4 rfl (lv_at hl 0 rfl) ?_
  refine lv_bipush (v := 12) hx hb dX5_init_5 (by decide) ?_
  refine z_newi hx hb (kX5_init_4 hts) hK hP hD hS hA 12 (by decide) (by decide) (by decide) (Nat.le_of_ble_eq_true rfl) (Nat.le_of_ble_eq_true rfl) dX5_init_7 (fun q1 H hP hD hS => ?_)
  refine W.widen (k := 1) (n := 12) (Nat.le_of_ble_eq_true rfl) (Nat.le_of_ble_eq_true rfl) ?_
  have hP : va_P (dC, dI) vwCl [(a0, .inr (5, [.int 0, .int 0, .int 0, .int 0, .int 0, .int 0, .int 0, .int 0, .null, .null, .null, .null, .null])), (q1, .inl (kA 0, 12, .inl (fun _ => 0)))] H := hP
  have hD : va_D A [(a0, .inr (5, [.int 0, .int 0, .int 0, .int 0, .int 0, .int 0, .int 0, .int 0, .null, .null, .null, .null, .null])), (q1, .inl (kA 0, 12, .inl (fun _ => 0)))] := hD
  refine va_putF (D := (dC, dI)) (ci := 5) (v := .ref q1) (ty := .array (.int)) (C := RX5) (T := TX5) (N := 13) hx hb hts iX5_init_X5 tyX5 tyX5_ok nmX5 hown hK.1 hP hD hS 0 rfl rfl 8 (by decide) (kX5_init_5 hts) (fun _ h9 => h9) rfl hin rfl (by decide +kernel) rfl rfl (Nat.le_of_ble_eq_true rfl) dX5_init_9 (fun H locs hP hD hS => ?_)
  have hP : va_P (dC, dI) vwCl [(a0, .inr (5, [.int 0, .int 0, .int 0, .int 0, .int 0, .int 0, .int 0, .int 0, .ref q1, .null, .null, .null, .null])), (q1, .inl (kA 0, 12, .inl (fun _ => 0)))] H := hP
  have hD : va_D A [(a0, .inr (5, [.int 0, .int 0, .int 0, .int 0, .int 0, .int 0, .int 0, .int 0, .ref q1, .null, .null, .null, .null])), (q1, .inl (kA 0, 12, .inl (fun _ => 0)))] := hD
  refine lv_aload_n hx hb dX5_init_12 rfl (lv_at hl 0 rfl) ?_
  refine lv_bipush (v := 6) hx hb dX5_init_13 (by decide) ?_
  refine z_newi hx hb (kX5_init_4 hts) hK hP hD hS hA 6 (by decide) (by decide) (by decide) (Nat.le_of_ble_eq_true rfl) (Nat.le_of_ble_eq_true rfl) dX5_init_15 (fun q2 H hP hD hS => ?_)
  refine W.widen (k := 2) (n := 18) (Nat.le_of_ble_eq_true rfl) (Nat.le_of_ble_eq_true rfl) ?_
  have hP : va_P (dC, dI) vwCl [(a0, .inr (5, [.int 0, .int 0, .int 0, .int 0, .int 0, .int 0, .int 0, .int 0, .ref q1, .null, .null, .null, .null])), (q1, .inl (kA 0, 12, .inl (fun _ => 0))), (q2, .inl (kA 0, 6, .inl (fun _ => 0)))] H := hP
  have hD : va_D A [(a0, .inr (5, [.int 0, .int 0, .int 0, .int 0, .int 0, .int 0, .int 0, .int 0, .ref q1, .null, .null, .null, .null])), (q1, .inl (kA 0, 12, .inl (fun _ => 0))), (q2, .inl (kA 0, 6, .inl (fun _ => 0)))] := hD
  refine va_putF (D := (dC, dI)) (ci := 5) (v := .ref q2) (ty := .array (.int)) (C := RX5) (T := TX5) (N := 13) hx hb hts iX5_init_X5 tyX5 tyX5_ok nmX5 hown hK.1 hP hD hS 0 rfl rfl 9 (by decide) (kX5_init_6 hts) (fun _ h9 => h9) rfl hin rfl (by decide +kernel) rfl rfl (Nat.le_of_ble_eq_true rfl) dX5_init_17 (fun H locs hP hD hS => ?_)
  have hP : va_P (dC, dI) vwCl [(a0, .inr (5, [.int 0, .int 0, .int 0, .int 0, .int 0, .int 0, .int 0, .int 0, .ref q1, .ref q2, .null, .null, .null])), (q1, .inl (kA 0, 12, .inl (fun _ => 0))), (q2, .inl (kA 0, 6, .inl (fun _ => 0)))] H := hP
  have hD : va_D A [(a0, .inr (5, [.int 0, .int 0, .int 0, .int 0, .int 0, .int 0, .int 0, .int 0, .ref q1, .ref q2, .null, .null, .null])), (q1, .inl (kA 0, 12, .inl (fun _ => 0))), (q2, .inl (kA 0, 6, .inl (fun _ => 0)))] := hD
  refine lv_aload_n hx hb dX5_init_20 rfl (lv_at hl 0 rfl) ?_
  refine lv_bipush (v := 6) hx hb dX5_init_21 (by decide) ?_
  refine z_newi hx hb (kX5_init_4 hts) hK hP hD hS hA 6 (by decide) (by decide) (by decide) (Nat.le_of_ble_eq_true rfl) (Nat.le_of_ble_eq_true rfl) dX5_init_23 (fun q3 H hP hD hS => ?_)
  refine W.widen (k := 3) (n := 24) (Nat.le_of_ble_eq_true rfl) (Nat.le_of_ble_eq_true rfl) ?_
  have hP : va_P (dC, dI) vwCl [(a0, .inr (5, [.int 0, .int 0, .int 0, .int 0, .int 0, .int 0, .int 0, .int 0, .ref q1, .ref q2, .null, .null, .null])), (q1, .inl (kA 0, 12, .inl (fun _ => 0))), (q2, .inl (kA 0, 6, .inl (fun _ => 0))), (q3, .inl (kA 0, 6, .inl (fun _ => 0)))] H := hP
  have hD : va_D A [(a0, .inr (5, [.int 0, .int 0, .int 0, .int 0, .int 0, .int 0, .int 0, .int 0, .ref q1, .ref q2, .null, .null, .null])), (q1, .inl (kA 0, 12, .inl (fun _ => 0))), (q2, .inl (kA 0, 6, .inl (fun _ => 0))), (q3, .inl (kA 0, 6, .inl (fun _ => 0)))] := hD
  refine va_putF (D := (dC, dI)) (ci := 5) (v := .ref q3) (ty := .array (.int)) (C := RX5) (T := TX5) (N := 13) hx hb hts iX5_init_X5 tyX5 tyX5_ok nmX5 hown hK.1 hP hD hS 0 rfl rfl 10 (by decide) (kX5_init_7 hts) (fun _ h9 => h9) rfl hin rfl (by decide +kernel) rfl rfl (Nat.le_of_ble_eq_true rfl) dX5_init_25 (fun H locs hP hD hS => ?_)
  have hP : va_P (dC, dI) vwCl [(a0, .inr (5, [.int 0, .int 0, .int 0, .int 0, .int 0, .int 0, .int 0, .int 0, .ref q1, .ref q2, .ref q3, .null, .null])), (q1, .inl (kA 0, 12, .inl (fun _ => 0))), (q2, .inl (kA 0, 6, .inl (fun _ => 0))), (q3, .inl (kA 0, 6, .inl (fun _ => 0)))] H := hP
  have hD : va_D A [(a0, .inr (5, [.int 0, .int 0, .int 0, .int 0, .int 0, .int 0, .int 0, .int 0, .ref q1, .ref q2, .ref q3, .null, .null])), (q1, .inl (kA 0, 12, .inl (fun _ => 0))), (q2, .inl (kA 0, 6, .inl (fun _ => 0))), (q3, .inl (kA 0, 6, .inl (fun _ => 0)))] := hD
  refine lv_aload_n hx hb dX5_init_28 rfl (lv_at hl 0 rfl) ?_
  refine lv_aload_n hx hb dX5_init_29 rfl (lv_at hl 1 rfl) ?_
  refine va_putF (D := (dC, dI)) (ci := 5) (v := .ref a1) (ty := .object "SnowMules$World") (C := RX5) (T := TX5) (N := 13) hx hb hts iX5_init_X5 tyX5 tyX5_ok nmX5 hown hK.1 hP hD hS 0 rfl rfl 11 (by decide) (kX5_init_8 hts) (fun _ h9 => h9) rfl hin rfl (by decide +kernel) rfl rfl (Nat.le_of_ble_eq_true rfl) dX5_init_30 (fun H locs hP hD hS => ?_)
  have hP : va_P (dC, dI) vwCl [(a0, .inr (5, [.int 0, .int 0, .int 0, .int 0, .int 0, .int 0, .int 0, .int 0, .ref q1, .ref q2, .ref q3, .ref a1, .null])), (q1, .inl (kA 0, 12, .inl (fun _ => 0))), (q2, .inl (kA 0, 6, .inl (fun _ => 0))), (q3, .inl (kA 0, 6, .inl (fun _ => 0)))] H := hP
  have hD : va_D A [(a0, .inr (5, [.int 0, .int 0, .int 0, .int 0, .int 0, .int 0, .int 0, .int 0, .ref q1, .ref q2, .ref q3, .ref a1, .null])), (q1, .inl (kA 0, 12, .inl (fun _ => 0))), (q2, .inl (kA 0, 6, .inl (fun _ => 0))), (q3, .inl (kA 0, 6, .inl (fun _ => 0)))] := hD
  refine lv_aload_n hx hb dX5_init_33 rfl (lv_at hl 0 rfl) ?_
  refine lv_aload_n hx hb dX5_init_34 rfl (lv_at hl 2 rfl) ?_
  refine va_putF (D := (dC, dI)) (ci := 5) (v := .ref a2) (ty := .object "SnowMules$Trip") (C := RX5) (T := TX5) (N := 13) hx hb hts iX5_init_X5 tyX5 tyX5_ok nmX5 hown hK.1 hP hD hS 0 rfl rfl 12 (by decide) (kX5_init_9 hts) (fun _ h9 => h9) rfl hin rfl (by decide +kernel) rfl rfl (Nat.le_of_ble_eq_true rfl) dX5_init_35 (fun H locs hP hD hS => ?_)
  have hP : va_P (dC, dI) vwCl [(a0, .inr (5, [.int 0, .int 0, .int 0, .int 0, .int 0, .int 0, .int 0, .int 0, .ref q1, .ref q2, .ref q3, .ref a1, .ref a2])), (q1, .inl (kA 0, 12, .inl (fun _ => 0))), (q2, .inl (kA 0, 6, .inl (fun _ => 0))), (q3, .inl (kA 0, 6, .inl (fun _ => 0)))] H := hP
  have hD : va_D A [(a0, .inr (5, [.int 0, .int 0, .int 0, .int 0, .int 0, .int 0, .int 0, .int 0, .ref q1, .ref q2, .ref q3, .ref a1, .ref a2])), (q1, .inl (kA 0, 12, .inl (fun _ => 0))), (q2, .inl (kA 0, 6, .inl (fun _ => 0))), (q3, .inl (kA 0, 6, .inl (fun _ => 0)))] := hD
  have hP9 := hP.sub (ws' := []) [] rfl
  have hD9 := hD.sub (ws' := []) [] (by decide) rfl
  refine W.widen (k := 3) (n := 24) (Nat.le_of_ble_eq_true rfl) (Nat.le_of_ble_eq_true rfl) ?_
  exact W.vret hx hb hr (fun t ht hW => ⟨⟨(), rfl, trivial, by rw [ht]; exact hP9, hD9⟩, hS.F ht⟩) hS.2.2 dX5_init_38
set_option maxHeartbeats 4000000 in
set_option maxRecDepth 100000 in
theorem mX8_init (l : Launch) (dC : Nat → ClassId) (dI : Nat → Nat → Nat) (kA : Nat → ClassId) (sz : Nat) (a0 : Nat) (a1 : Nat) (a2 : Nat)  : Met l yX8_init wsX8_init ({ frames := 1, cells := 3, slots := 18, locals := 12 }) (zPc dC dI kA sz [.ref a0, .ref a1, .ref a2] [(a0, .inr (8, [.int 0, .int 0, .null, .null, .null, .null, .null]))]) (va_Qv (fun (u : Unit) => True) (zB dC dI (va_A [(a0, .inr (8, [.int 0, .int 0, .null, .null, .null, .null, .null]))] sz) (fun (u : Unit) => [])) (va_A [(a0, .inr (8, [.int 0, .int 0, .null, .null, .null, .null, .null]))] sz)) 3 18 (va_A [(a0, .inr (8, [.int 0, .int 0, .null, .null, .null, .null, .null]))] sz) := by
  refine Met.ofW (cc := cX8_init) (maxL := 3) (ret := none) (by decide) rfl ?_
  intro p e s m args below meth c s₁ B hml hv
  obtain ⟨rfl, hsz, hP, hK, hD0⟩ := hv
  have hx := B.exec
  have hb := B.bytes
  have hr := B.returns
  have hts := atoms_spec (ws := wsX8_init) B.pre
  have hown : s.vm.findClass RX8 = some m.cls := findClass_of_methodNamed B.named
  have hlocks := B.notSynchronized
  have hin : meth.name = "<init>" := (name_of_methodNamed B.named B.method).1
  subst hsz
  have hD := hD0.self (sz := s.heap.size)
  generalize hAe : va_A [(a0, .inr (8, [.int 0, .int 0, .null, .null, .null, .null, .null]))] s.heap.size = A at hD ⊢
  have hA : ∀ q : Nat, s.heap.size ≤ q → A q := fun q h => by rw [← hAe]; exact Or.inr h
  have hS : va_S A s.heap s.heap [] := va_S.rf
  have hP : va_P (dC, dI) vwCl [(a0, .inr (8, [.int 0, .int 0, .null, .null, .null, .null, .null]))] s.heap := hP
  have hl := lv_entry ([.ref a0, .ref a1, .ref a2]) (n := 3) (Nat.le_of_ble_eq_true rfl)
  rw [lg_entry_eq]
  generalize (lg_sl ([.ref a0, .ref a1, .ref a2]) ++ List.replicate (3 - (lg_sl ([.ref a0, .ref a1, .ref a2])).length) Slot.unset).toArray = ls at hl ⊢
  have hl : lv_has ls 3 [(0, .ref a0), (1, .ref a1), (2, .ref a2)] := hl
  refine lv_aload_n hx hb dX8_init_0 rfl (lv_at hl 0 rfl) ?_
  refine W.objInit hx hb hown (kX8_init_1 hts) (kX8_init_2 hts) (kX8_init_3 hts) rfl (by rw [hml]; exact hl.1) rfl dX8_init_1 (Nat.le_of_ble_eq_true rfl) (Nat.le_of_ble_eq_true rfl) ?_
  refine W.eq (g2 := F0 m 4 ls []) rfl ?_
  refine lv_aload_n hx hb dX8_init_4 rfl (lv_at hl 0 rfl) ?_
  refine lv_bipush (v := 6) hx hb dX8_init_5 (by decide) ?_
  refine z_newi hx hb (kX8_init_4 hts) hK hP hD hS hA 6 (by decide) (by decide) (by decide) (Nat.le_of_ble_eq_true rfl) (Nat.le_of_ble_eq_true rfl) dX8_init_7 (fun q1 H hP hD hS => ?_)
  refine W.widen (k := 1) (n := 6) (Nat.le_of_ble_eq_true rfl) (Nat.le_of_ble_eq_true rfl) ?_
  have hP : va_P (dC, dI) vwCl [(a0, .inr (8, [.int 0, .int 0, .null, .null, .null, .null, .null])), (q1, .inl (kA 0, 6, .inl (fun _ => 0)))] H := hP
  have hD : va_D A [(a0, .inr (8, [.int 0, .int 0, .null, .null, .null, .null, .null])), (q1, .inl (kA 0, 6, .inl (fun _ => 0)))] := hD
  refine va_putF (D := (dC, dI)) (ci := 8) (v := .ref q1) (ty := .array (.int)) (C := RX8) (T := TX8) (N := 7) hx hb hts iX8_init_X8 tyX8 tyX8_ok nmX8 hown hK.1 hP hD hS 0 rfl rfl 2 (by decide) (kX8_init_5 hts) (fun _ h9 => h9) rfl hin rfl (by decide +kernel) rfl rfl (Nat.le_of_ble_eq_true rfl) dX8_init_9 (fun H locs hP hD hS => ?_)
  have hP : va_P (dC, dI) vwCl [(a0, .inr (8, [.int 0, .int 0, .ref q1, .null, .null, .null, .null])), (q1, .inl (kA 0, 6, .inl (fun _ => 0)))] H := hP
  have hD : va_D A [(a0, .inr (8, [.int 0, .int 0, .ref q1, .null, .null, .null, .null])), (q1, .inl (kA 0, 6, .inl (fun _ => 0)))] := hD
  refine lv_aload_n hx hb dX8_init_12 rfl (lv_at hl 0 rfl) ?_
  refine lv_bipush (v := 6) hx hb dX8_init_13 (by decide) ?_
  refine z_newi hx hb (kX8_init_4 hts) hK hP hD hS hA 6 (by decide) (by decide) (by decide) (Nat.le_of_ble_eq_true rfl) (Nat.le_of_ble_eq_true rfl) dX8_init_15 (fun q2 H hP hD hS => ?_)
  refine W.widen (k := 2) (n := 12) (Nat.le_of_ble_eq_true rfl) (Nat.le_of_ble_eq_true rfl) ?_
  have hP : va_P (dC, dI) vwCl [(a0, .inr (8, [.int 0, .int 0, .ref q1, .null, .null, .null, .null])), (q1, .inl (kA 0, 6, .inl (fun _ => 0))), (q2, .inl (kA 0, 6, .inl (fun _ => 0)))] H := hP
  have hD : va_D A [(a0, .inr (8, [.int 0, .int 0, .ref q1, .null, .null, .null, .null])), (q1, .inl (kA 0, 6, .inl (fun _ => 0))), (q2, .inl (kA 0, 6, .inl (fun _ => 0)))] := hD
  refine va_putF (D := (dC, dI)) (ci := 8) (v := .ref q2) (ty := .array (.int)) (C := RX8) (T := TX8) (N := 7) hx hb hts iX8_init_X8 tyX8 tyX8_ok nmX8 hown hK.1 hP hD hS 0 rfl rfl 3 (by decide) (kX8_init_6 hts) (fun _ h9 => h9) rfl hin rfl (by decide +kernel) rfl rfl (Nat.le_of_ble_eq_true rfl) dX8_init_17 (fun H locs hP hD hS => ?_)
  have hP : va_P (dC, dI) vwCl [(a0, .inr (8, [.int 0, .int 0, .ref q1, .ref q2, .null, .null, .null])), (q1, .inl (kA 0, 6, .inl (fun _ => 0))), (q2, .inl (kA 0, 6, .inl (fun _ => 0)))] H := hP
  have hD : va_D A [(a0, .inr (8, [.int 0, .int 0, .ref q1, .ref q2, .null, .null, .null])), (q1, .inl (kA 0, 6, .inl (fun _ => 0))), (q2, .inl (kA 0, 6, .inl (fun _ => 0)))] := hD
  refine lv_aload_n hx hb dX8_init_20 rfl (lv_at hl 0 rfl) ?_
  refine lv_bipush (v := 6) hx hb dX8_init_21 (by decide) ?_
  refine z_newi hx hb (kX8_init_4 hts) hK hP hD hS hA 6 (by decide) (by decide) (by decide) (Nat.le_of_ble_eq_true rfl) (Nat.le_of_ble_eq_true rfl) dX8_init_23 (fun q3 H hP hD hS => ?_)
  refine W.widen (k := 3) (n := 18) (Nat.le_of_ble_eq_true rfl) (Nat.le_of_ble_eq_true rfl) ?_
  have hP : va_P (dC, dI) vwCl [(a0, .inr (8, [.int 0, .int 0, .ref q1, .ref q2, .null, .null, .null])), (q1, .inl (kA 0, 6, .inl (fun _ => 0))), (q2, .inl (kA 0, 6, .inl (fun _ => 0))), (q3, .inl (kA 0, 6, .inl (fun _ => 0)))] H := hP
  have hD : va_D A [(a0, .inr (8, [.int 0, .int 0, .ref q1, .ref q2, .null, .null, .null])), (q1, .inl (kA 0, 6, .inl (fun _ => 0))), (q2, .inl (kA 0, 6, .inl (fun _ => 0))), (q3, .inl (kA 0, 6, .inl (fun _ => 0)))] := hD
  refine va_putF (D := (dC, dI)) (ci := 8) (v := .ref q3) (ty := .array (.int)) (C := RX8) (T := TX8) (N := 7) hx hb hts iX8_init_X8 tyX8 tyX8_ok nmX8 hown hK.1 hP hD hS 0 rfl rfl 4 (by decide) (kX8_init_7 hts) (fun _ h9 => h9) rfl hin rfl (by decide +kernel) rfl rfl (Nat.le_of_ble_eq_true rfl) dX8_init_25 (fun H locs hP hD hS => ?_)
  have hP : va_P (dC, dI) vwCl [(a0, .inr (8, [.int 0, .int 0, .ref q1, .ref q2, .ref q3, .null, .null])), (q1, .inl (kA 0, 6, .inl (fun _ => 0))), (q2, .inl (kA 0, 6, .inl (fun _ => 0))), (q3, .inl (kA 0, 6, .inl (fun _ => 0)))] H := hP
  have hD : va_D A [(a0, .inr (8, [.int 0, .int 0, .ref q1, .ref q2, .ref q3, .null, .null])), (q1, .inl (kA 0, 6, .inl (fun _ => 0))), (q2, .inl (kA 0, 6, .inl (fun _ => 0))), (q3, .inl (kA 0, 6, .inl (fun _ => 0)))] := hD
  refine lv_aload_n hx hb dX8_init_28 rfl (lv_at hl 0 rfl) ?_
  refine lv_aload_n hx hb dX8_init_29 rfl (lv_at hl 1 rfl) ?_
  refine va_putF (D := (dC, dI)) (ci := 8) (v := .ref a1) (ty := .object "SnowMules$World") (C := RX8) (T := TX8) (N := 7) hx hb hts iX8_init_X8 tyX8 tyX8_ok nmX8 hown hK.1 hP hD hS 0 rfl rfl 5 (by decide) (kX8_init_8 hts) (fun _ h9 => h9) rfl hin rfl (by decide +kernel) rfl rfl (Nat.le_of_ble_eq_true rfl) dX8_init_30 (fun H locs hP hD hS => ?_)
  have hP : va_P (dC, dI) vwCl [(a0, .inr (8, [.int 0, .int 0, .ref q1, .ref q2, .ref q3, .ref a1, .null])), (q1, .inl (kA 0, 6, .inl (fun _ => 0))), (q2, .inl (kA 0, 6, .inl (fun _ => 0))), (q3, .inl (kA 0, 6, .inl (fun _ => 0)))] H := hP
  have hD : va_D A [(a0, .inr (8, [.int 0, .int 0, .ref q1, .ref q2, .ref q3, .ref a1, .null])), (q1, .inl (kA 0, 6, .inl (fun _ => 0))), (q2, .inl (kA 0, 6, .inl (fun _ => 0))), (q3, .inl (kA 0, 6, .inl (fun _ => 0)))] := hD
  refine lv_aload_n hx hb dX8_init_33 rfl (lv_at hl 0 rfl) ?_
  refine lv_aload_n hx hb dX8_init_34 rfl (lv_at hl 2 rfl) ?_
  refine va_putF (D := (dC, dI)) (ci := 8) (v := .ref a2) (ty := .object "SnowMules$Trip") (C := RX8) (T := TX8) (N := 7) hx hb hts iX8_init_X8 tyX8 tyX8_ok nmX8 hown hK.1 hP hD hS 0 rfl rfl 6 (by decide) (kX8_init_9 hts) (fun _ h9 => h9) rfl hin rfl (by decide +kernel) rfl rfl (Nat.le_of_ble_eq_true rfl) dX8_init_35 (fun H locs hP hD hS => ?_)
  have hP : va_P (dC, dI) vwCl [(a0, .inr (8, [.int 0, .int 0, .ref q1, .ref q2, .ref q3, .ref a1, .ref a2])), (q1, .inl (kA 0, 6, .inl (fun _ => 0))), (q2, .inl (kA 0, 6, .inl (fun _ => 0))), (q3, .inl (kA 0, 6, .inl (fun _ => 0)))] H := hP
  have hD : va_D A [(a0, .inr (8, [.int 0, .int 0, .ref q1, .ref q2, .ref q3, .ref a1, .ref a2])), (q1, .inl (kA 0, 6, .inl (fun _ => 0))), (q2, .inl (kA 0, 6, .inl (fun _ => 0))), (q3, .inl (kA 0, 6, .inl (fun _ => 0)))] := hD
  have hP9 := hP.sub (ws' := []) [] rfl
  have hD9 := hD.sub (ws' := []) [] (by decide) rfl
  refine W.widen (k := 3) (n := 18) (Nat.le_of_ble_eq_true rfl) (Nat.le_of_ble_eq_true rfl) ?_
  exact W.vret hx hb hr (fun t ht hW => ⟨⟨(), rfl, trivial, by rw [ht]; exact hP9, hD9⟩, hS.F ht⟩) hS.2.2 dX8_init_38
set_option maxHeartbeats 4000000 in
set_option maxRecDepth 100000 in
theorem mX3_init (l : Launch) (dC : Nat → ClassId) (dI : Nat → Nat → Nat) (kA : Nat → ClassId) (sz : Nat) (a0 : Nat) (a1 : Nat)  : Met l yX3_init wsX3_init ({ frames := 1, cells := 2, slots := 12, locals := 12 }) (zPc dC dI kA sz [.ref a0, .ref a1] [(a0, .inr (3, [.int 0, .null, .null, .null]))]) (va_Qv (fun (u : Unit) => True) (zB dC dI (va_A [(a0, .inr (3, [.int 0, .null, .null, .null]))] sz) (fun (u : Unit) => [])) (va_A [(a0, .inr (3, [.int 0, .null, .null, .null]))] sz)) 2 12 (va_A [(a0, .inr (3, [.int 0, .null, .null, .null]))] sz) := by
  refine Met.ofW (cc := cX3_init) (maxL := 2) (ret := none) (by decide) rfl ?_
  intro p e s m args below meth c s₁ B hml hv
  obtain ⟨rfl, hsz, hP, hK, hD0⟩ := hv
  have hx := B.exec
  have hb := B.bytes
  have hr := B.returns
  have hts := atoms_spec (ws := wsX3_init) B.pre
  have hown : s.vm.findClass RX3 = some m.cls := findClass_of_methodNamed B.named
  have hlocks := B.notSynchronized
  have hin : meth.name = "<init>" := (name_of_methodNamed B.named B.method).1
  subst hsz
  have hD := hD0.self (sz := s.heap.size)
  generalize hAe : va_A [(a0, .inr (3, [.int 0, .null, .null, .null]))] s.heap.size = A at hD ⊢
  have hA : ∀ q : Nat, s.heap.size ≤ q → A q := fun q h => by rw [← hAe]; exact Or.inr h
  have hS : va_S A s.heap s.heap [] := va_S.rf
  have hP : va_P (dC, dI) vwCl [(a0, .inr (3, [.int 0, .null, .null, .null]))] s.heap := hP
  have hl := lv_entry ([.ref a0, .ref a1]) (n := 2) (Nat.le_of_ble_eq_true rfl)
  rw [lg_entry_eq]
  generalize (lg_sl ([.ref a0, .ref a1]) ++ List.replicate (2 - (lg_sl ([.ref a0, .ref a1])).length) Slot.unset).toArray = ls at hl ⊢
  have hl : lv_has ls 2 [(0, .ref a0), (1, .ref a1)] := hl
  refine lv_aload_n hx hb dX3_init_0 rfl (lv_at hl 0 rfl) ?_
  refine W.objInit hx hb hown (kX3_init_1 hts) (kX3_init_2 hts) (kX3_init_3 hts) rfl (by rw [hml]; exact hl.1) rfl dX3_init_1 (Nat.le_of_ble_eq_true rfl) (Nat.le_of_ble_eq_true rfl) ?_
  refine W.eq (g2 := F0 m 4 ls []) rfl ?_
  refine lv_aload_n hx hb dX3_init_4 rfl (lv_at hl 0 rfl) ?_
  refine lv_bipush (v := 6) hx hb dX3_init_5 (by decide) ?_
  refine z_newi hx hb (kX3_init_4 hts) hK hP hD hS hA 6 (by decide) (by decide) (by decide) (Nat.le_of_ble_eq_true rfl) (Nat.le_of_ble_eq_true rfl) dX3_init_7 (fun q1 H hP hD hS => ?_)
  refine W.widen (k := 1) (n := 6) (Nat.le_of_ble_eq_true rfl) (Nat.le_of_ble_eq_true rfl) ?_
  have hP : va_P (dC, dI) vwCl [(a0, .inr (3, [.int 0, .null, .null, .null])), (q1, .inl (kA 0, 6, .inl (fun _ => 0)))] H := hP
  have hD : va_D A [(a0, .inr (3, [.int 0, .null, .null, .null])), (q1, .inl (kA 0, 6, .inl (fun _ => 0)))] := hD
  refine va_putF (D := (dC, dI)) (ci := 3) (v := .ref q1) (ty := .array (.int)) (C := RX3) (T := TX3) (N := 4) hx hb hts iX3_init_X3 tyX3 tyX3_ok nmX3 hown hK.1 hP hD hS 0 rfl rfl 1 (by decide) (kX3_init_5 hts) (fun _ h9 => h9) rfl hin rfl (by decide +kernel) rfl rfl (Nat.le_of_ble_eq_true rfl) dX3_init_9 (fun H locs hP hD hS => ?_)
  have hP : va_P (dC, dI) vwCl [(a0, .inr (3, [.int 0, .ref q1, .null, .null])), (q1, .inl (kA 0, 6, .inl (fun _ => 0)))] H := hP
  have hD : va_D A [(a0, .inr (3, [.int 0, .ref q1, .null, .null])), (q1, .inl (kA 0, 6, .inl (fun _ => 0)))] := hD
  refine lv_aload_n hx hb dX3_init_12 rfl (lv_at hl 0 rfl) ?_
  refine lv_bipush (v := 6) hx hb dX3_init_13 (by decide) ?_
  refine z_newi hx hb (kX3_init_4 hts) hK hP hD hS hA 6 (by decide) (by decide) (by decide) (Nat.le_of_ble_eq_true rfl) (Nat.le_of_ble_eq_true rfl) dX3_init_15 (fun q2 H hP hD hS => ?_)
  refine W.widen (k := 2) (n := 12) (Nat.le_of_ble_eq_true rfl) (Nat.le_of_ble_eq_true rfl) ?_
  have hP : va_P (dC, dI) vwCl [(a0, .inr (3, [.int 0, .ref q1, .null, .null])), (q1, .inl (kA 0, 6, .inl (fun _ => 0))), (q2, .inl (kA 0, 6, .inl (fun _ => 0)))] H := hP
  have hD : va_D A [(a0, .inr (3, [.int 0, .ref q1, .null, .null])), (q1, .inl (kA 0, 6, .inl (fun _ => 0))), (q2, .inl (kA 0, 6, .inl (fun _ => 0)))] := hD
  refine va_putF (D := (dC, dI)) (ci := 3) (v := .ref q2) (ty := .array (.int)) (C := RX3) (T := TX3) (N := 4) hx hb hts iX3_init_X3 tyX3 tyX3_ok nmX3 hown hK.1 hP hD hS 0 rfl rfl 2 (by decide) (kX3_init_6 hts) (fun _ h9 => h9) rfl hin rfl (by decide +kernel) rfl rfl (Nat.le_of_ble_eq_true rfl) dX3_init_17 (fun H locs hP hD hS => ?_)
  have hP : va_P (dC, dI) vwCl [(a0, .inr (3, [.int 0, .ref q1, .ref q2, .null])), (q1, .inl (kA 0, 6, .inl (fun _ => 0))), (q2, .inl (kA 0, 6, .inl (fun _ => 0)))] H := hP
  have hD : va_D A [(a0, .inr (3, [.int 0, .ref q1, .ref q2, .null])), (q1, .inl (kA 0, 6, .inl (fun _ => 0))), (q2, .inl (kA 0, 6, .inl (fun _ => 0)))] := hD
  refine lv_aload_n hx hb dX3_init_20 rfl (lv_at hl 0 rfl) ?_
  refine lv_aload_n hx hb dX3_init_21 rfl (lv_at hl 1 rfl) ?_
  refine va_putF (D := (dC, dI)) (ci := 3) (v := .ref a1) (ty := .object "SnowMules$World") (C := RX3) (T := TX3) (N := 4) hx hb hts iX3_init_X3 tyX3 tyX3_ok nmX3 hown hK.1 hP hD hS 0 rfl rfl 3 (by decide) (kX3_init_7 hts) (fun _ h9 => h9) rfl hin rfl (by decide +kernel) rfl rfl (Nat.le_of_ble_eq_true rfl) dX3_init_22 (fun H locs hP hD hS => ?_)
  have hP : va_P (dC, dI) vwCl [(a0, .inr (3, [.int 0, .ref q1, .ref q2, .ref a1])), (q1, .inl (kA 0, 6, .inl (fun _ => 0))), (q2, .inl (kA 0, 6, .inl (fun _ => 0)))] H := hP
  have hD : va_D A [(a0, .inr (3, [.int 0, .ref q1, .ref q2, .ref a1])), (q1, .inl (kA 0, 6, .inl (fun _ => 0))), (q2, .inl (kA 0, 6, .inl (fun _ => 0)))] := hD
  have hP9 := hP.sub (ws' := []) [] rfl
  have hD9 := hD.sub (ws' := []) [] (by decide) rfl
  refine W.widen (k := 2) (n := 12) (Nat.le_of_ble_eq_true rfl) (Nat.le_of_ble_eq_true rfl) ?_
  exact W.vret hx hb hr (fun t ht hW => ⟨⟨(), rfl, trivial, by rw [ht]; exact hP9, hD9⟩, hS.F ht⟩) hS.2.2 dX3_init_25
set_option maxHeartbeats 4000000 in
set_option maxRecDepth 100000 in
theorem mX10_init (l : Launch) (dC : Nat → ClassId) (dI : Nat → Nat → Nat) (kA : Nat → ClassId) (sz : Nat) (x0 : Nat)  : Met l yX10_init wsX10_init ({ frames := 3, cells := 75, slots := 3152, locals := 56 }) (zPc dC dI kA sz [.ref x0] [(x0, .inr (10, [.null, .null, .null, .null, .int 0, .null, .int 0, .null, .null, .null, .null, .null, .null]))]) (va_Qv (fun (u : Nat × Nat × Nat × Nat × Nat × Nat × Nat × Nat × Nat × Nat × Nat × Nat × Nat × Nat × Nat × Nat × Nat × Nat × Nat × Nat × Nat × Nat × Nat × Nat × Nat × Nat) => True) (zB dC dI (va_A [(x0, .inr (10, [.null, .null, .null, .null, .int 0, .null, .int 0, .null, .null, .null, .null, .null, .null]))] sz) (fun (u : Nat × Nat × Nat × Nat × Nat × Nat × Nat × Nat × Nat × Nat × Nat × Nat × Nat × Nat × Nat × Nat × Nat × Nat × Nat × Nat × Nat × Nat × Nat × Nat × Nat × Nat) => [(x0, .inr (10, [.ref u.1, .ref u.2.1, .ref u.2.2.1, .ref u.2.2.2.1, .int 0, .ref u.2.2.2.2.1, .int 0, .ref u.2.2.2.2.2.1, .ref u.2.2.2.2.2.2.1, .ref u.2.2.2.2.2.2.2.1, .ref u.2.2.2.2.2.2.2.2.1, .ref u.2.2.2.2.2.2.2.2.2.1, .ref u.2.2.2.2.2.2.2.2.2.2.1])), (u.1, .inr (9, [.ref u.2.2.2.2.2.2.2.2.2.2.2.1, .ref u.2.2.2.2.2.2.2.2.2.2.2.2.2.1, .ref u.2.2.2.2.2.2.2.2.2.2.2.2.2.2.2.1, .ref u.2.2.2.2.2.2.2.2.2.2.2.2.2.2.2.2.2.1, .ref u.2.2.2.2.2.2.2.2.2.2.2.2.2.2.2.2.2.2.2.1, .ref u.2.2.2.2.2.2.2.2.2.2.2.2.2.2.2.2.2.2.2.2.2.1, .int (-1), .int 0, .int 0, .int 0])), (u.2.2.2.2.2.2.2.2.2.2.2.1, .inr (6, [.int 4, .ref u.2.2.2.2.2.2.2.2.2.2.2.2.1, .int 0])), (u.2.2.2.2.2.2.2.2.2.2.2.2.1, .inl (kA 0, 48, .inl (fun _ => 0))), (u.2.2.2.2.2.2.2.2.2.2.2.2.2.1, .inr (6, [.int 5, .ref u.2.2.2.2.2.2.2.2.2.2.2.2.2.2.1, .int 0])), (u.2.2.2.2.2.2.2.2.2.2.2.2.2.2.1, .inl (kA 0, 100, .inl (fun _ => 0))), (u.2.2.2.2.2.2.2.2.2.2.2.2.2.2.2.1, .inr (6, [.int 9, .ref u.2.2.2.2.2.2.2.2.2.2.2.2.2.2.2.2.1, .int 0])), (u.2.2.2.2.2.2.2.2.2.2.2.2.2.2.2.2.1, .inl (kA 0, 144, .inl (fun _ => 0))), (u.2.2.2.2.2.2.2.2.2.2.2.2.2.2.2.2.2.1, .inr (6, [.int 4, .ref u.2.2.2.2.2.2.2.2.2.2.2.2.2.2.2.2.2.2.1, .int 0])), (u.2.2.2.2.2.2.2.2.2.2.2.2.2.2.2.2.2.2.1, .inl (kA 0, 24, .inl (fun _ => 0))), (u.2.2.2.2.2.2.2.2.2.2.2.2.2.2.2.2.2.2.2.1, .inr (6, [.int 3, .ref u.2.2.2.2.2.2.2.2.2.2.2.2.2.2.2.2.2.2.2.2.1, .int 0])), (u.2.2.2.2.2.2.2.2.2.2.2.2.2.2.2.2.2.2.2.2.1, .inl (kA 0, 24, .inl (fun _ => 0))), (u.2.2.2.2.2.2.2.2.2.2.2.2.2.2.2.2.2.2.2.2.2.1, .inr (6, [.int 1, .ref u.2.2.2.2.2.2.2.2.2.2.2.2.2.2.2.2.2.2.2.2.2.2.1, .int 0])), (u.2.2.2.2.2.2.2.2.2.2.2.2.2.2.2.2.2.2.2.2.2.2.1, .inl (kA 0, 6, .inl (fun _ => 0))), (u.2.2.1, .inl (kA 4, 4, .inr (.inr (.inr (.inr (fun _ => none)))))), (u.2.2.2.1, .inl (kA 0, 400, .inl (fun _ => 0))), (u.2.2.2.2.1, .inl (kA 5, 6, .inr (.inr (.inr (.inr (fun _ => none)))))), (u.2.2.2.2.2.1, .inr (2, [.ref u.2.2.2.2.2.2.2.2.2.2.2.2.2.2.2.2.2.2.2.2.2.2.2.1, .ref u.2.2.2.2.2.2.2.2.2.2.2.2.2.2.2.2.2.2.2.2.2.2.2.2.1, .int 0, .int 0, .int 0, .int 0, .int 0, .ref u.2.2.2.2.2.2.2.2.2.2.2.2.2.2.2.2.2.2.2.2.2.2.2.2.2])), (u.2.2.2.2.2.2.2.2.2.2.2.2.2.2.2.2.2.2.2.2.2.2.2.1, .inl (kA 0, 401, .inl (fun _ => 0))), (u.2.2.2.2.2.2.2.2.2.2.2.2.2.2.2.2.2.2.2.2.2.2.2.2.1, .inl (kA 0, 401, .inl (fun _ => 0)))])) (va_A [(x0, .inr (10, [.null, .null, .null, .null, .int 0, .null, .int 0, .null, .null, .null, .null, .null, .null]))] sz)) 75 3152 (va_A [(x0, .inr (10, [.null, .null, .null, .null, .int 0, .null, .int 0, .null, .null, .null, .null, .null, .null]))] sz) := by
  refine Met.ofW (cc := cX10_init) (maxL := 1) (ret := none) (by decide) rfl ?_
  intro p e s m args below meth c s₁ B hml hv
  obtain ⟨rfl, hsz, hP, hK, hD0⟩ := hv
  have hx := B.exec
  have hb := B.bytes
  have hr := B.returns
  have hts := atoms_spec (ws := wsX10_init) B.pre
  have hown : s.vm.findClass RX10 = some m.cls := findClass_of_methodNamed B.named
  have hlocks := B.notSynchronized
  have hin : meth.name = "<init>" := (name_of_methodNamed B.named B.method).1
  subst hsz
  have hD := hD0.self (sz := s.heap.size)
  generalize hAe : va_A [(x0, .inr (10, [.null, .null, .null, .null, .int 0, .null, .int 0, .null, .null, .null, .null, .null, .null]))] s.heap.size = A at hD ⊢
  have hA : ∀ q : Nat, s.heap.size ≤ q → A q := fun q h => by rw [← hAe]; exact Or.inr h
  have hS : va_S A s.heap s.heap [] := va_S.rf
  have hP : va_P (dC, dI) vwCl [(x0, .inr (10, [.null, .null, .null, .null, .int 0, .null, .int 0, .null, .null, .null, .null, .null, .null]))] s.heap := hP
  have hl := lv_entry ([.ref x0]) (n := 1) (Nat.le_of_ble_eq_true rfl)
  rw [lg_entry_eq]
  generalize (lg_sl ([.ref x0]) ++ List.replicate (1 - (lg_sl ([.ref x0])).length) Slot.unset).toArray = ls at hl ⊢
  have hl : lv_has ls 1 [(0, .ref x0)] := hl
  refine lv_aload_n hx hb dX10_init_0 rfl (lv_at hl 0 rfl) ?_
  refine W.objInit hx hb hown (kX10_init_1 hts) (kX10_init_2 hts) (kX10_init_3 hts) rfl (by rw [hml]; exact hl.1) rfl dX10_init_1 (Nat.le_of_ble_eq_true rfl) (Nat.le_of_ble_eq_true rfl) ?_
  refine W.eq (g2 := F0 m 4 ls []) rfl ?_
  refine lv_aload_n hx hb dX10_init_4 rfl (lv_at hl 0 rfl) ?_
  refine va_new (ci := 9) (fs := [.null, .null, .null, .null, .null, .null, .int 0, .int 0, .int 0, .int 0]) (C := RX9) (T := TX9) (N := 10) hx hb hts iX10_init_X9 tyX9 tyX9_ok hown (kX10_init_4 hts) (kX10_init_5 hts) (kX10_init_6 hts) hK.1 hP hD hS hA rfl fsX9 (Nat.le_of_ble_eq_true rfl) (Nat.le_of_ble_eq_true rfl) dX10_init_5 (fun q1 H hP hD hS => ?_)
  refine W.widen (k := 1) (n := 10) (Nat.le_of_ble_eq_true rfl) (Nat.le_of_ble_eq_true rfl) ?_
  have hP : va_P (dC, dI) vwCl [(x0, .inr (10, [.null, .null, .null, .null, .int 0, .null, .int 0, .null, .null, .null, .null, .null, .null])), (q1, .inr (9, [.null, .null, .null, .null, .null, .null, .int 0, .int 0, .int 0, .int 0]))] H := hP
  have hD : va_D A [(x0, .inr (10, [.null, .null, .null, .null, .int 0, .null, .int 0, .null, .null, .null, .null, .null, .null])), (q1, .inr (9, [.null, .null, .null, .null, .null, .null, .int 0, .int 0, .int 0, .int 0]))] := hD
  refine lv_dup hx hb dX10_init_8 rfl ?_
  refine z_v (wr := [(x0, .inr (10, [.null, .null, .null, .null, .int 0, .null, .int 0, .null, .null, .null, .null, .null, .null]))]) (va_runIN (As := []) (rest := [.ref q1, .ref x0]) ⟨hx, hb, hml, hown, hts⟩ (mX9_init l dC dI kA _ q1) ⟨va_cnB 0 hts gX10_init_X9_init_n9 rfl rfl rfl hK.2.1.1 (kX10_init_6 hts) (by decide +kernel) ⟨(Nat.le_of_ble_eq_true rfl), (Nat.le_of_ble_eq_true rfl)⟩, rfl, (kX10_init_38 hts)⟩ ⟨zPc.blind, zPre hK (hP.sub [1] rfl) (hD.sub [1] (by decide) rfl)⟩ rfl rfl hl.1 rfl (lv_room (Nat.le_of_ble_eq_true rfl)) dX10_init_9 ⟨(Nat.le_of_ble_eq_true rfl), (Nat.le_of_ble_eq_true rfl)⟩) hP hD hS hA [1] [0] rfl rfl (by decide) (by decide) (fun u2 H locs hw3 hP hD hS => ?_)
  obtain ⟨tnodes_5, tnodesA_6, tpasses_7, tpassesA_8, tjars_9, tjarsA_10, torders_11, tordersA_12, tfeasts_13, tfeastsA_14, tway_15, twayA_16⟩ := u2
  refine W.widen (k := 13) (n := 374) (Nat.le_of_ble_eq_true rfl) (Nat.le_of_ble_eq_true rfl) ?_
  have hP : va_P (dC, dI) vwCl [(x0, .inr (10, [.null, .null, .null, .null, .int 0, .null, .int 0, .null, .null, .null, .null, .null, .null])), (q1, .inr (9, [.ref tnodes_5, .ref tpasses_7, .ref tjars_9, .ref torders_11, .ref tfeasts_13, .ref tway_15, .int (-1), .int 0, .int 0, .int 0])), (tnodes_5, .inr (6, [.int 4, .ref tnodesA_6, .int 0])), (tnodesA_6, .inl (kA 0, 48, .inl (fun _ => 0))), (tpasses_7, .inr (6, [.int 5, .ref tpassesA_8, .int 0])), (tpassesA_8, .inl (kA 0, 100, .inl (fun _ => 0))), (tjars_9, .inr (6, [.int 9, .ref tjarsA_10, .int 0])), (tjarsA_10, .inl (kA 0, 144, .inl (fun _ => 0))), (torders_11, .inr (6, [.int 4, .ref tordersA_12, .int 0])), (tordersA_12, .inl (kA 0, 24, .inl (fun _ => 0))), (tfeasts_13, .inr (6, [.int 3, .ref tfeastsA_14, .int 0])), (tfeastsA_14, .inl (kA 0, 24, .inl (fun _ => 0))), (tway_15, .inr (6, [.int 1, .ref twayA_16, .int 0])), (twayA_16, .inl (kA 0, 6, .inl (fun _ => 0)))] H := hP
  have hD : va_D A [(x0, .inr (10, [.null, .null, .null, .null, .int 0, .null, .int 0, .null, .null, .null, .null, .null, .null])), (q1, .inr (9, [.ref tnodes_5, .ref tpasses_7, .ref tjars_9, .ref torders_11, .ref tfeasts_13, .ref tway_15, .int (-1), .int 0, .int 0, .int 0])), (tnodes_5, .inr (6, [.int 4, .ref tnodesA_6, .int 0])), (tnodesA_6, .inl (kA 0, 48, .inl (fun _ => 0))), (tpasses_7, .inr (6, [.int 5, .ref tpassesA_8, .int 0])), (tpassesA_8, .inl (kA 0, 100, .inl (fun _ => 0))), (tjars_9, .inr (6, [.int 9, .ref tjarsA_10, .int 0])), (tjarsA_10, .inl (kA 0, 144, .inl (fun _ => 0))), (torders_11, .inr (6, [.int 4, .ref tordersA_12, .int 0])), (tordersA_12, .inl (kA 0, 24, .inl (fun _ => 0))), (tfeasts_13, .inr (6, [.int 3, .ref tfeastsA_14, .int 0])), (tfeastsA_14, .inl (kA 0, 24, .inl (fun _ => 0))), (tway_15, .inr (6, [.int 1, .ref twayA_16, .int 0])), (twayA_16, .inl (kA 0, 6, .inl (fun _ => 0)))] := hD
  refine va_putF (D := (dC, dI)) (ci := 10) (v := .ref q1) (ty := .object "SnowMules$World") (C := RX10) (T := TX10) (N := 13) hx hb hts iX10_init_X10 tyX10 tyX10_ok nmX10 hown hK.1 hP hD hS 0 rfl rfl 0 (by decide) (kX10_init_7 hts) (fun _ h9 => h9) rfl hin rfl (by decide +kernel) rfl rfl (Nat.le_of_ble_eq_true rfl) dX10_init_12 (fun H locs hP hD hS => ?_)
  have hP : va_P (dC, dI) vwCl [(x0, .inr (10, [.ref q1, .null, .null, .null, .int 0, .null, .int 0, .null, .null, .null, .null, .null, .null])), (q1, .inr (9, [.ref tnodes_5, .ref tpasses_7, .ref tjars_9, .ref torders_11, .ref tfeasts_13, .ref tway_15, .int (-1), .int 0, .int 0, .int 0])), (tnodes_5, .inr (6, [.int 4, .ref tnodesA_6, .int 0])), (tnodesA_6, .inl (kA 0, 48, .inl (fun _ => 0))), (tpasses_7, .inr (6, [.int 5, .ref tpassesA_8, .int 0])), (tpassesA_8, .inl (kA 0, 100, .inl (fun _ => 0))), (tjars_9, .inr (6, [.int 9, .ref tjarsA_10, .int 0])), (tjarsA_10, .inl (kA 0, 144, .inl (fun _ => 0))), (torders_11, .inr (6, [.int 4, .ref tordersA_12, .int 0])), (tordersA_12, .inl (kA 0, 24, .inl (fun _ => 0))), (tfeasts_13, .inr (6, [.int 3, .ref tfeastsA_14, .int 0])), (tfeastsA_14, .inl (kA 0, 24, .inl (fun _ => 0))), (tway_15, .inr (6, [.int 1, .ref twayA_16, .int 0])), (twayA_16, .inl (kA 0, 6, .inl (fun _ => 0)))] H := hP
  have hD : va_D A [(x0, .inr (10, [.ref q1, .null, .null, .null, .int 0, .null, .int 0, .null, .null, .null, .null, .null, .null])), (q1, .inr (9, [.ref tnodes_5, .ref tpasses_7, .ref tjars_9, .ref torders_11, .ref tfeasts_13, .ref tway_15, .int (-1), .int 0, .int 0, .int 0])), (tnodes_5, .inr (6, [.int 4, .ref tnodesA_6, .int 0])), (tnodesA_6, .inl (kA 0, 48, .inl (fun _ => 0))), (tpasses_7, .inr (6, [.int 5, .ref tpassesA_8, .int 0])), (tpassesA_8, .inl (kA 0, 100, .inl (fun _ => 0))), (tjars_9, .inr (6, [.int 9, .ref tjarsA_10, .int 0])), (tjarsA_10, .inl (kA 0, 144, .inl (fun _ => 0))), (torders_11, .inr (6, [.int 4, .ref tordersA_12, .int 0])), (tordersA_12, .inl (kA 0, 24, .inl (fun _ => 0))), (tfeasts_13, .inr (6, [.int 3, .ref tfeastsA_14, .int 0])), (tfeastsA_14, .inl (kA 0, 24, .inl (fun _ => 0))), (tway_15, .inr (6, [.int 1, .ref twayA_16, .int 0])), (twayA_16, .inl (kA 0, 6, .inl (fun _ => 0)))] := hD
  refine lv_aload_n hx hb dX10_init_15 rfl (lv_at hl 0 rfl) ?_
  refine va_new (ci := 9) (fs := [.null, .null, .null, .null, .null, .null, .int 0, .int 0, .int 0, .int 0]) (C := RX9) (T := TX9) (N := 10) hx hb hts iX10_init_X9 tyX9 tyX9_ok hown (kX10_init_4 hts) (kX10_init_5 hts) (kX10_init_6 hts) hK.1 hP hD hS hA rfl fsX9 (Nat.le_of_ble_eq_true rfl) (Nat.le_of_ble_eq_true rfl) dX10_init_16 (fun q17 H hP hD hS => ?_)
  refine W.widen (k := 14) (n := 384) (Nat.le_of_ble_eq_true rfl) (Nat.le_of_ble_eq_true rfl) ?_
  have hP : va_P (dC, dI) vwCl [(x0, .inr (10, [.ref q1, .null, .null, .null, .int 0, .null, .int 0, .null, .null, .null, .null, .null, .null])), (q1, .inr (9, [.ref tnodes_5, .ref tpasses_7, .ref tjars_9, .ref torders_11, .ref tfeasts_13, .ref tway_15, .int (-1), .int 0, .int 0, .int 0])), (tnodes_5, .inr (6, [.int 4, .ref tnodesA_6, .int 0])), (tnodesA_6, .inl (kA 0, 48, .inl (fun _ => 0))), (tpasses_7, .inr (6, [.int 5, .ref tpassesA_8, .int 0])), (tpassesA_8, .inl (kA 0, 100, .inl (fun _ => 0))), (tjars_9, .inr (6, [.int 9, .ref tjarsA_10, .int 0])), (tjarsA_10, .inl (kA 0, 144, .inl (fun _ => 0))), (torders_11, .inr (6, [.int 4, .ref tordersA_12, .int 0])), (tordersA_12, .inl (kA 0, 24, .inl (fun _ => 0))), (tfeasts_13, .inr (6, [.int 3, .ref tfeastsA_14, .int 0])), (tfeastsA_14, .inl (kA 0, 24, .inl (fun _ => 0))), (tway_15, .inr (6, [.int 1, .ref twayA_16, .int 0])), (twayA_16, .inl (kA 0, 6, .inl (fun _ => 0))), (q17, .inr (9, [.null, .null, .null, .null, .null, .null, .int 0, .int 0, .int 0, .int 0]))] H := hP
  have hD : va_D A [(x0, .inr (10, [.ref q1, .null, .null, .null, .int 0, .null, .int 0, .null, .null, .null, .null, .null, .null])), (q1, .inr (9, [.ref tnodes_5, .ref tpasses_7, .ref tjars_9, .ref torders_11, .ref tfeasts_13, .ref tway_15, .int (-1), .int 0, .int 0, .int 0])), (tnodes_5, .inr (6, [.int 4, .ref tnodesA_6, .int 0])), (tnodesA_6, .inl (kA 0, 48, .inl (fun _ => 0))), (tpasses_7, .inr (6, [.int 5, .ref tpassesA_8, .int 0])), (tpassesA_8, .inl (kA 0, 100, .inl (fun _ => 0))), (tjars_9, .inr (6, [.int 9, .ref tjarsA_10, .int 0])), (tjarsA_10, .inl (kA 0, 144, .inl (fun _ => 0))), (torders_11, .inr (6, [.int 4, .ref tordersA_12, .int 0])), (tordersA_12, .inl (kA 0, 24, .inl (fun _ => 0))), (tfeasts_13, .inr (6, [.int 3, .ref tfeastsA_14, .int 0])), (tfeastsA_14, .inl (kA 0, 24, .inl (fun _ => 0))), (tway_15, .inr (6, [.int 1, .ref twayA_16, .int 0])), (twayA_16, .inl (kA 0, 6, .inl (fun _ => 0))), (q17, .inr (9, [.null, .null, .null, .null, .null, .null, .int 0, .int 0, .int 0, .int 0]))] := hD
  refine lv_dup hx hb dX10_init_19 rfl ?_
  refine z_v (wr := [(x0, .inr (10, [.ref q1, .null, .null, .null, .int 0, .null, .int 0, .null, .null, .null, .null, .null, .null])), (q1, .inr (9, [.ref tnodes_5, .ref tpasses_7, .ref tjars_9, .ref torders_11, .ref tfeasts_13, .ref tway_15, .int (-1), .int 0, .int 0, .int 0])), (tnodes_5, .inr (6, [.int 4, .ref tnodesA_6, .int 0])), (tnodesA_6, .inl (kA 0, 48, .inl (fun _ => 0))), (tpasses_7, .inr (6, [.int 5, .ref tpassesA_8, .int 0])), (tpassesA_8, .inl (kA 0, 100, .inl (fun _ => 0))), (tjars_9, .inr (6, [.int 9, .ref tjarsA_10, .int 0])), (tjarsA_10, .inl (kA 0, 144, .inl (fun _ => 0))), (torders_11, .inr (6, [.int 4, .ref tordersA_12, .int 0])), (tordersA_12, .inl (kA 0, 24, .inl (fun _ => 0))), (tfeasts_13, .inr (6, [.int 3, .ref tfeastsA_14, .int 0])), (tfeastsA_14, .inl (kA 0, 24, .inl (fun _ => 0))), (tway_15, .inr (6, [.int 1, .ref twayA_16, .int 0])), (twayA_16, .inl (kA 0, 6, .inl (fun _ => 0)))]) (va_runIN (As := []) (rest := [.ref q17, .ref x0]) ⟨hx, hb, hml, hown, hts⟩ (mX9_init l dC dI kA _ q17) ⟨va_cnB 0 hts gX10_init_X9_init_n9 rfl rfl rfl hK.2.1.1 (kX10_init_6 hts) (by decide +kernel) ⟨(Nat.le_of_ble_eq_true rfl), (Nat.le_of_ble_eq_true rfl)⟩, rfl, (kX10_init_38 hts)⟩ ⟨zPc.blind, zPre hK (hP.sub [14] rfl) (hD.sub [14] (by decide) rfl)⟩ rfl rfl hl.1 rfl (lv_room (Nat.le_of_ble_eq_true rfl)) dX10_init_20 ⟨(Nat.le_of_ble_eq_true rfl), (Nat.le_of_ble_eq_true rfl)⟩) hP hD hS hA [14] [0, 1, 2, 3, 4, 5, 6, 7, 8, 9, 10, 11, 12, 13] rfl rfl (by decide) (by decide) (fun u18 H locs hw19 hP hD hS => ?_)
  obtain ⟨tnodes_21, tnodesA_22, tpasses_23, tpassesA_24, tjars_25, tjarsA_26, torders_27, tordersA_28, tfeasts_29, tfeastsA_30, tway_31, twayA_32⟩ := u18
  refine W.widen (k := 26) (n := 748) (Nat.le_of_ble_eq_true rfl) (Nat.le_of_ble_eq_true rfl) ?_
  have hP : va_P (dC, dI) vwCl [(x0, .inr (10, [.ref q1, .null, .null, .null, .int 0, .null, .int 0, .null, .null, .null, .null, .null, .null])), (q1, .inr (9, [.ref tnodes_5, .ref tpasses_7, .ref tjars_9, .ref torders_11, .ref tfeasts_13, .ref tway_15, .int (-1), .int 0, .int 0, .int 0])), (tnodes_5, .inr (6, [.int 4, .ref tnodesA_6, .int 0])), (tnodesA_6, .inl (kA 0, 48, .inl (fun _ => 0))), (tpasses_7, .inr (6, [.int 5, .ref tpassesA_8, .int 0])), (tpassesA_8, .inl (kA 0, 100, .inl (fun _ => 0))), (tjars_9, .inr (6, [.int 9, .ref tjarsA_10, .int 0])), (tjarsA_10, .inl (kA 0, 144, .inl (fun _ => 0))), (torders_11, .inr (6, [.int 4, .ref tordersA_12, .int 0])), (tordersA_12, .inl (kA 0, 24, .inl (fun _ => 0))), (tfeasts_13, .inr (6, [.int 3, .ref tfeastsA_14, .int 0])), (tfeastsA_14, .inl (kA 0, 24, .inl (fun _ => 0))), (tway_15, .inr (6, [.int 1, .ref twayA_16, .int 0])), (twayA_16, .inl (kA 0, 6, .inl (fun _ => 0))), (q17, .inr (9, [.ref tnodes_21, .ref tpasses_23, .ref tjars_25, .ref torders_27, .ref tfeasts_29, .ref tway_31, .int (-1), .int 0, .int 0, .int 0])), (tnodes_21, .inr (6, [.int 4, .ref tnodesA_22, .int 0])), (tnodesA_22, .inl (kA 0, 48, .inl (fun _ => 0))), (tpasses_23, .inr (6, [.int 5, .ref tpassesA_24, .int 0])), (tpassesA_24, .inl (kA 0, 100, .inl (fun _ => 0))), (tjars_25, .inr (6, [.int 9, .ref tjarsA_26, .int 0])), (tjarsA_26, .inl (kA 0, 144, .inl (fun _ => 0))), (torders_27, .inr (6, [.int 4, .ref tordersA_28, .int 0])), (tordersA_28, .inl (kA 0, 24, .inl (fun _ => 0))), (tfeasts_29, .inr (6, [.int 3, .ref tfeastsA_30, .int 0])), (tfeastsA_30, .inl (kA 0, 24, .inl (fun _ => 0))), (tway_31, .inr (6, [.int 1, .ref twayA_32, .int 0])), (twayA_32, .inl (kA 0, 6, .inl (fun _ => 0)))] H := hP
  have hD : va_D A [(x0, .inr (10, [.ref q1, .null, .null, .null, .int 0, .null, .int 0, .null, .null, .null, .null, .null, .null])), (q1, .inr (9, [.ref tnodes_5, .ref tpasses_7, .ref tjars_9, .ref torders_11, .ref tfeasts_13, .ref tway_15, .int (-1), .int 0, .int 0, .int 0])), (tnodes_5, .inr (6, [.int 4, .ref tnodesA_6, .int 0])), (tnodesA_6, .inl (kA 0, 48, .inl (fun _ => 0))), (tpasses_7, .inr (6, [.int 5, .ref tpassesA_8, .int 0])), (tpassesA_8, .inl (kA 0, 100, .inl (fun _ => 0))), (tjars_9, .inr (6, [.int 9, .ref tjarsA_10, .int 0])), (tjarsA_10, .inl (kA 0, 144, .inl (fun _ => 0))), (torders_11, .inr (6, [.int 4, .ref tordersA_12, .int 0])), (tordersA_12, .inl (kA 0, 24, .inl (fun _ => 0))), (tfeasts_13, .inr (6, [.int 3, .ref tfeastsA_14, .int 0])), (tfeastsA_14, .inl (kA 0, 24, .inl (fun _ => 0))), (tway_15, .inr (6, [.int 1, .ref twayA_16, .int 0])), (twayA_16, .inl (kA 0, 6, .inl (fun _ => 0))), (q17, .inr (9, [.ref tnodes_21, .ref tpasses_23, .ref tjars_25, .ref torders_27, .ref tfeasts_29, .ref tway_31, .int (-1), .int 0, .int 0, .int 0])), (tnodes_21, .inr (6, [.int 4, .ref tnodesA_22, .int 0])), (tnodesA_22, .inl (kA 0, 48, .inl (fun _ => 0))), (tpasses_23, .inr (6, [.int 5, .ref tpassesA_24, .int 0])), (tpassesA_24, .inl (kA 0, 100, .inl (fun _ => 0))), (tjars_25, .inr (6, [.int 9, .ref tjarsA_26, .int 0])), (tjarsA_26, .inl (kA 0, 144, .inl (fun _ => 0))), (torders_27, .inr (6, [.int 4, .ref tordersA_28, .int 0])), (tordersA_28, .inl (kA 0, 24, .inl (fun _ => 0))), (tfeasts_29, .inr (6, [.int 3, .ref tfeastsA_30, .int 0])), (tfeastsA_30, .inl (kA 0, 24, .inl (fun _ => 0))), (tway_31, .inr (6, [.int 1, .ref twayA_32, .int 0])), (twayA_32, .inl (kA 0, 6, .inl (fun _ => 0)))] := hD
  refine va_putF (D := (dC, dI)) (ci := 10) (v := .ref q17) (ty := .object "SnowMules$World") (C := RX10) (T := TX10) (N := 13) hx hb hts iX10_init_X10 tyX10 tyX10_ok nmX10 hown hK.1 hP hD hS 0 rfl rfl 1 (by decide) (kX10_init_8 hts) (fun _ h9 => h9) rfl hin rfl (by decide +kernel) rfl rfl (Nat.le_of_ble_eq_true rfl) dX10_init_23 (fun H locs hP hD hS => ?_)
  have hP : va_P (dC, dI) vwCl [(x0, .inr (10, [.ref q1, .ref q17, .null, .null, .int 0, .null, .int 0, .null, .null, .null, .null, .null, .null])), (q1, .inr (9, [.ref tnodes_5, .ref tpasses_7, .ref tjars_9, .ref torders_11, .ref tfeasts_13, .ref tway_15, .int (-1), .int 0, .int 0, .int 0])), (tnodes_5, .inr (6, [.int 4, .ref tnodesA_6, .int 0])), (tnodesA_6, .inl (kA 0, 48, .inl (fun _ => 0))), (tpasses_7, .inr (6, [.int 5, .ref tpassesA_8, .int 0])), (tpassesA_8, .inl (kA 0, 100, .inl (fun _ => 0))), (tjars_9, .inr (6, [.int 9, .ref tjarsA_10, .int 0])), (tjarsA_10, .inl (kA 0, 144, .inl (fun _ => 0))), (torders_11, .inr (6, [.int 4, .ref tordersA_12, .int 0])), (tordersA_12, .inl (kA 0, 24, .inl (fun _ => 0))), (tfeasts_13, .inr (6, [.int 3, .ref tfeastsA_14, .int 0])), (tfeastsA_14, .inl (kA 0, 24, .inl (fun _ => 0))), (tway_15, .inr (6, [.int 1, .ref twayA_16, .int 0])), (twayA_16, .inl (kA 0, 6, .inl (fun _ => 0))), (q17, .inr (9, [.ref tnodes_21, .ref tpasses_23, .ref tjars_25, .ref torders_27, .ref tfeasts_29, .ref tway_31, .int (-1), .int 0, .int 0, .int 0])), (tnodes_21, .inr (6, [.int 4, .ref tnodesA_22, .int 0])), (tnodesA_22, .inl (kA 0, 48, .inl (fun _ => 0))), (tpasses_23, .inr (6, [.int 5, .ref tpassesA_24, .int 0])), (tpassesA_24, .inl (kA 0, 100, .inl (fun _ => 0))), (tjars_25, .inr (6, [.int 9, .ref tjarsA_26, .int 0])), (tjarsA_26, .inl (kA 0, 144, .inl (fun _ => 0))), (torders_27, .inr (6, [.int 4, .ref tordersA_28, .int 0])), (tordersA_28, .inl (kA 0, 24, .inl (fun _ => 0))), (tfeasts_29, .inr (6, [.int 3, .ref tfeastsA_30, .int 0])), (tfeastsA_30, .inl (kA 0, 24, .inl (fun _ => 0))), (tway_31, .inr (6, [.int 1, .ref twayA_32, .int 0])), (twayA_32, .inl (kA 0, 6, .inl (fun _ => 0)))] H := hP
  have hD : va_D A [(x0, .inr (10, [.ref q1, .ref q17, .null, .null, .int 0, .null, .int 0, .null, .null, .null, .null, .null, .null])), (q1, .inr (9, [.ref tnodes_5, .ref tpasses_7, .ref tjars_9, .ref torders_11, .ref tfeasts_13, .ref tway_15, .int (-1), .int 0, .int 0, .int 0])), (tnodes_5, .inr (6, [.int 4, .ref tnodesA_6, .int 0])), (tnodesA_6, .inl (kA 0, 48, .inl (fun _ => 0))), (tpasses_7, .inr (6, [.int 5, .ref tpassesA_8, .int 0])), (tpassesA_8, .inl (kA 0, 100, .inl (fun _ => 0))), (tjars_9, .inr (6, [.int 9, .ref tjarsA_10, .int 0])), (tjarsA_10, .inl (kA 0, 144, .inl (fun _ => 0))), (torders_11, .inr (6, [.int 4, .ref tordersA_12, .int 0])), (tordersA_12, .inl (kA 0, 24, .inl (fun _ => 0))), (tfeasts_13, .inr (6, [.int 3, .ref tfeastsA_14, .int 0])), (tfeastsA_14, .inl (kA 0, 24, .inl (fun _ => 0))), (tway_15, .inr (6, [.int 1, .ref twayA_16, .int 0])), (twayA_16, .inl (kA 0, 6, .inl (fun _ => 0))), (q17, .inr (9, [.ref tnodes_21, .ref tpasses_23, .ref tjars_25, .ref torders_27, .ref tfeasts_29, .ref tway_31, .int (-1), .int 0, .int 0, .int 0])), (tnodes_21, .inr (6, [.int 4, .ref tnodesA_22, .int 0])), (tnodesA_22, .inl (kA 0, 48, .inl (fun _ => 0))), (tpasses_23, .inr (6, [.int 5, .ref tpassesA_24, .int 0])), (tpassesA_24, .inl (kA 0, 100, .inl (fun _ => 0))), (tjars_25, .inr (6, [.int 9, .ref tjarsA_26, .int 0])), (tjarsA_26, .inl (kA 0, 144, .inl (fun _ => 0))), (torders_27, .inr (6, [.int 4, .ref tordersA_28, .int 0])), (tordersA_28, .inl (kA 0, 24, .inl (fun _ => 0))), (tfeasts_29, .inr (6, [.int 3, .ref tfeastsA_30, .int 0])), (tfeastsA_30, .inl (kA 0, 24, .inl (fun _ => 0))), (tway_31, .inr (6, [.int 1, .ref twayA_32, .int 0])), (twayA_32, .inl (kA 0, 6, .inl (fun _ => 0)))] := hD
  refine lv_aload_n hx hb dX10_init_26 rfl (lv_at hl 0 rfl) ?_
  refine lv_iconst (v := 4) hx hb dX10_init_27 (by decide) ?_
  refine z_newq hx hb hown (kX10_init_4 hts) hK.2.2.1 hK hP hD hS hA 4 rfl 4 (by decide) (by decide) (by decide) (Nat.le_of_ble_eq_true rfl) (Nat.le_of_ble_eq_true rfl) dX10_init_28 (fun q33 H hP hD hS => ?_)
  refine W.widen (k := 27) (n := 752) (Nat.le_of_ble_eq_true rfl) (Nat.le_of_ble_eq_true rfl) ?_
  have hP : va_P (dC, dI) vwCl [(x0, .inr (10, [.ref q1, .ref q17, .null, .null, .int 0, .null, .int 0, .null, .null, .null, .null, .null, .null])), (q1, .inr (9, [.ref tnodes_5, .ref tpasses_7, .ref tjars_9, .ref torders_11, .ref tfeasts_13, .ref tway_15, .int (-1), .int 0, .int 0, .int 0])), (tnodes_5, .inr (6, [.int 4, .ref tnodesA_6, .int 0])), (tnodesA_6, .inl (kA 0, 48, .inl (fun _ => 0))), (tpasses_7, .inr (6, [.int 5, .ref tpassesA_8, .int 0])), (tpassesA_8, .inl (kA 0, 100, .inl (fun _ => 0))), (tjars_9, .inr (6, [.int 9, .ref tjarsA_10, .int 0])), (tjarsA_10, .inl (kA 0, 144, .inl (fun _ => 0))), (torders_11, .inr (6, [.int 4, .ref tordersA_12, .int 0])), (tordersA_12, .inl (kA 0, 24, .inl (fun _ => 0))), (tfeasts_13, .inr (6, [.int 3, .ref tfeastsA_14, .int 0])), (tfeastsA_14, .inl (kA 0, 24, .inl (fun _ => 0))), (tway_15, .inr (6, [.int 1, .ref twayA_16, .int 0])), (twayA_16, .inl (kA 0, 6, .inl (fun _ => 0))), (q17, .inr (9, [.ref tnodes_21, .ref tpasses_23, .ref tjars_25, .ref torders_27, .ref tfeasts_29, .ref tway_31, .int (-1), .int 0, .int 0, .int 0])), (tnodes_21, .inr (6, [.int 4, .ref tnodesA_22, .int 0])), (tnodesA_22, .inl (kA 0, 48, .inl (fun _ => 0))), (tpasses_23, .inr (6, [.int 5, .ref tpassesA_24, .int 0])), (tpassesA_24, .inl (kA 0, 100, .inl (fun _ => 0))), (tjars_25, .inr (6, [.int 9, .ref tjarsA_26, .int 0])), (tjarsA_26, .inl (kA 0, 144, .inl (fun _ => 0))), (torders_27, .inr (6, [.int 4, .ref tordersA_28, .int 0])), (tordersA_28, .inl (kA 0, 24, .inl (fun _ => 0))), (tfeasts_29, .inr (6, [.int 3, .ref tfeastsA_30, .int 0])), (tfeastsA_30, .inl (kA 0, 24, .inl (fun _ => 0))), (tway_31, .inr (6, [.int 1, .ref twayA_32, .int 0])), (twayA_32, .inl (kA 0, 6, .inl (fun _ => 0))), (q33, .inl (kA 4, 4, .inr (.inr (.inr (.inr (fun _ => none))))))] H := hP
  have hD : va_D A [(x0, .inr (10, [.ref q1, .ref q17, .null, .null, .int 0, .null, .int 0, .null, .null, .null, .null, .null, .null])), (q1, .inr (9, [.ref tnodes_5, .ref tpasses_7, .ref tjars_9, .ref torders_11, .ref tfeasts_13, .ref tway_15, .int (-1), .int 0, .int 0, .int 0])), (tnodes_5, .inr (6, [.int 4, .ref tnodesA_6, .int 0])), (tnodesA_6, .inl (kA 0, 48, .inl (fun _ => 0))), (tpasses_7, .inr (6, [.int 5, .ref tpassesA_8, .int 0])), (tpassesA_8, .inl (kA 0, 100, .inl (fun _ => 0))), (tjars_9, .inr (6, [.int 9, .ref tjarsA_10, .int 0])), (tjarsA_10, .inl (kA 0, 144, .inl (fun _ => 0))), (torders_11, .inr (6, [.int 4, .ref tordersA_12, .int 0])), (tordersA_12, .inl (kA 0, 24, .inl (fun _ => 0))), (tfeasts_13, .inr (6, [.int 3, .ref tfeastsA_14, .int 0])), (tfeastsA_14, .inl (kA 0, 24, .inl (fun _ => 0))), (tway_15, .inr (6, [.int 1, .ref twayA_16, .int 0])), (twayA_16, .inl (kA 0, 6, .inl (fun _ => 0))), (q17, .inr (9, [.ref tnodes_21, .ref tpasses_23, .ref tjars_25, .ref torders_27, .ref tfeasts_29, .ref tway_31, .int (-1), .int 0, .int 0, .int 0])), (tnodes_21, .inr (6, [.int 4, .ref tnodesA_22, .int 0])), (tnodesA_22, .inl (kA 0, 48, .inl (fun _ => 0))), (tpasses_23, .inr (6, [.int 5, .ref tpassesA_24, .int 0])), (tpassesA_24, .inl (kA 0, 100, .inl (fun _ => 0))), (tjars_25, .inr (6, [.int 9, .ref tjarsA_26, .int 0])), (tjarsA_26, .inl (kA 0, 144, .inl (fun _ => 0))), (torders_27, .inr (6, [.int 4, .ref tordersA_28, .int 0])), (tordersA_28, .inl (kA 0, 24, .inl (fun _ => 0))), (tfeasts_29, .inr (6, [.int 3, .ref tfeastsA_30, .int 0])), (tfeastsA_30, .inl (kA 0, 24, .inl (fun _ => 0))), (tway_31, .inr (6, [.int 1, .ref twayA_32, .int 0])), (twayA_32, .inl (kA 0, 6, .inl (fun _ => 0))), (q33, .inl (kA 4, 4, .inr (.inr (.inr (.inr (fun _ => none))))))] := hD
  refine va_putF (D := (dC, dI)) (ci := 10) (v := .ref q33) (ty := .array (.object "SnowMules$World")) (C := RX10) (T := TX10) (N := 13) hx hb hts iX10_init_X10 tyX10 tyX10_ok nmX10 hown hK.1 hP hD hS 0 rfl rfl 2 (by decide) (kX10_init_9 hts) (fun _ h9 => h9) rfl hin rfl (by decide +kernel) rfl rfl (Nat.le_of_ble_eq_true rfl) dX10_init_31 (fun H locs hP hD hS => ?_)
  have hP : va_P (dC, dI) vwCl [(x0, .inr (10, [.ref q1, .ref q17, .ref q33, .null, .int 0, .null, .int 0, .null, .null, .null, .null, .null, .null])), (q1, .inr (9, [.ref tnodes_5, .ref tpasses_7, .ref tjars_9, .ref torders_11, .ref tfeasts_13, .ref tway_15, .int (-1), .int 0, .int 0, .int 0])), (tnodes_5, .inr (6, [.int 4, .ref tnodesA_6, .int 0])), (tnodesA_6, .inl (kA 0, 48, .inl (fun _ => 0))), (tpasses_7, .inr (6, [.int 5, .ref tpassesA_8, .int 0])), (tpassesA_8, .inl (kA 0, 100, .inl (fun _ => 0))), (tjars_9, .inr (6, [.int 9, .ref tjarsA_10, .int 0])), (tjarsA_10, .inl (kA 0, 144, .inl (fun _ => 0))), (torders_11, .inr (6, [.int 4, .ref tordersA_12, .int 0])), (tordersA_12, .inl (kA 0, 24, .inl (fun _ => 0))), (tfeasts_13, .inr (6, [.int 3, .ref tfeastsA_14, .int 0])), (tfeastsA_14, .inl (kA 0, 24, .inl (fun _ => 0))), (tway_15, .inr (6, [.int 1, .ref twayA_16, .int 0])), (twayA_16, .inl (kA 0, 6, .inl (fun _ => 0))), (q17, .inr (9, [.ref tnodes_21, .ref tpasses_23, .ref tjars_25, .ref torders_27, .ref tfeasts_29, .ref tway_31, .int (-1), .int 0, .int 0, .int 0])), (tnodes_21, .inr (6, [.int 4, .ref tnodesA_22, .int 0])), (tnodesA_22, .inl (kA 0, 48, .inl (fun _ => 0))), (tpasses_23, .inr (6, [.int 5, .ref tpassesA_24, .int 0])), (tpassesA_24, .inl (kA 0, 100, .inl (fun _ => 0))), (tjars_25, .inr (6, [.int 9, .ref tjarsA_26, .int 0])), (tjarsA_26, .inl (kA 0, 144, .inl (fun _ => 0))), (torders_27, .inr (6, [.int 4, .ref tordersA_28, .int 0])), (tordersA_28, .inl (kA 0, 24, .inl (fun _ => 0))), (tfeasts_29, .inr (6, [.int 3, .ref tfeastsA_30, .int 0])), (tfeastsA_30, .inl (kA 0, 24, .inl (fun _ => 0))), (tway_31, .inr (6, [.int 1, .ref twayA_32, .int 0])), (twayA_32, .inl (kA 0, 6, .inl (fun _ => 0))), (q33, .inl (kA 4, 4, .inr (.inr (.inr (.inr (fun _ => none))))))] H := hP
  have hD : va_D A [(x0, .inr (10, [.ref q1, .ref q17, .ref q33, .null, .int 0, .null, .int 0, .null, .null, .null, .null, .null, .null])), (q1, .inr (9, [.ref tnodes_5, .ref tpasses_7, .ref tjars_9, .ref torders_11, .ref tfeasts_13, .ref tway_15, .int (-1), .int 0, .int 0, .int 0])), (tnodes_5, .inr (6, [.int 4, .ref tnodesA_6, .int 0])), (tnodesA_6, .inl (kA 0, 48, .inl (fun _ => 0))), (tpasses_7, .inr (6, [.int 5, .ref tpassesA_8, .int 0])), (tpassesA_8, .inl (kA 0, 100, .inl (fun _ => 0))), (tjars_9, .inr (6, [.int 9, .ref tjarsA_10, .int 0])), (tjarsA_10, .inl (kA 0, 144, .inl (fun _ => 0))), (torders_11, .inr (6, [.int 4, .ref tordersA_12, .int 0])), (tordersA_12, .inl (kA 0, 24, .inl (fun _ => 0))), (tfeasts_13, .inr (6, [.int 3, .ref tfeastsA_14, .int 0])), (tfeastsA_14, .inl (kA 0, 24, .inl (fun _ => 0))), (tway_15, .inr (6, [.int 1, .ref twayA_16, .int 0])), (twayA_16, .inl (kA 0, 6, .inl (fun _ => 0))), (q17, .inr (9, [.ref tnodes_21, .ref tpasses_23, .ref tjars_25, .ref torders_27, .ref tfeasts_29, .ref tway_31, .int (-1), .int 0, .int 0, .int 0])), (tnodes_21, .inr (6, [.int 4, .ref tnodesA_22, .int 0])), (tnodesA_22, .inl (kA 0, 48, .inl (fun _ => 0))), (tpasses_23, .inr (6, [.int 5, .ref tpassesA_24, .int 0])), (tpassesA_24, .inl (kA 0, 100, .inl (fun _ => 0))), (tjars_25, .inr (6, [.int 9, .ref tjarsA_26, .int 0])), (tjarsA_26, .inl (kA 0, 144, .inl (fun _ => 0))), (torders_27, .inr (6, [.int 4, .ref tordersA_28, .int 0])), (tordersA_28, .inl (kA 0, 24, .inl (fun _ => 0))), (tfeasts_29, .inr (6, [.int 3, .ref tfeastsA_30, .int 0])), (tfeastsA_30, .inl (kA 0, 24, .inl (fun _ => 0))), (tway_31, .inr (6, [.int 1, .ref twayA_32, .int 0])), (twayA_32, .inl (kA 0, 6, .inl (fun _ => 0))), (q33, .inl (kA 4, 4, .inr (.inr (.inr (.inr (fun _ => none))))))] := hD
  refine lv_aload_n hx hb dX10_init_34 rfl (lv_at hl 0 rfl) ?_
  refine lv_sipush (v := 400) hx hb dX10_init_35 (by decide) ?_
  refine z_newi hx hb (kX10_init_10 hts) hK hP hD hS hA 400 (by decide) (by decide) (by decide) (Nat.le_of_ble_eq_true rfl) (Nat.le_of_ble_eq_true rfl) dX10_init_38 (fun q34 H hP hD hS => ?_)
  refine W.widen (k := 28) (n := 1152) (Nat.le_of_ble_eq_true rfl) (Nat.le_of_ble_eq_true rfl) ?_
  have hP : va_P (dC, dI) vwCl [(x0, .inr (10, [.ref q1, .ref q17, .ref q33, .null, .int 0, .null, .int 0, .null, .null, .null, .null, .null, .null])), (q1, .inr (9, [.ref tnodes_5, .ref tpasses_7, .ref tjars_9, .ref torders_11, .ref tfeasts_13, .ref tway_15, .int (-1), .int 0, .int 0, .int 0])), (tnodes_5, .inr (6, [.int 4, .ref tnodesA_6, .int 0])), (tnodesA_6, .inl (kA 0, 48, .inl (fun _ => 0))), (tpasses_7, .inr (6, [.int 5, .ref tpassesA_8, .int 0])), (tpassesA_8, .inl (kA 0, 100, .inl (fun _ => 0))), (tjars_9, .inr (6, [.int 9, .ref tjarsA_10, .int 0])), (tjarsA_10, .inl (kA 0, 144, .inl (fun _ => 0))), (torders_11, .inr (6, [.int 4, .ref tordersA_12, .int 0])), (tordersA_12, .inl (kA 0, 24, .inl (fun _ => 0))), (tfeasts_13, .inr (6, [.int 3, .ref tfeastsA_14, .int 0])), (tfeastsA_14, .inl (kA 0, 24, .inl (fun _ => 0))), (tway_15, .inr (6, [.int 1, .ref twayA_16, .int 0])), (twayA_16, .inl (kA 0, 6, .inl (fun _ => 0))), (q17, .inr (9, [.ref tnodes_21, .ref tpasses_23, .ref tjars_25, .ref torders_27, .ref tfeasts_29, .ref tway_31, .int (-1), .int 0, .int 0, .int 0])), (tnodes_21, .inr (6, [.int 4, .ref tnodesA_22, .int 0])), (tnodesA_22, .inl (kA 0, 48, .inl (fun _ => 0))), (tpasses_23, .inr (6, [.int 5, .ref tpassesA_24, .int 0])), (tpassesA_24, .inl (kA 0, 100, .inl (fun _ => 0))), (tjars_25, .inr (6, [.int 9, .ref tjarsA_26, .int 0])), (tjarsA_26, .inl (kA 0, 144, .inl (fun _ => 0))), (torders_27, .inr (6, [.int 4, .ref tordersA_28, .int 0])), (tordersA_28, .inl (kA 0, 24, .inl (fun _ => 0))), (tfeasts_29, .inr (6, [.int 3, .ref tfeastsA_30, .int 0])), (tfeastsA_30, .inl (kA 0, 24, .inl (fun _ => 0))), (tway_31, .inr (6, [.int 1, .ref twayA_32, .int 0])), (twayA_32, .inl (kA 0, 6, .inl (fun _ => 0))), (q33, .inl (kA 4, 4, .inr (.inr (.inr (.inr (fun _ => none)))))), (q34, .inl (kA 0, 400, .inl (fun _ => 0)))] H := hP
  have hD : va_D A [(x0, .inr (10, [.ref q1, .ref q17, .ref q33, .null, .int 0, .null, .int 0, .null, .null, .null, .null, .null, .null])), (q1, .inr (9, [.ref tnodes_5, .ref tpasses_7, .ref tjars_9, .ref torders_11, .ref tfeasts_13, .ref tway_15, .int (-1), .int 0, .int 0, .int 0])), (tnodes_5, .inr (6, [.int 4, .ref tnodesA_6, .int 0])), (tnodesA_6, .inl (kA 0, 48, .inl (fun _ => 0))), (tpasses_7, .inr (6, [.int 5, .ref tpassesA_8, .int 0])), (tpassesA_8, .inl (kA 0, 100, .inl (fun _ => 0))), (tjars_9, .inr (6, [.int 9, .ref tjarsA_10, .int 0])), (tjarsA_10, .inl (kA 0, 144, .inl (fun _ => 0))), (torders_11, .inr (6, [.int 4, .ref tordersA_12, .int 0])), (tordersA_12, .inl (kA 0, 24, .inl (fun _ => 0))), (tfeasts_13, .inr (6, [.int 3, .ref tfeastsA_14, .int 0])), (tfeastsA_14, .inl (kA 0, 24, .inl (fun _ => 0))), (tway_15, .inr (6, [.int 1, .ref twayA_16, .int 0])), (twayA_16, .inl (kA 0, 6, .inl (fun _ => 0))), (q17, .inr (9, [.ref tnodes_21, .ref tpasses_23, .ref tjars_25, .ref torders_27, .ref tfeasts_29, .ref tway_31, .int (-1), .int 0, .int 0, .int 0])), (tnodes_21, .inr (6, [.int 4, .ref tnodesA_22, .int 0])), (tnodesA_22, .inl (kA 0, 48, .inl (fun _ => 0))), (tpasses_23, .inr (6, [.int 5, .ref tpassesA_24, .int 0])), (tpassesA_24, .inl (kA 0, 100, .inl (fun _ => 0))), (tjars_25, .inr (6, [.int 9, .ref tjarsA_26, .int 0])), (tjarsA_26, .inl (kA 0, 144, .inl (fun _ => 0))), (torders_27, .inr (6, [.int 4, .ref tordersA_28, .int 0])), (tordersA_28, .inl (kA 0, 24, .inl (fun _ => 0))), (tfeasts_29, .inr (6, [.int 3, .ref tfeastsA_30, .int 0])), (tfeastsA_30, .inl (kA 0, 24, .inl (fun _ => 0))), (tway_31, .inr (6, [.int 1, .ref twayA_32, .int 0])), (twayA_32, .inl (kA 0, 6, .inl (fun _ => 0))), (q33, .inl (kA 4, 4, .inr (.inr (.inr (.inr (fun _ => none)))))), (q34, .inl (kA 0, 400, .inl (fun _ => 0)))] := hD
  refine va_putF (D := (dC, dI)) (ci := 10) (v := .ref q34) (ty := .array (.int)) (C := RX10) (T := TX10) (N := 13) hx hb hts iX10_init_X10 tyX10 tyX10_ok nmX10 hown hK.1 hP hD hS 0 rfl rfl 3 (by decide) (kX10_init_11 hts) (fun _ h9 => h9) rfl hin rfl (by decide +kernel) rfl rfl (Nat.le_of_ble_eq_true rfl) dX10_init_40 (fun H locs hP hD hS => ?_)
  have hP : va_P (dC, dI) vwCl [(x0, .inr (10, [.ref q1, .ref q17, .ref q33, .ref q34, .int 0, .null, .int 0, .null, .null, .null, .null, .null, .null])), (q1, .inr (9, [.ref tnodes_5, .ref tpasses_7, .ref tjars_9, .ref torders_11, .ref tfeasts_13, .ref tway_15, .int (-1), .int 0, .int 0, .int 0])), (tnodes_5, .inr (6, [.int 4, .ref tnodesA_6, .int 0])), (tnodesA_6, .inl (kA 0, 48, .inl (fun _ => 0))), (tpasses_7, .inr (6, [.int 5, .ref tpassesA_8, .int 0])), (tpassesA_8, .inl (kA 0, 100, .inl (fun _ => 0))), (tjars_9, .inr (6, [.int 9, .ref tjarsA_10, .int 0])), (tjarsA_10, .inl (kA 0, 144, .inl (fun _ => 0))), (torders_11, .inr (6, [.int 4, .ref tordersA_12, .int 0])), (tordersA_12, .inl (kA 0, 24, .inl (fun _ => 0))), (tfeasts_13, .inr (6, [.int 3, .ref tfeastsA_14, .int 0])), (tfeastsA_14, .inl (kA 0, 24, .inl (fun _ => 0))), (tway_15, .inr (6, [.int 1, .ref twayA_16, .int 0])), (twayA_16, .inl (kA 0, 6, .inl (fun _ => 0))), (q17, .inr (9, [.ref tnodes_21, .ref tpasses_23, .ref tjars_25, .ref torders_27, .ref tfeasts_29, .ref tway_31, .int (-1), .int 0, .int 0, .int 0])), (tnodes_21, .inr (6, [.int 4, .ref tnodesA_22, .int 0])), (tnodesA_22, .inl (kA 0, 48, .inl (fun _ => 0))), (tpasses_23, .inr (6, [.int 5, .ref tpassesA_24, .int 0])), (tpassesA_24, .inl (kA 0, 100, .inl (fun _ => 0))), (tjars_25, .inr (6, [.int 9, .ref tjarsA_26, .int 0])), (tjarsA_26, .inl (kA 0, 144, .inl (fun _ => 0))), (torders_27, .inr (6, [.int 4, .ref tordersA_28, .int 0])), (tordersA_28, .inl (kA 0, 24, .inl (fun _ => 0))), (tfeasts_29, .inr (6, [.int 3, .ref tfeastsA_30, .int 0])), (tfeastsA_30, .inl (kA 0, 24, .inl (fun _ => 0))), (tway_31, .inr (6, [.int 1, .ref twayA_32, .int 0])), (twayA_32, .inl (kA 0, 6, .inl (fun _ => 0))), (q33, .inl (kA 4, 4, .inr (.inr (.inr (.inr (fun _ => none)))))), (q34, .inl (kA 0, 400, .inl (fun _ => 0)))] H := hP
  have hD : va_D A [(x0, .inr (10, [.ref q1, .ref q17, .ref q33, .ref q34, .int 0, .null, .int 0, .null, .null, .null, .null, .null, .null])), (q1, .inr (9, [.ref tnodes_5, .ref tpasses_7, .ref tjars_9, .ref torders_11, .ref tfeasts_13, .ref tway_15, .int (-1), .int 0, .int 0, .int 0])), (tnodes_5, .inr (6, [.int 4, .ref tnodesA_6, .int 0])), (tnodesA_6, .inl (kA 0, 48, .inl (fun _ => 0))), (tpasses_7, .inr (6, [.int 5, .ref tpassesA_8, .int 0])), (tpassesA_8, .inl (kA 0, 100, .inl (fun _ => 0))), (tjars_9, .inr (6, [.int 9, .ref tjarsA_10, .int 0])), (tjarsA_10, .inl (kA 0, 144, .inl (fun _ => 0))), (torders_11, .inr (6, [.int 4, .ref tordersA_12, .int 0])), (tordersA_12, .inl (kA 0, 24, .inl (fun _ => 0))), (tfeasts_13, .inr (6, [.int 3, .ref tfeastsA_14, .int 0])), (tfeastsA_14, .inl (kA 0, 24, .inl (fun _ => 0))), (tway_15, .inr (6, [.int 1, .ref twayA_16, .int 0])), (twayA_16, .inl (kA 0, 6, .inl (fun _ => 0))), (q17, .inr (9, [.ref tnodes_21, .ref tpasses_23, .ref tjars_25, .ref torders_27, .ref tfeasts_29, .ref tway_31, .int (-1), .int 0, .int 0, .int 0])), (tnodes_21, .inr (6, [.int 4, .ref tnodesA_22, .int 0])), (tnodesA_22, .inl (kA 0, 48, .inl (fun _ => 0))), (tpasses_23, .inr (6, [.int 5, .ref tpassesA_24, .int 0])), (tpassesA_24, .inl (kA 0, 100, .inl (fun _ => 0))), (tjars_25, .inr (6, [.int 9, .ref tjarsA_26, .int 0])), (tjarsA_26, .inl (kA 0, 144, .inl (fun _ => 0))), (torders_27, .inr (6, [.int 4, .ref tordersA_28, .int 0])), (tordersA_28, .inl (kA 0, 24, .inl (fun _ => 0))), (tfeasts_29, .inr (6, [.int 3, .ref tfeastsA_30, .int 0])), (tfeastsA_30, .inl (kA 0, 24, .inl (fun _ => 0))), (tway_31, .inr (6, [.int 1, .ref twayA_32, .int 0])), (twayA_32, .inl (kA 0, 6, .inl (fun _ => 0))), (q33, .inl (kA 4, 4, .inr (.inr (.inr (.inr (fun _ => none)))))), (q34, .inl (kA 0, 400, .inl (fun _ => 0)))] := hD
  refine lv_aload_n hx hb dX10_init_43 rfl (lv_at hl 0 rfl) ?_
  refine lv_bipush (v := 6) hx hb dX10_init_44 (by decide) ?_
  refine z_newq hx hb hown (kX10_init_12 hts) hK.2.2.2 hK hP hD hS hA 5 rfl 6 (by decide) (by decide) (by decide) (Nat.le_of_ble_eq_true rfl) (Nat.le_of_ble_eq_true rfl) dX10_init_46 (fun q35 H hP hD hS => ?_)
  refine W.widen (k := 29) (n := 1158) (Nat.le_of_ble_eq_true rfl) (Nat.le_of_ble_eq_true rfl) ?_
  have hP : va_P (dC, dI) vwCl [(x0, .inr (10, [.ref q1, .ref q17, .ref q33, .ref q34, .int 0, .null, .int 0, .null, .null, .null, .null, .null, .null])), (q1, .inr (9, [.ref tnodes_5, .ref tpasses_7, .ref tjars_9, .ref torders_11, .ref tfeasts_13, .ref tway_15, .int (-1), .int 0, .int 0, .int 0])), (tnodes_5, .inr (6, [.int 4, .ref tnodesA_6, .int 0])), (tnodesA_6, .inl (kA 0, 48, .inl (fun _ => 0))), (tpasses_7, .inr (6, [.int 5, .ref tpassesA_8, .int 0])), (tpassesA_8, .inl (kA 0, 100, .inl (fun _ => 0))), (tjars_9, .inr (6, [.int 9, .ref tjarsA_10, .int 0])), (tjarsA_10, .inl (kA 0, 144, .inl (fun _ => 0))), (torders_11, .inr (6, [.int 4, .ref tordersA_12, .int 0])), (tordersA_12, .inl (kA 0, 24, .inl (fun _ => 0))), (tfeasts_13, .inr (6, [.int 3, .ref tfeastsA_14, .int 0])), (tfeastsA_14, .inl (kA 0, 24, .inl (fun _ => 0))), (tway_15, .inr (6, [.int 1, .ref twayA_16, .int 0])), (twayA_16, .inl (kA 0, 6, .inl (fun _ => 0))), (q17, .inr (9, [.ref tnodes_21, .ref tpasses_23, .ref tjars_25, .ref torders_27, .ref tfeasts_29, .ref tway_31, .int (-1), .int 0, .int 0, .int 0])), (tnodes_21, .inr (6, [.int 4, .ref tnodesA_22, .int 0])), (tnodesA_22, .inl (kA 0, 48, .inl (fun _ => 0))), (tpasses_23, .inr (6, [.int 5, .ref tpassesA_24, .int 0])), (tpassesA_24, .inl (kA 0, 100, .inl (fun _ => 0))), (tjars_25, .inr (6, [.int 9, .ref tjarsA_26, .int 0])), (tjarsA_26, .inl (kA 0, 144, .inl (fun _ => 0))), (torders_27, .inr (6, [.int 4, .ref tordersA_28, .int 0])), (tordersA_28, .inl (kA 0, 24, .inl (fun _ => 0))), (tfeasts_29, .inr (6, [.int 3, .ref tfeastsA_30, .int 0])), (tfeastsA_30, .inl (kA 0, 24, .inl (fun _ => 0))), (tway_31, .inr (6, [.int 1, .ref twayA_32, .int 0])), (twayA_32, .inl (kA 0, 6, .inl (fun _ => 0))), (q33, .inl (kA 4, 4, .inr (.inr (.inr (.inr (fun _ => none)))))), (q34, .inl (kA 0, 400, .inl (fun _ => 0))), (q35, .inl (kA 5, 6, .inr (.inr (.inr (.inr (fun _ => none))))))] H := hP
  have hD : va_D A [(x0, .inr (10, [.ref q1, .ref q17, .ref q33, .ref q34, .int 0, .null, .int 0, .null, .null, .null, .null, .null, .null])), (q1, .inr (9, [.ref tnodes_5, .ref tpasses_7, .ref tjars_9, .ref torders_11, .ref tfeasts_13, .ref tway_15, .int (-1), .int 0, .int 0, .int 0])), (tnodes_5, .inr (6, [.int 4, .ref tnodesA_6, .int 0])), (tnodesA_6, .inl (kA 0, 48, .inl (fun _ => 0))), (tpasses_7, .inr (6, [.int 5, .ref tpassesA_8, .int 0])), (tpassesA_8, .inl (kA 0, 100, .inl (fun _ => 0))), (tjars_9, .inr (6, [.int 9, .ref tjarsA_10, .int 0])), (tjarsA_10, .inl (kA 0, 144, .inl (fun _ => 0))), (torders_11, .inr (6, [.int 4, .ref tordersA_12, .int 0])), (tordersA_12, .inl (kA 0, 24, .inl (fun _ => 0))), (tfeasts_13, .inr (6, [.int 3, .ref tfeastsA_14, .int 0])), (tfeastsA_14, .inl (kA 0, 24, .inl (fun _ => 0))), (tway_15, .inr (6, [.int 1, .ref twayA_16, .int 0])), (twayA_16, .inl (kA 0, 6, .inl (fun _ => 0))), (q17, .inr (9, [.ref tnodes_21, .ref tpasses_23, .ref tjars_25, .ref torders_27, .ref tfeasts_29, .ref tway_31, .int (-1), .int 0, .int 0, .int 0])), (tnodes_21, .inr (6, [.int 4, .ref tnodesA_22, .int 0])), (tnodesA_22, .inl (kA 0, 48, .inl (fun _ => 0))), (tpasses_23, .inr (6, [.int 5, .ref tpassesA_24, .int 0])), (tpassesA_24, .inl (kA 0, 100, .inl (fun _ => 0))), (tjars_25, .inr (6, [.int 9, .ref tjarsA_26, .int 0])), (tjarsA_26, .inl (kA 0, 144, .inl (fun _ => 0))), (torders_27, .inr (6, [.int 4, .ref tordersA_28, .int 0])), (tordersA_28, .inl (kA 0, 24, .inl (fun _ => 0))), (tfeasts_29, .inr (6, [.int 3, .ref tfeastsA_30, .int 0])), (tfeastsA_30, .inl (kA 0, 24, .inl (fun _ => 0))), (tway_31, .inr (6, [.int 1, .ref twayA_32, .int 0])), (twayA_32, .inl (kA 0, 6, .inl (fun _ => 0))), (q33, .inl (kA 4, 4, .inr (.inr (.inr (.inr (fun _ => none)))))), (q34, .inl (kA 0, 400, .inl (fun _ => 0))), (q35, .inl (kA 5, 6, .inr (.inr (.inr (.inr (fun _ => none))))))] := hD
  refine va_putF (D := (dC, dI)) (ci := 10) (v := .ref q35) (ty := .array (.object "SnowMules$Law")) (C := RX10) (T := TX10) (N := 13) hx hb hts iX10_init_X10 tyX10 tyX10_ok nmX10 hown hK.1 hP hD hS 0 rfl rfl 5 (by decide) (kX10_init_13 hts) (fun _ h9 => h9) rfl hin rfl (by decide +kernel) rfl rfl (Nat.le_of_ble_eq_true rfl) dX10_init_49 (fun H locs hP hD hS => ?_)
  have hP : va_P (dC, dI) vwCl [(x0, .inr (10, [.ref q1, .ref q17, .ref q33, .ref q34, .int 0, .ref q35, .int 0, .null, .null, .null, .null, .null, .null])), (q1, .inr (9, [.ref tnodes_5, .ref tpasses_7, .ref tjars_9, .ref torders_11, .ref tfeasts_13, .ref tway_15, .int (-1), .int 0, .int 0, .int 0])), (tnodes_5, .inr (6, [.int 4, .ref tnodesA_6, .int 0])), (tnodesA_6, .inl (kA 0, 48, .inl (fun _ => 0))), (tpasses_7, .inr (6, [.int 5, .ref tpassesA_8, .int 0])), (tpassesA_8, .inl (kA 0, 100, .inl (fun _ => 0))), (tjars_9, .inr (6, [.int 9, .ref tjarsA_10, .int 0])), (tjarsA_10, .inl (kA 0, 144, .inl (fun _ => 0))), (torders_11, .inr (6, [.int 4, .ref tordersA_12, .int 0])), (tordersA_12, .inl (kA 0, 24, .inl (fun _ => 0))), (tfeasts_13, .inr (6, [.int 3, .ref tfeastsA_14, .int 0])), (tfeastsA_14, .inl (kA 0, 24, .inl (fun _ => 0))), (tway_15, .inr (6, [.int 1, .ref twayA_16, .int 0])), (twayA_16, .inl (kA 0, 6, .inl (fun _ => 0))), (q17, .inr (9, [.ref tnodes_21, .ref tpasses_23, .ref tjars_25, .ref torders_27, .ref tfeasts_29, .ref tway_31, .int (-1), .int 0, .int 0, .int 0])), (tnodes_21, .inr (6, [.int 4, .ref tnodesA_22, .int 0])), (tnodesA_22, .inl (kA 0, 48, .inl (fun _ => 0))), (tpasses_23, .inr (6, [.int 5, .ref tpassesA_24, .int 0])), (tpassesA_24, .inl (kA 0, 100, .inl (fun _ => 0))), (tjars_25, .inr (6, [.int 9, .ref tjarsA_26, .int 0])), (tjarsA_26, .inl (kA 0, 144, .inl (fun _ => 0))), (torders_27, .inr (6, [.int 4, .ref tordersA_28, .int 0])), (tordersA_28, .inl (kA 0, 24, .inl (fun _ => 0))), (tfeasts_29, .inr (6, [.int 3, .ref tfeastsA_30, .int 0])), (tfeastsA_30, .inl (kA 0, 24, .inl (fun _ => 0))), (tway_31, .inr (6, [.int 1, .ref twayA_32, .int 0])), (twayA_32, .inl (kA 0, 6, .inl (fun _ => 0))), (q33, .inl (kA 4, 4, .inr (.inr (.inr (.inr (fun _ => none)))))), (q34, .inl (kA 0, 400, .inl (fun _ => 0))), (q35, .inl (kA 5, 6, .inr (.inr (.inr (.inr (fun _ => none))))))] H := hP
  have hD : va_D A [(x0, .inr (10, [.ref q1, .ref q17, .ref q33, .ref q34, .int 0, .ref q35, .int 0, .null, .null, .null, .null, .null, .null])), (q1, .inr (9, [.ref tnodes_5, .ref tpasses_7, .ref tjars_9, .ref torders_11, .ref tfeasts_13, .ref tway_15, .int (-1), .int 0, .int 0, .int 0])), (tnodes_5, .inr (6, [.int 4, .ref tnodesA_6, .int 0])), (tnodesA_6, .inl (kA 0, 48, .inl (fun _ => 0))), (tpasses_7, .inr (6, [.int 5, .ref tpassesA_8, .int 0])), (tpassesA_8, .inl (kA 0, 100, .inl (fun _ => 0))), (tjars_9, .inr (6, [.int 9, .ref tjarsA_10, .int 0])), (tjarsA_10, .inl (kA 0, 144, .inl (fun _ => 0))), (torders_11, .inr (6, [.int 4, .ref tordersA_12, .int 0])), (tordersA_12, .inl (kA 0, 24, .inl (fun _ => 0))), (tfeasts_13, .inr (6, [.int 3, .ref tfeastsA_14, .int 0])), (tfeastsA_14, .inl (kA 0, 24, .inl (fun _ => 0))), (tway_15, .inr (6, [.int 1, .ref twayA_16, .int 0])), (twayA_16, .inl (kA 0, 6, .inl (fun _ => 0))), (q17, .inr (9, [.ref tnodes_21, .ref tpasses_23, .ref tjars_25, .ref torders_27, .ref tfeasts_29, .ref tway_31, .int (-1), .int 0, .int 0, .int 0])), (tnodes_21, .inr (6, [.int 4, .ref tnodesA_22, .int 0])), (tnodesA_22, .inl (kA 0, 48, .inl (fun _ => 0))), (tpasses_23, .inr (6, [.int 5, .ref tpassesA_24, .int 0])), (tpassesA_24, .inl (kA 0, 100, .inl (fun _ => 0))), (tjars_25, .inr (6, [.int 9, .ref tjarsA_26, .int 0])), (tjarsA_26, .inl (kA 0, 144, .inl (fun _ => 0))), (torders_27, .inr (6, [.int 4, .ref tordersA_28, .int 0])), (tordersA_28, .inl (kA 0, 24, .inl (fun _ => 0))), (tfeasts_29, .inr (6, [.int 3, .ref tfeastsA_30, .int 0])), (tfeastsA_30, .inl (kA 0, 24, .inl (fun _ => 0))), (tway_31, .inr (6, [.int 1, .ref twayA_32, .int 0])), (twayA_32, .inl (kA 0, 6, .inl (fun _ => 0))), (q33, .inl (kA 4, 4, .inr (.inr (.inr (.inr (fun _ => none)))))), (q34, .inl (kA 0, 400, .inl (fun _ => 0))), (q35, .inl (kA 5, 6, .inr (.inr (.inr (.inr (fun _ => none))))))] := hD
  refine lv_aload_n hx hb dX10_init_52 rfl (lv_at hl 0 rfl) ?_
  refine va_new (ci := 2) (fs := [.null, .null, .int 0, .int 0, .int 0, .int 0, .int 0, .null]) (C := RX2) (T := TX2) (N := 8) hx hb hts iX10_init_X2 tyX2 tyX2_ok hown (kX10_init_14 hts) (kX10_init_15 hts) (kX10_init_16 hts) hK.1 hP hD hS hA rfl fsX2 (Nat.le_of_ble_eq_true rfl) (Nat.le_of_ble_eq_true rfl) dX10_init_53 (fun q36 H hP hD hS => ?_)
  refine W.widen (k := 30) (n := 1166) (Nat.le_of_ble_eq_true rfl) (Nat.le_of_ble_eq_true rfl) ?_
  have hP : va_P (dC, dI) vwCl [(x0, .inr (10, [.ref q1, .ref q17, .ref q33, .ref q34, .int 0, .ref q35, .int 0, .null, .null, .null, .null, .null, .null])), (q1, .inr (9, [.ref tnodes_5, .ref tpasses_7, .ref tjars_9, .ref torders_11, .ref tfeasts_13, .ref tway_15, .int (-1), .int 0, .int 0, .int 0])), (tnodes_5, .inr (6, [.int 4, .ref tnodesA_6, .int 0])), (tnodesA_6, .inl (kA 0, 48, .inl (fun _ => 0))), (tpasses_7, .inr (6, [.int 5, .ref tpassesA_8, .int 0])), (tpassesA_8, .inl (kA 0, 100, .inl (fun _ => 0))), (tjars_9, .inr (6, [.int 9, .ref tjarsA_10, .int 0])), (tjarsA_10, .inl (kA 0, 144, .inl (fun _ => 0))), (torders_11, .inr (6, [.int 4, .ref tordersA_12, .int 0])), (tordersA_12, .inl (kA 0, 24, .inl (fun _ => 0))), (tfeasts_13, .inr (6, [.int 3, .ref tfeastsA_14, .int 0])), (tfeastsA_14, .inl (kA 0, 24, .inl (fun _ => 0))), (tway_15, .inr (6, [.int 1, .ref twayA_16, .int 0])), (twayA_16, .inl (kA 0, 6, .inl (fun _ => 0))), (q17, .inr (9, [.ref tnodes_21, .ref tpasses_23, .ref tjars_25, .ref torders_27, .ref tfeasts_29, .ref tway_31, .int (-1), .int 0, .int 0, .int 0])), (tnodes_21, .inr (6, [.int 4, .ref tnodesA_22, .int 0])), (tnodesA_22, .inl (kA 0, 48, .inl (fun _ => 0))), (tpasses_23, .inr (6, [.int 5, .ref tpassesA_24, .int 0])), (tpassesA_24, .inl (kA 0, 100, .inl (fun _ => 0))), (tjars_25, .inr (6, [.int 9, .ref tjarsA_26, .int 0])), (tjarsA_26, .inl (kA 0, 144, .inl (fun _ => 0))), (torders_27, .inr (6, [.int 4, .ref tordersA_28, .int 0])), (tordersA_28, .inl (kA 0, 24, .inl (fun _ => 0))), (tfeasts_29, .inr (6, [.int 3, .ref tfeastsA_30, .int 0])), (tfeastsA_30, .inl (kA 0, 24, .inl (fun _ => 0))), (tway_31, .inr (6, [.int 1, .ref twayA_32, .int 0])), (twayA_32, .inl (kA 0, 6, .inl (fun _ => 0))), (q33, .inl (kA 4, 4, .inr (.inr (.inr (.inr (fun _ => none)))))), (q34, .inl (kA 0, 400, .inl (fun _ => 0))), (q35, .inl (kA 5, 6, .inr (.inr (.inr (.inr (fun _ => none)))))), (q36, .inr (2, [.null, .null, .int 0, .int 0, .int 0, .int 0, .int 0, .null]))] H := hP
  have hD : va_D A [(x0, .inr (10, [.ref q1, .ref q17, .ref q33, .ref q34, .int 0, .ref q35, .int 0, .null, .null, .null, .null, .null, .null])), (q1, .inr (9, [.ref tnodes_5, .ref tpasses_7, .ref tjars_9, .ref torders_11, .ref tfeasts_13, .ref tway_15, .int (-1), .int 0, .int 0, .int 0])), (tnodes_5, .inr (6, [.int 4, .ref tnodesA_6, .int 0])), (tnodesA_6, .inl (kA 0, 48, .inl (fun _ => 0))), (tpasses_7, .inr (6, [.int 5, .ref tpassesA_8, .int 0])), (tpassesA_8, .inl (kA 0, 100, .inl (fun _ => 0))), (tjars_9, .inr (6, [.int 9, .ref tjarsA_10, .int 0])), (tjarsA_10, .inl (kA 0, 144, .inl (fun _ => 0))), (torders_11, .inr (6, [.int 4, .ref tordersA_12, .int 0])), (tordersA_12, .inl (kA 0, 24, .inl (fun _ => 0))), (tfeasts_13, .inr (6, [.int 3, .ref tfeastsA_14, .int 0])), (tfeastsA_14, .inl (kA 0, 24, .inl (fun _ => 0))), (tway_15, .inr (6, [.int 1, .ref twayA_16, .int 0])), (twayA_16, .inl (kA 0, 6, .inl (fun _ => 0))), (q17, .inr (9, [.ref tnodes_21, .ref tpasses_23, .ref tjars_25, .ref torders_27, .ref tfeasts_29, .ref tway_31, .int (-1), .int 0, .int 0, .int 0])), (tnodes_21, .inr (6, [.int 4, .ref tnodesA_22, .int 0])), (tnodesA_22, .inl (kA 0, 48, .inl (fun _ => 0))), (tpasses_23, .inr (6, [.int 5, .ref tpassesA_24, .int 0])), (tpassesA_24, .inl (kA 0, 100, .inl (fun _ => 0))), (tjars_25, .inr (6, [.int 9, .ref tjarsA_26, .int 0])), (tjarsA_26, .inl (kA 0, 144, .inl (fun _ => 0))), (torders_27, .inr (6, [.int 4, .ref tordersA_28, .int 0])), (tordersA_28, .inl (kA 0, 24, .inl (fun _ => 0))), (tfeasts_29, .inr (6, [.int 3, .ref tfeastsA_30, .int 0])), (tfeastsA_30, .inl (kA 0, 24, .inl (fun _ => 0))), (tway_31, .inr (6, [.int 1, .ref twayA_32, .int 0])), (twayA_32, .inl (kA 0, 6, .inl (fun _ => 0))), (q33, .inl (kA 4, 4, .inr (.inr (.inr (.inr (fun _ => none)))))), (q34, .inl (kA 0, 400, .inl (fun _ => 0))), (q35, .inl (kA 5, 6, .inr (.inr (.inr (.inr (fun _ => none)))))), (q36, .inr (2, [.null, .null, .int 0, .int 0, .int 0, .int 0, .int 0, .null]))] := hD
  refine lv_dup hx hb dX10_init_56 rfl ?_
  refine z_v (wr := [(x0, .inr (10, [.ref q1, .ref q17, .ref q33, .ref q34, .int 0, .ref q35, .int 0, .null, .null, .null, .null, .null, .null])), (q1, .inr (9, [.ref tnodes_5, .ref tpasses_7, .ref tjars_9, .ref torders_11, .ref tfeasts_13, .ref tway_15, .int (-1), .int 0, .int 0, .int 0])), (tnodes_5, .inr (6, [.int 4, .ref tnodesA_6, .int 0])), (tnodesA_6, .inl (kA 0, 48, .inl (fun _ => 0))), (tpasses_7, .inr (6, [.int 5, .ref tpassesA_8, .int 0])), (tpassesA_8, .inl (kA 0, 100, .inl (fun _ => 0))), (tjars_9, .inr (6, [.int 9, .ref tjarsA_10, .int 0])), (tjarsA_10, .inl (kA 0, 144, .inl (fun _ => 0))), (torders_11, .inr (6, [.int 4, .ref tordersA_12, .int 0])), (tordersA_12, .inl (kA 0, 24, .inl (fun _ => 0))), (tfeasts_13, .inr (6, [.int 3, .ref tfeastsA_14, .int 0])), (tfeastsA_14, .inl (kA 0, 24, .inl (fun _ => 0))), (tway_15, .inr (6, [.int 1, .ref twayA_16, .int 0])), (twayA_16, .inl (kA 0, 6, .inl (fun _ => 0))), (q17, .inr (9, [.ref tnodes_21, .ref tpasses_23, .ref tjars_25, .ref torders_27, .ref tfeasts_29, .ref tway_31, .int (-1), .int 0, .int 0, .int 0])), (tnodes_21, .inr (6, [.int 4, .ref tnodesA_22, .int 0])), (tnodesA_22, .inl (kA 0, 48, .inl (fun _ => 0))), (tpasses_23, .inr (6, [.int 5, .ref tpassesA_24, .int 0])), (tpassesA_24, .inl (kA 0, 100, .inl (fun _ => 0))), (tjars_25, .inr (6, [.int 9, .ref tjarsA_26, .int 0])), (tjarsA_26, .inl (kA 0, 144, .inl (fun _ => 0))), (torders_27, .inr (6, [.int 4, .ref tordersA_28, .int 0])), (tordersA_28, .inl (kA 0, 24, .inl (fun _ => 0))), (tfeasts_29, .inr (6, [.int 3, .ref tfeastsA_30, .int 0])), (tfeastsA_30, .inl (kA 0, 24, .inl (fun _ => 0))), (tway_31, .inr (6, [.int 1, .ref twayA_32, .int 0])), (twayA_32, .inl (kA 0, 6, .inl (fun _ => 0))), (q33, .inl (kA 4, 4, .inr (.inr (.inr (.inr (fun _ => none)))))), (q34, .inl (kA 0, 400, .inl (fun _ => 0))), (q35, .inl (kA 5, 6, .inr (.inr (.inr (.inr (fun _ => none))))))]) (va_runIN (As := []) (rest := [.ref q36, .ref x0]) ⟨hx, hb, hml, hown, hts⟩ (mX2_init l dC dI kA _ q36) ⟨va_cnB 0 hts gX10_init_X2_init_n35 rfl rfl rfl hK.2.1.2.1 (kX10_init_16 hts) (by decide +kernel) ⟨(Nat.le_of_ble_eq_true rfl), (Nat.le_of_ble_eq_true rfl)⟩, rfl, (kX10_init_61 hts)⟩ ⟨zPc.blind, zPre hK (hP.sub [30] rfl) (hD.sub [30] (by decide) rfl)⟩ rfl rfl hl.1 rfl (lv_room (Nat.le_of_ble_eq_true rfl)) dX10_init_57 ⟨(Nat.le_of_ble_eq_true rfl), (Nat.le_of_ble_eq_true rfl)⟩) hP hD hS hA [30] [0, 1, 2, 3, 4, 5, 6, 7, 8, 9, 10, 11, 12, 13, 14, 15, 16, 17, 18, 19, 20, 21, 22, 23, 24, 25, 26, 27, 28, 29] rfl rfl (by decide) (by decide) (fun u37 H locs hw38 hP hD hS => ?_)
  obtain ⟨tk_40, pl_41, rl_42⟩ := u37
  refine W.widen (k := 45) (n := 2501) (Nat.le_of_ble_eq_true rfl) (Nat.le_of_ble_eq_true rfl) ?_
  have hP : va_P (dC, dI) vwCl [(x0, .inr (10, [.ref q1, .ref q17, .ref q33, .ref q34, .int 0, .ref q35, .int 0, .null, .null, .null, .null, .null, .null])), (q1, .inr (9, [.ref tnodes_5, .ref tpasses_7, .ref tjars_9, .ref torders_11, .ref tfeasts_13, .ref tway_15, .int (-1), .int 0, .int 0, .int 0])), (tnodes_5, .inr (6, [.int 4, .ref tnodesA_6, .int 0])), (tnodesA_6, .inl (kA 0, 48, .inl (fun _ => 0))), (tpasses_7, .inr (6, [.int 5, .ref tpassesA_8, .int 0])), (tpassesA_8, .inl (kA 0, 100, .inl (fun _ => 0))), (tjars_9, .inr (6, [.int 9, .ref tjarsA_10, .int 0])), (tjarsA_10, .inl (kA 0, 144, .inl (fun _ => 0))), (torders_11, .inr (6, [.int 4, .ref tordersA_12, .int 0])), (tordersA_12, .inl (kA 0, 24, .inl (fun _ => 0))), (tfeasts_13, .inr (6, [.int 3, .ref tfeastsA_14, .int 0])), (tfeastsA_14, .inl (kA 0, 24, .inl (fun _ => 0))), (tway_15, .inr (6, [.int 1, .ref twayA_16, .int 0])), (twayA_16, .inl (kA 0, 6, .inl (fun _ => 0))), (q17, .inr (9, [.ref tnodes_21, .ref tpasses_23, .ref tjars_25, .ref torders_27, .ref tfeasts_29, .ref tway_31, .int (-1), .int 0, .int 0, .int 0])), (tnodes_21, .inr (6, [.int 4, .ref tnodesA_22, .int 0])), (tnodesA_22, .inl (kA 0, 48, .inl (fun _ => 0))), (tpasses_23, .inr (6, [.int 5, .ref tpassesA_24, .int 0])), (tpassesA_24, .inl (kA 0, 100, .inl (fun _ => 0))), (tjars_25, .inr (6, [.int 9, .ref tjarsA_26, .int 0])), (tjarsA_26, .inl (kA 0, 144, .inl (fun _ => 0))), (torders_27, .inr (6, [.int 4, .ref tordersA_28, .int 0])), (tordersA_28, .inl (kA 0, 24, .inl (fun _ => 0))), (tfeasts_29, .inr (6, [.int 3, .ref tfeastsA_30, .int 0])), (tfeastsA_30, .inl (kA 0, 24, .inl (fun _ => 0))), (tway_31, .inr (6, [.int 1, .ref twayA_32, .int 0])), (twayA_32, .inl (kA 0, 6, .inl (fun _ => 0))), (q33, .inl (kA 4, 4, .inr (.inr (.inr (.inr (fun _ => none)))))), (q34, .inl (kA 0, 400, .inl (fun _ => 0))), (q35, .inl (kA 5, 6, .inr (.inr (.inr (.inr (fun _ => none)))))), (q36, .inr (2, [.ref tk_40, .ref pl_41, .int 0, .int 0, .int 0, .int 0, .int 0, .ref rl_42])), (tk_40, .inl (kA 0, 401, .inl (fun _ => 0))), (pl_41, .inl (kA 0, 401, .inl (fun _ => 0)))] H := hP
  have hD : va_D A [(x0, .inr (10, [.ref q1, .ref q17, .ref q33, .ref q34, .int 0, .ref q35, .int 0, .null, .null, .null, .null, .null, .null])), (q1, .inr (9, [.ref tnodes_5, .ref tpasses_7, .ref tjars_9, .ref torders_11, .ref tfeasts_13, .ref tway_15, .int (-1), .int 0, .int 0, .int 0])), (tnodes_5, .inr (6, [.int 4, .ref tnodesA_6, .int 0])), (tnodesA_6, .inl (kA 0, 48, .inl (fun _ => 0))), (tpasses_7, .inr (6, [.int 5, .ref tpassesA_8, .int 0])), (tpassesA_8, .inl (kA 0, 100, .inl (fun _ => 0))), (tjars_9, .inr (6, [.int 9, .ref tjarsA_10, .int 0])), (tjarsA_10, .inl (kA 0, 144, .inl (fun _ => 0))), (torders_11, .inr (6, [.int 4, .ref tordersA_12, .int 0])), (tordersA_12, .inl (kA 0, 24, .inl (fun _ => 0))), (tfeasts_13, .inr (6, [.int 3, .ref tfeastsA_14, .int 0])), (tfeastsA_14, .inl (kA 0, 24, .inl (fun _ => 0))), (tway_15, .inr (6, [.int 1, .ref twayA_16, .int 0])), (twayA_16, .inl (kA 0, 6, .inl (fun _ => 0))), (q17, .inr (9, [.ref tnodes_21, .ref tpasses_23, .ref tjars_25, .ref torders_27, .ref tfeasts_29, .ref tway_31, .int (-1), .int 0, .int 0, .int 0])), (tnodes_21, .inr (6, [.int 4, .ref tnodesA_22, .int 0])), (tnodesA_22, .inl (kA 0, 48, .inl (fun _ => 0))), (tpasses_23, .inr (6, [.int 5, .ref tpassesA_24, .int 0])), (tpassesA_24, .inl (kA 0, 100, .inl (fun _ => 0))), (tjars_25, .inr (6, [.int 9, .ref tjarsA_26, .int 0])), (tjarsA_26, .inl (kA 0, 144, .inl (fun _ => 0))), (torders_27, .inr (6, [.int 4, .ref tordersA_28, .int 0])), (tordersA_28, .inl (kA 0, 24, .inl (fun _ => 0))), (tfeasts_29, .inr (6, [.int 3, .ref tfeastsA_30, .int 0])), (tfeastsA_30, .inl (kA 0, 24, .inl (fun _ => 0))), (tway_31, .inr (6, [.int 1, .ref twayA_32, .int 0])), (twayA_32, .inl (kA 0, 6, .inl (fun _ => 0))), (q33, .inl (kA 4, 4, .inr (.inr (.inr (.inr (fun _ => none)))))), (q34, .inl (kA 0, 400, .inl (fun _ => 0))), (q35, .inl (kA 5, 6, .inr (.inr (.inr (.inr (fun _ => none)))))), (q36, .inr (2, [.ref tk_40, .ref pl_41, .int 0, .int 0, .int 0, .int 0, .int 0, .ref rl_42])), (tk_40, .inl (kA 0, 401, .inl (fun _ => 0))), (pl_41, .inl (kA 0, 401, .inl (fun _ => 0)))] := hD
  refine va_putF (D := (dC, dI)) (ci := 10) (v := .ref q36) (ty := .object "SnowMules$LawReader") (C := RX10) (T := TX10) (N := 13) hx hb hts iX10_init_X10 tyX10 tyX10_ok nmX10 hown hK.1 hP hD hS 0 rfl rfl 7 (by decide) (kX10_init_17 hts) (fun _ h9 => h9) rfl hin rfl (by decide +kernel) rfl rfl (Nat.le_of_ble_eq_true rfl) dX10_init_60 (fun H locs hP hD hS => ?_)
  have hP : va_P (dC, dI) vwCl [(x0, .inr (10, [.ref q1, .ref q17, .ref q33, .ref q34, .int 0, .ref q35, .int 0, .ref q36, .null, .null, .null, .null, .null])), (q1, .inr (9, [.ref tnodes_5, .ref tpasses_7, .ref tjars_9, .ref torders_11, .ref tfeasts_13, .ref tway_15, .int (-1), .int 0, .int 0, .int 0])), (tnodes_5, .inr (6, [.int 4, .ref tnodesA_6, .int 0])), (tnodesA_6, .inl (kA 0, 48, .inl (fun _ => 0))), (tpasses_7, .inr (6, [.int 5, .ref tpassesA_8, .int 0])), (tpassesA_8, .inl (kA 0, 100, .inl (fun _ => 0))), (tjars_9, .inr (6, [.int 9, .ref tjarsA_10, .int 0])), (tjarsA_10, .inl (kA 0, 144, .inl (fun _ => 0))), (torders_11, .inr (6, [.int 4, .ref tordersA_12, .int 0])), (tordersA_12, .inl (kA 0, 24, .inl (fun _ => 0))), (tfeasts_13, .inr (6, [.int 3, .ref tfeastsA_14, .int 0])), (tfeastsA_14, .inl (kA 0, 24, .inl (fun _ => 0))), (tway_15, .inr (6, [.int 1, .ref twayA_16, .int 0])), (twayA_16, .inl (kA 0, 6, .inl (fun _ => 0))), (q17, .inr (9, [.ref tnodes_21, .ref tpasses_23, .ref tjars_25, .ref torders_27, .ref tfeasts_29, .ref tway_31, .int (-1), .int 0, .int 0, .int 0])), (tnodes_21, .inr (6, [.int 4, .ref tnodesA_22, .int 0])), (tnodesA_22, .inl (kA 0, 48, .inl (fun _ => 0))), (tpasses_23, .inr (6, [.int 5, .ref tpassesA_24, .int 0])), (tpassesA_24, .inl (kA 0, 100, .inl (fun _ => 0))), (tjars_25, .inr (6, [.int 9, .ref tjarsA_26, .int 0])), (tjarsA_26, .inl (kA 0, 144, .inl (fun _ => 0))), (torders_27, .inr (6, [.int 4, .ref tordersA_28, .int 0])), (tordersA_28, .inl (kA 0, 24, .inl (fun _ => 0))), (tfeasts_29, .inr (6, [.int 3, .ref tfeastsA_30, .int 0])), (tfeastsA_30, .inl (kA 0, 24, .inl (fun _ => 0))), (tway_31, .inr (6, [.int 1, .ref twayA_32, .int 0])), (twayA_32, .inl (kA 0, 6, .inl (fun _ => 0))), (q33, .inl (kA 4, 4, .inr (.inr (.inr (.inr (fun _ => none)))))), (q34, .inl (kA 0, 400, .inl (fun _ => 0))), (q35, .inl (kA 5, 6, .inr (.inr (.inr (.inr (fun _ => none)))))), (q36, .inr (2, [.ref tk_40, .ref pl_41, .int 0, .int 0, .int 0, .int 0, .int 0, .ref rl_42])), (tk_40, .inl (kA 0, 401, .inl (fun _ => 0))), (pl_41, .inl (kA 0, 401, .inl (fun _ => 0)))] H := hP
  have hD : va_D A [(x0, .inr (10, [.ref q1, .ref q17, .ref q33, .ref q34, .int 0, .ref q35, .int 0, .ref q36, .null, .null, .null, .null, .null])), (q1, .inr (9, [.ref tnodes_5, .ref tpasses_7, .ref tjars_9, .ref torders_11, .ref tfeasts_13, .ref tway_15, .int (-1), .int 0, .int 0, .int 0])), (tnodes_5, .inr (6, [.int 4, .ref tnodesA_6, .int 0])), (tnodesA_6, .inl (kA 0, 48, .inl (fun _ => 0))), (tpasses_7, .inr (6, [.int 5, .ref tpassesA_8, .int 0])), (tpassesA_8, .inl (kA 0, 100, .inl (fun _ => 0))), (tjars_9, .inr (6, [.int 9, .ref tjarsA_10, .int 0])), (tjarsA_10, .inl (kA 0, 144, .inl (fun _ => 0))), (torders_11, .inr (6, [.int 4, .ref tordersA_12, .int 0])), (tordersA_12, .inl (kA 0, 24, .inl (fun _ => 0))), (tfeasts_13, .inr (6, [.int 3, .ref tfeastsA_14, .int 0])), (tfeastsA_14, .inl (kA 0, 24, .inl (fun _ => 0))), (tway_15, .inr (6, [.int 1, .ref twayA_16, .int 0])), (twayA_16, .inl (kA 0, 6, .inl (fun _ => 0))), (q17, .inr (9, [.ref tnodes_21, .ref tpasses_23, .ref tjars_25, .ref torders_27, .ref tfeasts_29, .ref tway_31, .int (-1), .int 0, .int 0, .int 0])), (tnodes_21, .inr (6, [.int 4, .ref tnodesA_22, .int 0])), (tnodesA_22, .inl (kA 0, 48, .inl (fun _ => 0))), (tpasses_23, .inr (6, [.int 5, .ref tpassesA_24, .int 0])), (tpassesA_24, .inl (kA 0, 100, .inl (fun _ => 0))), (tjars_25, .inr (6, [.int 9, .ref tjarsA_26, .int 0])), (tjarsA_26, .inl (kA 0, 144, .inl (fun _ => 0))), (torders_27, .inr (6, [.int 4, .ref tordersA_28, .int 0])), (tordersA_28, .inl (kA 0, 24, .inl (fun _ => 0))), (tfeasts_29, .inr (6, [.int 3, .ref tfeastsA_30, .int 0])), (tfeastsA_30, .inl (kA 0, 24, .inl (fun _ => 0))), (tway_31, .inr (6, [.int 1, .ref twayA_32, .int 0])), (twayA_32, .inl (kA 0, 6, .inl (fun _ => 0))), (q33, .inl (kA 4, 4, .inr (.inr (.inr (.inr (fun _ => none)))))), (q34, .inl (kA 0, 400, .inl (fun _ => 0))), (q35, .inl (kA 5, 6, .inr (.inr (.inr (.inr (fun _ => none)))))), (q36, .inr (2, [.ref tk_40, .ref pl_41, .int 0, .int 0, .int 0, .int 0, .int 0, .ref rl_42])), (tk_40, .inl (kA 0, 401, .inl (fun _ => 0))), (pl_41, .inl (kA 0, 401, .inl (fun _ => 0)))] := hD
  refine lv_aload_n hx hb dX10_init_63 rfl (lv_at hl 0 rfl) ?_
  refine va_new (ci := 0) (fs := [.null]) (C := RX0) (T := TX0) (N := 1) hx hb hts iX10_init_X0 tyX0 tyX0_ok hown (kX10_init_18 hts) (kX10_init_19 hts) (kX10_init_20 hts) hK.1 hP hD hS hA rfl fsX0 (Nat.le_of_ble_eq_true rfl) (Nat.le_of_ble_eq_true rfl) dX10_init_64 (fun q43 H hP hD hS => ?_)
  refine W.widen (k := 46) (n := 2502) (Nat.le_of_ble_eq_true rfl) (Nat.le_of_ble_eq_true rfl) ?_
  have hP : va_P (dC, dI) vwCl [(x0, .inr (10, [.ref q1, .ref q17, .ref q33, .ref q34, .int 0, .ref q35, .int 0, .ref q36, .null, .null, .null, .null, .null])), (q1, .inr (9, [.ref tnodes_5, .ref tpasses_7, .ref tjars_9, .ref torders_11, .ref tfeasts_13, .ref tway_15, .int (-1), .int 0, .int 0, .int 0])), (tnodes_5, .inr (6, [.int 4, .ref tnodesA_6, .int 0])), (tnodesA_6, .inl (kA 0, 48, .inl (fun _ => 0))), (tpasses_7, .inr (6, [.int 5, .ref tpassesA_8, .int 0])), (tpassesA_8, .inl (kA 0, 100, .inl (fun _ => 0))), (tjars_9, .inr (6, [.int 9, .ref tjarsA_10, .int 0])), (tjarsA_10, .inl (kA 0, 144, .inl (fun _ => 0))), (torders_11, .inr (6, [.int 4, .ref tordersA_12, .int 0])), (tordersA_12, .inl (kA 0, 24, .inl (fun _ => 0))), (tfeasts_13, .inr (6, [.int 3, .ref tfeastsA_14, .int 0])), (tfeastsA_14, .inl (kA 0, 24, .inl (fun _ => 0))), (tway_15, .inr (6, [.int 1, .ref twayA_16, .int 0])), (twayA_16, .inl (kA 0, 6, .inl (fun _ => 0))), (q17, .inr (9, [.ref tnodes_21, .ref tpasses_23, .ref tjars_25, .ref torders_27, .ref tfeasts_29, .ref tway_31, .int (-1), .int 0, .int 0, .int 0])), (tnodes_21, .inr (6, [.int 4, .ref tnodesA_22, .int 0])), (tnodesA_22, .inl (kA 0, 48, .inl (fun _ => 0))), (tpasses_23, .inr (6, [.int 5, .ref tpassesA_24, .int 0])), (tpassesA_24, .inl (kA 0, 100, .inl (fun _ => 0))), (tjars_25, .inr (6, [.int 9, .ref tjarsA_26, .int 0])), (tjarsA_26, .inl (kA 0, 144, .inl (fun _ => 0))), (torders_27, .inr (6, [.int 4, .ref tordersA_28, .int 0])), (tordersA_28, .inl (kA 0, 24, .inl (fun _ => 0))), (tfeasts_29, .inr (6, [.int 3, .ref tfeastsA_30, .int 0])), (tfeastsA_30, .inl (kA 0, 24, .inl (fun _ => 0))), (tway_31, .inr (6, [.int 1, .ref twayA_32, .int 0])), (twayA_32, .inl (kA 0, 6, .inl (fun _ => 0))), (q33, .inl (kA 4, 4, .inr (.inr (.inr (.inr (fun _ => none)))))), (q34, .inl (kA 0, 400, .inl (fun _ => 0))), (q35, .inl (kA 5, 6, .inr (.inr (.inr (.inr (fun _ => none)))))), (q36, .inr (2, [.ref tk_40, .ref pl_41, .int 0, .int 0, .int 0, .int 0, .int 0, .ref rl_42])), (tk_40, .inl (kA 0, 401, .inl (fun _ => 0))), (pl_41, .inl (kA 0, 401, .inl (fun _ => 0))), (q43, .inr (0, [.null]))] H := hP
  have hD : va_D A [(x0, .inr (10, [.ref q1, .ref q17, .ref q33, .ref q34, .int 0, .ref q35, .int 0, .ref q36, .null, .null, .null, .null, .null])), (q1, .inr (9, [.ref tnodes_5, .ref tpasses_7, .ref tjars_9, .ref torders_11, .ref tfeasts_13, .ref tway_15, .int (-1), .int 0, .int 0, .int 0])), (tnodes_5, .inr (6, [.int 4, .ref tnodesA_6, .int 0])), (tnodesA_6, .inl (kA 0, 48, .inl (fun _ => 0))), (tpasses_7, .inr (6, [.int 5, .ref tpassesA_8, .int 0])), (tpassesA_8, .inl (kA 0, 100, .inl (fun _ => 0))), (tjars_9, .inr (6, [.int 9, .ref tjarsA_10, .int 0])), (tjarsA_10, .inl (kA 0, 144, .inl (fun _ => 0))), (torders_11, .inr (6, [.int 4, .ref tordersA_12, .int 0])), (tordersA_12, .inl (kA 0, 24, .inl (fun _ => 0))), (tfeasts_13, .inr (6, [.int 3, .ref tfeastsA_14, .int 0])), (tfeastsA_14, .inl (kA 0, 24, .inl (fun _ => 0))), (tway_15, .inr (6, [.int 1, .ref twayA_16, .int 0])), (twayA_16, .inl (kA 0, 6, .inl (fun _ => 0))), (q17, .inr (9, [.ref tnodes_21, .ref tpasses_23, .ref tjars_25, .ref torders_27, .ref tfeasts_29, .ref tway_31, .int (-1), .int 0, .int 0, .int 0])), (tnodes_21, .inr (6, [.int 4, .ref tnodesA_22, .int 0])), (tnodesA_22, .inl (kA 0, 48, .inl (fun _ => 0))), (tpasses_23, .inr (6, [.int 5, .ref tpassesA_24, .int 0])), (tpassesA_24, .inl (kA 0, 100, .inl (fun _ => 0))), (tjars_25, .inr (6, [.int 9, .ref tjarsA_26, .int 0])), (tjarsA_26, .inl (kA 0, 144, .inl (fun _ => 0))), (torders_27, .inr (6, [.int 4, .ref tordersA_28, .int 0])), (tordersA_28, .inl (kA 0, 24, .inl (fun _ => 0))), (tfeasts_29, .inr (6, [.int 3, .ref tfeastsA_30, .int 0])), (tfeastsA_30, .inl (kA 0, 24, .inl (fun _ => 0))), (tway_31, .inr (6, [.int 1, .ref twayA_32, .int 0])), (twayA_32, .inl (kA 0, 6, .inl (fun _ => 0))), (q33, .inl (kA 4, 4, .inr (.inr (.inr (.inr (fun _ => none)))))), (q34, .inl (kA 0, 400, .inl (fun _ => 0))), (q35, .inl (kA 5, 6, .inr (.inr (.inr (.inr (fun _ => none)))))), (q36, .inr (2, [.ref tk_40, .ref pl_41, .int 0, .int 0, .int 0, .int 0, .int 0, .ref rl_42])), (tk_40, .inl (kA 0, 401, .inl (fun _ => 0))), (pl_41, .inl (kA 0, 401, .inl (fun _ => 0))), (q43, .inr (0, [.null]))] := hD
  refine lv_dup hx hb dX10_init_67 rfl ?_
  refine z_v (wr := [(x0, .inr (10, [.ref q1, .ref q17, .ref q33, .ref q34, .int 0, .ref q35, .int 0, .ref q36, .null, .null, .null, .null, .null])), (q1, .inr (9, [.ref tnodes_5, .ref tpasses_7, .ref tjars_9, .ref torders_11, .ref tfeasts_13, .ref tway_15, .int (-1), .int 0, .int 0, .int 0])), (tnodes_5, .inr (6, [.int 4, .ref tnodesA_6, .int 0])), (tnodesA_6, .inl (kA 0, 48, .inl (fun _ => 0))), (tpasses_7, .inr (6, [.int 5, .ref tpassesA_8, .int 0])), (tpassesA_8, .inl (kA 0, 100, .inl (fun _ => 0))), (tjars_9, .inr (6, [.int 9, .ref tjarsA_10, .int 0])), (tjarsA_10, .inl (kA 0, 144, .inl (fun _ => 0))), (torders_11, .inr (6, [.int 4, .ref tordersA_12, .int 0])), (tordersA_12, .inl (kA 0, 24, .inl (fun _ => 0))), (tfeasts_13, .inr (6, [.int 3, .ref tfeastsA_14, .int 0])), (tfeastsA_14, .inl (kA 0, 24, .inl (fun _ => 0))), (tway_15, .inr (6, [.int 1, .ref twayA_16, .int 0])), (twayA_16, .inl (kA 0, 6, .inl (fun _ => 0))), (q17, .inr (9, [.ref tnodes_21, .ref tpasses_23, .ref tjars_25, .ref torders_27, .ref tfeasts_29, .ref tway_31, .int (-1), .int 0, .int 0, .int 0])), (tnodes_21, .inr (6, [.int 4, .ref tnodesA_22, .int 0])), (tnodesA_22, .inl (kA 0, 48, .inl (fun _ => 0))), (tpasses_23, .inr (6, [.int 5, .ref tpassesA_24, .int 0])), (tpassesA_24, .inl (kA 0, 100, .inl (fun _ => 0))), (tjars_25, .inr (6, [.int 9, .ref tjarsA_26, .int 0])), (tjarsA_26, .inl (kA 0, 144, .inl (fun _ => 0))), (torders_27, .inr (6, [.int 4, .ref tordersA_28, .int 0])), (tordersA_28, .inl (kA 0, 24, .inl (fun _ => 0))), (tfeasts_29, .inr (6, [.int 3, .ref tfeastsA_30, .int 0])), (tfeastsA_30, .inl (kA 0, 24, .inl (fun _ => 0))), (tway_31, .inr (6, [.int 1, .ref twayA_32, .int 0])), (twayA_32, .inl (kA 0, 6, .inl (fun _ => 0))), (q33, .inl (kA 4, 4, .inr (.inr (.inr (.inr (fun _ => none)))))), (q34, .inl (kA 0, 400, .inl (fun _ => 0))), (q35, .inl (kA 5, 6, .inr (.inr (.inr (.inr (fun _ => none)))))), (q36, .inr (2, [.ref tk_40, .ref pl_41, .int 0, .int 0, .int 0, .int 0, .int 0, .ref rl_42])), (tk_40, .inl (kA 0, 401, .inl (fun _ => 0))), (pl_41, .inl (kA 0, 401, .inl (fun _ => 0)))]) (va_runIN (As := []) (rest := [.ref q43, .ref x0]) ⟨hx, hb, hml, hown, hts⟩ (mX0_init l dC dI kA _ q43) ⟨va_cnB 0 hts gX10_init_X0_init_n42 rfl rfl rfl hK.2.1.2.2.2.1 (kX10_init_20 hts) (by decide +kernel) ⟨(Nat.le_of_ble_eq_true rfl), (Nat.le_of_ble_eq_true rfl)⟩, rfl, (kX10_init_85 hts)⟩ ⟨zPc.blind, zPre hK (hP.sub [33] rfl) (hD.sub [33] (by decide) rfl)⟩ rfl rfl hl.1 rfl (lv_room (Nat.le_of_ble_eq_true rfl)) dX10_init_68 ⟨(Nat.le_of_ble_eq_true rfl), (Nat.le_of_ble_eq_true rfl)⟩) hP hD hS hA [33] [0, 1, 2, 3, 4, 5, 6, 7, 8, 9, 10, 11, 12, 13, 14, 15, 16, 17, 18, 19, 20, 21, 22, 23, 24, 25, 26, 27, 28, 29, 30, 31, 32] rfl rfl (by decide) (by decide) (fun u44 H locs hw45 hP hD hS => ?_)
  refine W.widen (k := 48) (n := 2517) (Nat.le_of_ble_eq_true rfl) (Nat.le_of_ble_eq_true rfl) ?_
  have hP : va_P (dC, dI) vwCl [(x0, .inr (10, [.ref q1, .ref q17, .ref q33, .ref q34, .int 0, .ref q35, .int 0, .ref q36, .null, .null, .null, .null, .null])), (q1, .inr (9, [.ref tnodes_5, .ref tpasses_7, .ref tjars_9, .ref torders_11, .ref tfeasts_13, .ref tway_15, .int (-1), .int 0, .int 0, .int 0])), (tnodes_5, .inr (6, [.int 4, .ref tnodesA_6, .int 0])), (tnodesA_6, .inl (kA 0, 48, .inl (fun _ => 0))), (tpasses_7, .inr (6, [.int 5, .ref tpassesA_8, .int 0])), (tpassesA_8, .inl (kA 0, 100, .inl (fun _ => 0))), (tjars_9, .inr (6, [.int 9, .ref tjarsA_10, .int 0])), (tjarsA_10, .inl (kA 0, 144, .inl (fun _ => 0))), (torders_11, .inr (6, [.int 4, .ref tordersA_12, .int 0])), (tordersA_12, .inl (kA 0, 24, .inl (fun _ => 0))), (tfeasts_13, .inr (6, [.int 3, .ref tfeastsA_14, .int 0])), (tfeastsA_14, .inl (kA 0, 24, .inl (fun _ => 0))), (tway_15, .inr (6, [.int 1, .ref twayA_16, .int 0])), (twayA_16, .inl (kA 0, 6, .inl (fun _ => 0))), (q17, .inr (9, [.ref tnodes_21, .ref tpasses_23, .ref tjars_25, .ref torders_27, .ref tfeasts_29, .ref tway_31, .int (-1), .int 0, .int 0, .int 0])), (tnodes_21, .inr (6, [.int 4, .ref tnodesA_22, .int 0])), (tnodesA_22, .inl (kA 0, 48, .inl (fun _ => 0))), (tpasses_23, .inr (6, [.int 5, .ref tpassesA_24, .int 0])), (tpassesA_24, .inl (kA 0, 100, .inl (fun _ => 0))), (tjars_25, .inr (6, [.int 9, .ref tjarsA_26, .int 0])), (tjarsA_26, .inl (kA 0, 144, .inl (fun _ => 0))), (torders_27, .inr (6, [.int 4, .ref tordersA_28, .int 0])), (tordersA_28, .inl (kA 0, 24, .inl (fun _ => 0))), (tfeasts_29, .inr (6, [.int 3, .ref tfeastsA_30, .int 0])), (tfeastsA_30, .inl (kA 0, 24, .inl (fun _ => 0))), (tway_31, .inr (6, [.int 1, .ref twayA_32, .int 0])), (twayA_32, .inl (kA 0, 6, .inl (fun _ => 0))), (q33, .inl (kA 4, 4, .inr (.inr (.inr (.inr (fun _ => none)))))), (q34, .inl (kA 0, 400, .inl (fun _ => 0))), (q35, .inl (kA 5, 6, .inr (.inr (.inr (.inr (fun _ => none)))))), (q36, .inr (2, [.ref tk_40, .ref pl_41, .int 0, .int 0, .int 0, .int 0, .int 0, .ref rl_42])), (tk_40, .inl (kA 0, 401, .inl (fun _ => 0))), (pl_41, .inl (kA 0, 401, .inl (fun _ => 0)))] H := hP
  have hD : va_D A [(x0, .inr (10, [.ref q1, .ref q17, .ref q33, .ref q34, .int 0, .ref q35, .int 0, .ref q36, .null, .null, .null, .null, .null])), (q1, .inr (9, [.ref tnodes_5, .ref tpasses_7, .ref tjars_9, .ref torders_11, .ref tfeasts_13, .ref tway_15, .int (-1), .int 0, .int 0, .int 0])), (tnodes_5, .inr (6, [.int 4, .ref tnodesA_6, .int 0])), (tnodesA_6, .inl (kA 0, 48, .inl (fun _ => 0))), (tpasses_7, .inr (6, [.int 5, .ref tpassesA_8, .int 0])), (tpassesA_8, .inl (kA 0, 100, .inl (fun _ => 0))), (tjars_9, .inr (6, [.int 9, .ref tjarsA_10, .int 0])), (tjarsA_10, .inl (kA 0, 144, .inl (fun _ => 0))), (torders_11, .inr (6, [.int 4, .ref tordersA_12, .int 0])), (tordersA_12, .inl (kA 0, 24, .inl (fun _ => 0))), (tfeasts_13, .inr (6, [.int 3, .ref tfeastsA_14, .int 0])), (tfeastsA_14, .inl (kA 0, 24, .inl (fun _ => 0))), (tway_15, .inr (6, [.int 1, .ref twayA_16, .int 0])), (twayA_16, .inl (kA 0, 6, .inl (fun _ => 0))), (q17, .inr (9, [.ref tnodes_21, .ref tpasses_23, .ref tjars_25, .ref torders_27, .ref tfeasts_29, .ref tway_31, .int (-1), .int 0, .int 0, .int 0])), (tnodes_21, .inr (6, [.int 4, .ref tnodesA_22, .int 0])), (tnodesA_22, .inl (kA 0, 48, .inl (fun _ => 0))), (tpasses_23, .inr (6, [.int 5, .ref tpassesA_24, .int 0])), (tpassesA_24, .inl (kA 0, 100, .inl (fun _ => 0))), (tjars_25, .inr (6, [.int 9, .ref tjarsA_26, .int 0])), (tjarsA_26, .inl (kA 0, 144, .inl (fun _ => 0))), (torders_27, .inr (6, [.int 4, .ref tordersA_28, .int 0])), (tordersA_28, .inl (kA 0, 24, .inl (fun _ => 0))), (tfeasts_29, .inr (6, [.int 3, .ref tfeastsA_30, .int 0])), (tfeastsA_30, .inl (kA 0, 24, .inl (fun _ => 0))), (tway_31, .inr (6, [.int 1, .ref twayA_32, .int 0])), (twayA_32, .inl (kA 0, 6, .inl (fun _ => 0))), (q33, .inl (kA 4, 4, .inr (.inr (.inr (.inr (fun _ => none)))))), (q34, .inl (kA 0, 400, .inl (fun _ => 0))), (q35, .inl (kA 5, 6, .inr (.inr (.inr (.inr (fun _ => none)))))), (q36, .inr (2, [.ref tk_40, .ref pl_41, .int 0, .int 0, .int 0, .int 0, .int 0, .ref rl_42])), (tk_40, .inl (kA 0, 401, .inl (fun _ => 0))), (pl_41, .inl (kA 0, 401, .inl (fun _ => 0)))] := hD
  refine va_putF (D := (dC, dI)) (ci := 10) (v := .ref q43) (ty := .object "SnowMules$Hours") (C := RX10) (T := TX10) (N := 13) hx hb hts iX10_init_X10 tyX10 tyX10_ok nmX10 hown hK.1 hP hD hS 0 rfl rfl 8 (by decide) (kX10_init_21 hts) (fun _ h9 => h9) rfl hin rfl (by decide +kernel) rfl rfl (Nat.le_of_ble_eq_true rfl) dX10_init_71 (fun H locs hP hD hS => ?_)
  have hP : va_P (dC, dI) vwCl [(x0, .inr (10, [.ref q1, .ref q17, .ref q33, .ref q34, .int 0, .ref q35, .int 0, .ref q36, .ref q43, .null, .null, .null, .null])), (q1, .inr (9, [.ref tnodes_5, .ref tpasses_7, .ref tjars_9, .ref torders_11, .ref tfeasts_13, .ref tway_15, .int (-1), .int 0, .int 0, .int 0])), (tnodes_5, .inr (6, [.int 4, .ref tnodesA_6, .int 0])), (tnodesA_6, .inl (kA 0, 48, .inl (fun _ => 0))), (tpasses_7, .inr (6, [.int 5, .ref tpassesA_8, .int 0])), (tpassesA_8, .inl (kA 0, 100, .inl (fun _ => 0))), (tjars_9, .inr (6, [.int 9, .ref tjarsA_10, .int 0])), (tjarsA_10, .inl (kA 0, 144, .inl (fun _ => 0))), (torders_11, .inr (6, [.int 4, .ref tordersA_12, .int 0])), (tordersA_12, .inl (kA 0, 24, .inl (fun _ => 0))), (tfeasts_13, .inr (6, [.int 3, .ref tfeastsA_14, .int 0])), (tfeastsA_14, .inl (kA 0, 24, .inl (fun _ => 0))), (tway_15, .inr (6, [.int 1, .ref twayA_16, .int 0])), (twayA_16, .inl (kA 0, 6, .inl (fun _ => 0))), (q17, .inr (9, [.ref tnodes_21, .ref tpasses_23, .ref tjars_25, .ref torders_27, .ref tfeasts_29, .ref tway_31, .int (-1), .int 0, .int 0, .int 0])), (tnodes_21, .inr (6, [.int 4, .ref tnodesA_22, .int 0])), (tnodesA_22, .inl (kA 0, 48, .inl (fun _ => 0))), (tpasses_23, .inr (6, [.int 5, .ref tpassesA_24, .int 0])), (tpassesA_24, .inl (kA 0, 100, .inl (fun _ => 0))), (tjars_25, .inr (6, [.int 9, .ref tjarsA_26, .int 0])), (tjarsA_26, .inl (kA 0, 144, .inl (fun _ => 0))), (torders_27, .inr (6, [.int 4, .ref tordersA_28, .int 0])), (tordersA_28, .inl (kA 0, 24, .inl (fun _ => 0))), (tfeasts_29, .inr (6, [.int 3, .ref tfeastsA_30, .int 0])), (tfeastsA_30, .inl (kA 0, 24, .inl (fun _ => 0))), (tway_31, .inr (6, [.int 1, .ref twayA_32, .int 0])), (twayA_32, .inl (kA 0, 6, .inl (fun _ => 0))), (q33, .inl (kA 4, 4, .inr (.inr (.inr (.inr (fun _ => none)))))), (q34, .inl (kA 0, 400, .inl (fun _ => 0))), (q35, .inl (kA 5, 6, .inr (.inr (.inr (.inr (fun _ => none)))))), (q36, .inr (2, [.ref tk_40, .ref pl_41, .int 0, .int 0, .int 0, .int 0, .int 0, .ref rl_42])), (tk_40, .inl (kA 0, 401, .inl (fun _ => 0))), (pl_41, .inl (kA 0, 401, .inl (fun _ => 0)))] H := hP
  have hD : va_D A [(x0, .inr (10, [.ref q1, .ref q17, .ref q33, .ref q34, .int 0, .ref q35, .int 0, .ref q36, .ref q43, .null, .null, .null, .null])), (q1, .inr (9, [.ref tnodes_5, .ref tpasses_7, .ref tjars_9, .ref torders_11, .ref tfeasts_13, .ref tway_15, .int (-1), .int 0, .int 0, .int 0])), (tnodes_5, .inr (6, [.int 4, .ref tnodesA_6, .int 0])), (tnodesA_6, .inl (kA 0, 48, .inl (fun _ => 0))), (tpasses_7, .inr (6, [.int 5, .ref tpassesA_8, .int 0])), (tpassesA_8, .inl (kA 0, 100, .inl (fun _ => 0))), (tjars_9, .inr (6, [.int 9, .ref tjarsA_10, .int 0])), (tjarsA_10, .inl (kA 0, 144, .inl (fun _ => 0))), (torders_11, .inr (6, [.int 4, .ref tordersA_12, .int 0])), (tordersA_12, .inl (kA 0, 24, .inl (fun _ => 0))), (tfeasts_13, .inr (6, [.int 3, .ref tfeastsA_14, .int 0])), (tfeastsA_14, .inl (kA 0, 24, .inl (fun _ => 0))), (tway_15, .inr (6, [.int 1, .ref twayA_16, .int 0])), (twayA_16, .inl (kA 0, 6, .inl (fun _ => 0))), (q17, .inr (9, [.ref tnodes_21, .ref tpasses_23, .ref tjars_25, .ref torders_27, .ref tfeasts_29, .ref tway_31, .int (-1), .int 0, .int 0, .int 0])), (tnodes_21, .inr (6, [.int 4, .ref tnodesA_22, .int 0])), (tnodesA_22, .inl (kA 0, 48, .inl (fun _ => 0))), (tpasses_23, .inr (6, [.int 5, .ref tpassesA_24, .int 0])), (tpassesA_24, .inl (kA 0, 100, .inl (fun _ => 0))), (tjars_25, .inr (6, [.int 9, .ref tjarsA_26, .int 0])), (tjarsA_26, .inl (kA 0, 144, .inl (fun _ => 0))), (torders_27, .inr (6, [.int 4, .ref tordersA_28, .int 0])), (tordersA_28, .inl (kA 0, 24, .inl (fun _ => 0))), (tfeasts_29, .inr (6, [.int 3, .ref tfeastsA_30, .int 0])), (tfeastsA_30, .inl (kA 0, 24, .inl (fun _ => 0))), (tway_31, .inr (6, [.int 1, .ref twayA_32, .int 0])), (twayA_32, .inl (kA 0, 6, .inl (fun _ => 0))), (q33, .inl (kA 4, 4, .inr (.inr (.inr (.inr (fun _ => none)))))), (q34, .inl (kA 0, 400, .inl (fun _ => 0))), (q35, .inl (kA 5, 6, .inr (.inr (.inr (.inr (fun _ => none)))))), (q36, .inr (2, [.ref tk_40, .ref pl_41, .int 0, .int 0, .int 0, .int 0, .int 0, .ref rl_42])), (tk_40, .inl (kA 0, 401, .inl (fun _ => 0))), (pl_41, .inl (kA 0, 401, .inl (fun _ => 0)))] := hD
  refine lv_aload_n hx hb dX10_init_74 rfl (lv_at hl 0 rfl) ?_
  refine va_new (ci := 7) (fs := [.int 0, .int 0, .int 0, .int 0, .int 0, .int 0, .null, .null, .null]) (C := RX7) (T := TX7) (N := 9) hx hb hts iX10_init_X7 tyX7 tyX7_ok hown (kX10_init_22 hts) (kX10_init_23 hts) (kX10_init_24 hts) hK.1 hP hD hS hA rfl fsX7 (Nat.le_of_ble_eq_true rfl) (Nat.le_of_ble_eq_true rfl) dX10_init_75 (fun q47 H hP hD hS => ?_)
  refine W.widen (k := 49) (n := 2526) (Nat.le_of_ble_eq_true rfl) (Nat.le_of_ble_eq_true rfl) ?_
  have hP : va_P (dC, dI) vwCl [(x0, .inr (10, [.ref q1, .ref q17, .ref q33, .ref q34, .int 0, .ref q35, .int 0, .ref q36, .ref q43, .null, .null, .null, .null])), (q1, .inr (9, [.ref tnodes_5, .ref tpasses_7, .ref tjars_9, .ref torders_11, .ref tfeasts_13, .ref tway_15, .int (-1), .int 0, .int 0, .int 0])), (tnodes_5, .inr (6, [.int 4, .ref tnodesA_6, .int 0])), (tnodesA_6, .inl (kA 0, 48, .inl (fun _ => 0))), (tpasses_7, .inr (6, [.int 5, .ref tpassesA_8, .int 0])), (tpassesA_8, .inl (kA 0, 100, .inl (fun _ => 0))), (tjars_9, .inr (6, [.int 9, .ref tjarsA_10, .int 0])), (tjarsA_10, .inl (kA 0, 144, .inl (fun _ => 0))), (torders_11, .inr (6, [.int 4, .ref tordersA_12, .int 0])), (tordersA_12, .inl (kA 0, 24, .inl (fun _ => 0))), (tfeasts_13, .inr (6, [.int 3, .ref tfeastsA_14, .int 0])), (tfeastsA_14, .inl (kA 0, 24, .inl (fun _ => 0))), (tway_15, .inr (6, [.int 1, .ref twayA_16, .int 0])), (twayA_16, .inl (kA 0, 6, .inl (fun _ => 0))), (q17, .inr (9, [.ref tnodes_21, .ref tpasses_23, .ref tjars_25, .ref torders_27, .ref tfeasts_29, .ref tway_31, .int (-1), .int 0, .int 0, .int 0])), (tnodes_21, .inr (6, [.int 4, .ref tnodesA_22, .int 0])), (tnodesA_22, .inl (kA 0, 48, .inl (fun _ => 0))), (tpasses_23, .inr (6, [.int 5, .ref tpassesA_24, .int 0])), (tpassesA_24, .inl (kA 0, 100, .inl (fun _ => 0))), (tjars_25, .inr (6, [.int 9, .ref tjarsA_26, .int 0])), (tjarsA_26, .inl (kA 0, 144, .inl (fun _ => 0))), (torders_27, .inr (6, [.int 4, .ref tordersA_28, .int 0])), (tordersA_28, .inl (kA 0, 24, .inl (fun _ => 0))), (tfeasts_29, .inr (6, [.int 3, .ref tfeastsA_30, .int 0])), (tfeastsA_30, .inl (kA 0, 24, .inl (fun _ => 0))), (tway_31, .inr (6, [.int 1, .ref twayA_32, .int 0])), (twayA_32, .inl (kA 0, 6, .inl (fun _ => 0))), (q33, .inl (kA 4, 4, .inr (.inr (.inr (.inr (fun _ => none)))))), (q34, .inl (kA 0, 400, .inl (fun _ => 0))), (q35, .inl (kA 5, 6, .inr (.inr (.inr (.inr (fun _ => none)))))), (q36, .inr (2, [.ref tk_40, .ref pl_41, .int 0, .int 0, .int 0, .int 0, .int 0, .ref rl_42])), (tk_40, .inl (kA 0, 401, .inl (fun _ => 0))), (pl_41, .inl (kA 0, 401, .inl (fun _ => 0))), (q47, .inr (7, [.int 0, .int 0, .int 0, .int 0, .int 0, .int 0, .null, .null, .null]))] H := hP
  have hD : va_D A [(x0, .inr (10, [.ref q1, .ref q17, .ref q33, .ref q34, .int 0, .ref q35, .int 0, .ref q36, .ref q43, .null, .null, .null, .null])), (q1, .inr (9, [.ref tnodes_5, .ref tpasses_7, .ref tjars_9, .ref torders_11, .ref tfeasts_13, .ref tway_15, .int (-1), .int 0, .int 0, .int 0])), (tnodes_5, .inr (6, [.int 4, .ref tnodesA_6, .int 0])), (tnodesA_6, .inl (kA 0, 48, .inl (fun _ => 0))), (tpasses_7, .inr (6, [.int 5, .ref tpassesA_8, .int 0])), (tpassesA_8, .inl (kA 0, 100, .inl (fun _ => 0))), (tjars_9, .inr (6, [.int 9, .ref tjarsA_10, .int 0])), (tjarsA_10, .inl (kA 0, 144, .inl (fun _ => 0))), (torders_11, .inr (6, [.int 4, .ref tordersA_12, .int 0])), (tordersA_12, .inl (kA 0, 24, .inl (fun _ => 0))), (tfeasts_13, .inr (6, [.int 3, .ref tfeastsA_14, .int 0])), (tfeastsA_14, .inl (kA 0, 24, .inl (fun _ => 0))), (tway_15, .inr (6, [.int 1, .ref twayA_16, .int 0])), (twayA_16, .inl (kA 0, 6, .inl (fun _ => 0))), (q17, .inr (9, [.ref tnodes_21, .ref tpasses_23, .ref tjars_25, .ref torders_27, .ref tfeasts_29, .ref tway_31, .int (-1), .int 0, .int 0, .int 0])), (tnodes_21, .inr (6, [.int 4, .ref tnodesA_22, .int 0])), (tnodesA_22, .inl (kA 0, 48, .inl (fun _ => 0))), (tpasses_23, .inr (6, [.int 5, .ref tpassesA_24, .int 0])), (tpassesA_24, .inl (kA 0, 100, .inl (fun _ => 0))), (tjars_25, .inr (6, [.int 9, .ref tjarsA_26, .int 0])), (tjarsA_26, .inl (kA 0, 144, .inl (fun _ => 0))), (torders_27, .inr (6, [.int 4, .ref tordersA_28, .int 0])), (tordersA_28, .inl (kA 0, 24, .inl (fun _ => 0))), (tfeasts_29, .inr (6, [.int 3, .ref tfeastsA_30, .int 0])), (tfeastsA_30, .inl (kA 0, 24, .inl (fun _ => 0))), (tway_31, .inr (6, [.int 1, .ref twayA_32, .int 0])), (twayA_32, .inl (kA 0, 6, .inl (fun _ => 0))), (q33, .inl (kA 4, 4, .inr (.inr (.inr (.inr (fun _ => none)))))), (q34, .inl (kA 0, 400, .inl (fun _ => 0))), (q35, .inl (kA 5, 6, .inr (.inr (.inr (.inr (fun _ => none)))))), (q36, .inr (2, [.ref tk_40, .ref pl_41, .int 0, .int 0, .int 0, .int 0, .int 0, .ref rl_42])), (tk_40, .inl (kA 0, 401, .inl (fun _ => 0))), (pl_41, .inl (kA 0, 401, .inl (fun _ => 0))), (q47, .inr (7, [.int 0, .int 0, .int 0, .int 0, .int 0, .int 0, .null, .null, .null]))] := hD
  refine lv_dup hx hb dX10_init_78 rfl ?_
  refine lv_aload_n hx hb dX10_init_79 rfl (lv_at hl 0 rfl) ?_
  refine va_get (D := (dC, dI)) (ci := 10) (v := .ref q1) (C := RX10) (T := TX10) (N := 13) hx hb hts iX10_init_X10 hown hK.1 hP 0 rfl rfl 0 (by decide) (kX10_init_7 hts) (fun _ h9 => h9) rfl dX10_init_80 ?_
  refine z_v (wr := [(x0, .inr (10, [.ref q1, .ref q17, .ref q33, .ref q34, .int 0, .ref q35, .int 0, .ref q36, .ref q43, .null, .null, .null, .null])), (q1, .inr (9, [.ref tnodes_5, .ref tpasses_7, .ref tjars_9, .ref torders_11, .ref tfeasts_13, .ref tway_15, .int (-1), .int 0, .int 0, .int 0])), (tnodes_5, .inr (6, [.int 4, .ref tnodesA_6, .int 0])), (tnodesA_6, .inl (kA 0, 48, .inl (fun _ => 0))), (tpasses_7, .inr (6, [.int 5, .ref tpassesA_8, .int 0])), (tpassesA_8, .inl (kA 0, 100, .inl (fun _ => 0))), (tjars_9, .inr (6, [.int 9, .ref tjarsA_10, .int 0])), (tjarsA_10, .inl (kA 0, 144, .inl (fun _ => 0))), (torders_11, .inr (6, [.int 4, .ref tordersA_12, .int 0])), (tordersA_12, .inl (kA 0, 24, .inl (fun _ => 0))), (tfeasts_13, .inr (6, [.int 3, .ref tfeastsA_14, .int 0])), (tfeastsA_14, .inl (kA 0, 24, .inl (fun _ => 0))), (tway_15, .inr (6, [.int 1, .ref twayA_16, .int 0])), (twayA_16, .inl (kA 0, 6, .inl (fun _ => 0))), (q17, .inr (9, [.ref tnodes_21, .ref tpasses_23, .ref tjars_25, .ref torders_27, .ref tfeasts_29, .ref tway_31, .int (-1), .int 0, .int 0, .int 0])), (tnodes_21, .inr (6, [.int 4, .ref tnodesA_22, .int 0])), (tnodesA_22, .inl (kA 0, 48, .inl (fun _ => 0))), (tpasses_23, .inr (6, [.int 5, .ref tpassesA_24, .int 0])), (tpassesA_24, .inl (kA 0, 100, .inl (fun _ => 0))), (tjars_25, .inr (6, [.int 9, .ref tjarsA_26, .int 0])), (tjarsA_26, .inl (kA 0, 144, .inl (fun _ => 0))), (torders_27, .inr (6, [.int 4, .ref tordersA_28, .int 0])), (tordersA_28, .inl (kA 0, 24, .inl (fun _ => 0))), (tfeasts_29, .inr (6, [.int 3, .ref tfeastsA_30, .int 0])), (tfeastsA_30, .inl (kA 0, 24, .inl (fun _ => 0))), (tway_31, .inr (6, [.int 1, .ref twayA_32, .int 0])), (twayA_32, .inl (kA 0, 6, .inl (fun _ => 0))), (q33, .inl (kA 4, 4, .inr (.inr (.inr (.inr (fun _ => none)))))), (q34, .inl (kA 0, 400, .inl (fun _ => 0))), (q35, .inl (kA 5, 6, .inr (.inr (.inr (.inr (fun _ => none)))))), (q36, .inr (2, [.ref tk_40, .ref pl_41, .int 0, .int 0, .int 0, .int 0, .int 0, .ref rl_42])), (tk_40, .inl (kA 0, 401, .inl (fun _ => 0))), (pl_41, .inl (kA 0, 401, .inl (fun _ => 0)))]) (va_runI (As := [.ref q1]) (rest := [.ref q47, .ref x0]) ⟨hx, hb, hml, hown, hts⟩ (mX7_init l dC dI kA _ q47 q1) (cwI 1 hts gX10_init_X7_init rfl rfl rfl (kX10_init_24 hts) (kX10_init_96 hts) (kX10_init_97 hts) rfl (by decide +kernel) ⟨(Nat.le_of_ble_eq_true rfl), (Nat.le_of_ble_eq_true rfl)⟩) ⟨zPc.blind, zPre hK (hP.sub [33] rfl) (hD.sub [33] (by decide) rfl)⟩ rfl rfl hl.1 rfl (lv_room (Nat.le_of_ble_eq_true rfl)) dX10_init_83 ⟨(Nat.le_of_ble_eq_true rfl), (Nat.le_of_ble_eq_true rfl)⟩) hP hD hS hA [33] [0, 1, 2, 3, 4, 5, 6, 7, 8, 9, 10, 11, 12, 13, 14, 15, 16, 17, 18, 19, 20, 21, 22, 23, 24, 25, 26, 27, 28, 29, 30, 31, 32] rfl rfl (by decide) (by decide) (fun u48 H locs hw49 hP hD hS => ?_)
  refine W.widen (k := 64) (n := 3074) (Nat.le_of_ble_eq_true rfl) (Nat.le_of_ble_eq_true rfl) ?_
  have hP : va_P (dC, dI) vwCl [(x0, .inr (10, [.ref q1, .ref q17, .ref q33, .ref q34, .int 0, .ref q35, .int 0, .ref q36, .ref q43, .null, .null, .null, .null])), (q1, .inr (9, [.ref tnodes_5, .ref tpasses_7, .ref tjars_9, .ref torders_11, .ref tfeasts_13, .ref tway_15, .int (-1), .int 0, .int 0, .int 0])), (tnodes_5, .inr (6, [.int 4, .ref tnodesA_6, .int 0])), (tnodesA_6, .inl (kA 0, 48, .inl (fun _ => 0))), (tpasses_7, .inr (6, [.int 5, .ref tpassesA_8, .int 0])), (tpassesA_8, .inl (kA 0, 100, .inl (fun _ => 0))), (tjars_9, .inr (6, [.int 9, .ref tjarsA_10, .int 0])), (tjarsA_10, .inl (kA 0, 144, .inl (fun _ => 0))), (torders_11, .inr (6, [.int 4, .ref tordersA_12, .int 0])), (tordersA_12, .inl (kA 0, 24, .inl (fun _ => 0))), (tfeasts_13, .inr (6, [.int 3, .ref tfeastsA_14, .int 0])), (tfeastsA_14, .inl (kA 0, 24, .inl (fun _ => 0))), (tway_15, .inr (6, [.int 1, .ref twayA_16, .int 0])), (twayA_16, .inl (kA 0, 6, .inl (fun _ => 0))), (q17, .inr (9, [.ref tnodes_21, .ref tpasses_23, .ref tjars_25, .ref torders_27, .ref tfeasts_29, .ref tway_31, .int (-1), .int 0, .int 0, .int 0])), (tnodes_21, .inr (6, [.int 4, .ref tnodesA_22, .int 0])), (tnodesA_22, .inl (kA 0, 48, .inl (fun _ => 0))), (tpasses_23, .inr (6, [.int 5, .ref tpassesA_24, .int 0])), (tpassesA_24, .inl (kA 0, 100, .inl (fun _ => 0))), (tjars_25, .inr (6, [.int 9, .ref tjarsA_26, .int 0])), (tjarsA_26, .inl (kA 0, 144, .inl (fun _ => 0))), (torders_27, .inr (6, [.int 4, .ref tordersA_28, .int 0])), (tordersA_28, .inl (kA 0, 24, .inl (fun _ => 0))), (tfeasts_29, .inr (6, [.int 3, .ref tfeastsA_30, .int 0])), (tfeastsA_30, .inl (kA 0, 24, .inl (fun _ => 0))), (tway_31, .inr (6, [.int 1, .ref twayA_32, .int 0])), (twayA_32, .inl (kA 0, 6, .inl (fun _ => 0))), (q33, .inl (kA 4, 4, .inr (.inr (.inr (.inr (fun _ => none)))))), (q34, .inl (kA 0, 400, .inl (fun _ => 0))), (q35, .inl (kA 5, 6, .inr (.inr (.inr (.inr (fun _ => none)))))), (q36, .inr (2, [.ref tk_40, .ref pl_41, .int 0, .int 0, .int 0, .int 0, .int 0, .ref rl_42])), (tk_40, .inl (kA 0, 401, .inl (fun _ => 0))), (pl_41, .inl (kA 0, 401, .inl (fun _ => 0)))] H := hP
  have hD : va_D A [(x0, .inr (10, [.ref q1, .ref q17, .ref q33, .ref q34, .int 0, .ref q35, .int 0, .ref q36, .ref q43, .null, .null, .null, .null])), (q1, .inr (9, [.ref tnodes_5, .ref tpasses_7, .ref tjars_9, .ref torders_11, .ref tfeasts_13, .ref tway_15, .int (-1), .int 0, .int 0, .int 0])), (tnodes_5, .inr (6, [.int 4, .ref tnodesA_6, .int 0])), (tnodesA_6, .inl (kA 0, 48, .inl (fun _ => 0))), (tpasses_7, .inr (6, [.int 5, .ref tpassesA_8, .int 0])), (tpassesA_8, .inl (kA 0, 100, .inl (fun _ => 0))), (tjars_9, .inr (6, [.int 9, .ref tjarsA_10, .int 0])), (tjarsA_10, .inl (kA 0, 144, .inl (fun _ => 0))), (torders_11, .inr (6, [.int 4, .ref tordersA_12, .int 0])), (tordersA_12, .inl (kA 0, 24, .inl (fun _ => 0))), (tfeasts_13, .inr (6, [.int 3, .ref tfeastsA_14, .int 0])), (tfeastsA_14, .inl (kA 0, 24, .inl (fun _ => 0))), (tway_15, .inr (6, [.int 1, .ref twayA_16, .int 0])), (twayA_16, .inl (kA 0, 6, .inl (fun _ => 0))), (q17, .inr (9, [.ref tnodes_21, .ref tpasses_23, .ref tjars_25, .ref torders_27, .ref tfeasts_29, .ref tway_31, .int (-1), .int 0, .int 0, .int 0])), (tnodes_21, .inr (6, [.int 4, .ref tnodesA_22, .int 0])), (tnodesA_22, .inl (kA 0, 48, .inl (fun _ => 0))), (tpasses_23, .inr (6, [.int 5, .ref tpassesA_24, .int 0])), (tpassesA_24, .inl (kA 0, 100, .inl (fun _ => 0))), (tjars_25, .inr (6, [.int 9, .ref tjarsA_26, .int 0])), (tjarsA_26, .inl (kA 0, 144, .inl (fun _ => 0))), (torders_27, .inr (6, [.int 4, .ref tordersA_28, .int 0])), (tordersA_28, .inl (kA 0, 24, .inl (fun _ => 0))), (tfeasts_29, .inr (6, [.int 3, .ref tfeastsA_30, .int 0])), (tfeastsA_30, .inl (kA 0, 24, .inl (fun _ => 0))), (tway_31, .inr (6, [.int 1, .ref twayA_32, .int 0])), (twayA_32, .inl (kA 0, 6, .inl (fun _ => 0))), (q33, .inl (kA 4, 4, .inr (.inr (.inr (.inr (fun _ => none)))))), (q34, .inl (kA 0, 400, .inl (fun _ => 0))), (q35, .inl (kA 5, 6, .inr (.inr (.inr (.inr (fun _ => none)))))), (q36, .inr (2, [.ref tk_40, .ref pl_41, .int 0, .int 0, .int 0, .int 0, .int 0, .ref rl_42])), (tk_40, .inl (kA 0, 401, .inl (fun _ => 0))), (pl_41, .inl (kA 0, 401, .inl (fun _ => 0)))] := hD
  refine va_putF (D := (dC, dI)) (ci := 10) (v := .ref q47) (ty := .object "SnowMules$Trip") (C := RX10) (T := TX10) (N := 13) hx hb hts iX10_init_X10 tyX10 tyX10_ok nmX10 hown hK.1 hP hD hS 0 rfl rfl 9 (by decide) (kX10_init_25 hts) (fun _ h9 => h9) rfl hin rfl (by decide +kernel) rfl rfl (Nat.le_of_ble_eq_true rfl) dX10_init_86 (fun H locs hP hD hS => ?_)
  have hP : va_P (dC, dI) vwCl [(x0, .inr (10, [.ref q1, .ref q17, .ref q33, .ref q34, .int 0, .ref q35, .int 0, .ref q36, .ref q43, .ref q47, .null, .null, .null])), (q1, .inr (9, [.ref tnodes_5, .ref tpasses_7, .ref tjars_9, .ref torders_11, .ref tfeasts_13, .ref tway_15, .int (-1), .int 0, .int 0, .int 0])), (tnodes_5, .inr (6, [.int 4, .ref tnodesA_6, .int 0])), (tnodesA_6, .inl (kA 0, 48, .inl (fun _ => 0))), (tpasses_7, .inr (6, [.int 5, .ref tpassesA_8, .int 0])), (tpassesA_8, .inl (kA 0, 100, .inl (fun _ => 0))), (tjars_9, .inr (6, [.int 9, .ref tjarsA_10, .int 0])), (tjarsA_10, .inl (kA 0, 144, .inl (fun _ => 0))), (torders_11, .inr (6, [.int 4, .ref tordersA_12, .int 0])), (tordersA_12, .inl (kA 0, 24, .inl (fun _ => 0))), (tfeasts_13, .inr (6, [.int 3, .ref tfeastsA_14, .int 0])), (tfeastsA_14, .inl (kA 0, 24, .inl (fun _ => 0))), (tway_15, .inr (6, [.int 1, .ref twayA_16, .int 0])), (twayA_16, .inl (kA 0, 6, .inl (fun _ => 0))), (q17, .inr (9, [.ref tnodes_21, .ref tpasses_23, .ref tjars_25, .ref torders_27, .ref tfeasts_29, .ref tway_31, .int (-1), .int 0, .int 0, .int 0])), (tnodes_21, .inr (6, [.int 4, .ref tnodesA_22, .int 0])), (tnodesA_22, .inl (kA 0, 48, .inl (fun _ => 0))), (tpasses_23, .inr (6, [.int 5, .ref tpassesA_24, .int 0])), (tpassesA_24, .inl (kA 0, 100, .inl (fun _ => 0))), (tjars_25, .inr (6, [.int 9, .ref tjarsA_26, .int 0])), (tjarsA_26, .inl (kA 0, 144, .inl (fun _ => 0))), (torders_27, .inr (6, [.int 4, .ref tordersA_28, .int 0])), (tordersA_28, .inl (kA 0, 24, .inl (fun _ => 0))), (tfeasts_29, .inr (6, [.int 3, .ref tfeastsA_30, .int 0])), (tfeastsA_30, .inl (kA 0, 24, .inl (fun _ => 0))), (tway_31, .inr (6, [.int 1, .ref twayA_32, .int 0])), (twayA_32, .inl (kA 0, 6, .inl (fun _ => 0))), (q33, .inl (kA 4, 4, .inr (.inr (.inr (.inr (fun _ => none)))))), (q34, .inl (kA 0, 400, .inl (fun _ => 0))), (q35, .inl (kA 5, 6, .inr (.inr (.inr (.inr (fun _ => none)))))), (q36, .inr (2, [.ref tk_40, .ref pl_41, .int 0, .int 0, .int 0, .int 0, .int 0, .ref rl_42])), (tk_40, .inl (kA 0, 401, .inl (fun _ => 0))), (pl_41, .inl (kA 0, 401, .inl (fun _ => 0)))] H := hP
  have hD : va_D A [(x0, .inr (10, [.ref q1, .ref q17, .ref q33, .ref q34, .int 0, .ref q35, .int 0, .ref q36, .ref q43, .ref q47, .null, .null, .null])), (q1, .inr (9, [.ref tnodes_5, .ref tpasses_7, .ref tjars_9, .ref torders_11, .ref tfeasts_13, .ref tway_15, .int (-1), .int 0, .int 0, .int 0])), (tnodes_5, .inr (6, [.int 4, .ref tnodesA_6, .int 0])), (tnodesA_6, .inl (kA 0, 48, .inl (fun _ => 0))), (tpasses_7, .inr (6, [.int 5, .ref tpassesA_8, .int 0])), (tpassesA_8, .inl (kA 0, 100, .inl (fun _ => 0))), (tjars_9, .inr (6, [.int 9, .ref tjarsA_10, .int 0])), (tjarsA_10, .inl (kA 0, 144, .inl (fun _ => 0))), (torders_11, .inr (6, [.int 4, .ref tordersA_12, .int 0])), (tordersA_12, .inl (kA 0, 24, .inl (fun _ => 0))), (tfeasts_13, .inr (6, [.int 3, .ref tfeastsA_14, .int 0])), (tfeastsA_14, .inl (kA 0, 24, .inl (fun _ => 0))), (tway_15, .inr (6, [.int 1, .ref twayA_16, .int 0])), (twayA_16, .inl (kA 0, 6, .inl (fun _ => 0))), (q17, .inr (9, [.ref tnodes_21, .ref tpasses_23, .ref tjars_25, .ref torders_27, .ref tfeasts_29, .ref tway_31, .int (-1), .int 0, .int 0, .int 0])), (tnodes_21, .inr (6, [.int 4, .ref tnodesA_22, .int 0])), (tnodesA_22, .inl (kA 0, 48, .inl (fun _ => 0))), (tpasses_23, .inr (6, [.int 5, .ref tpassesA_24, .int 0])), (tpassesA_24, .inl (kA 0, 100, .inl (fun _ => 0))), (tjars_25, .inr (6, [.int 9, .ref tjarsA_26, .int 0])), (tjarsA_26, .inl (kA 0, 144, .inl (fun _ => 0))), (torders_27, .inr (6, [.int 4, .ref tordersA_28, .int 0])), (tordersA_28, .inl (kA 0, 24, .inl (fun _ => 0))), (tfeasts_29, .inr (6, [.int 3, .ref tfeastsA_30, .int 0])), (tfeastsA_30, .inl (kA 0, 24, .inl (fun _ => 0))), (tway_31, .inr (6, [.int 1, .ref twayA_32, .int 0])), (twayA_32, .inl (kA 0, 6, .inl (fun _ => 0))), (q33, .inl (kA 4, 4, .inr (.inr (.inr (.inr (fun _ => none)))))), (q34, .inl (kA 0, 400, .inl (fun _ => 0))), (q35, .inl (kA 5, 6, .inr (.inr (.inr (.inr (fun _ => none)))))), (q36, .inr (2, [.ref tk_40, .ref pl_41, .int 0, .int 0, .int 0, .int 0, .int 0, .ref rl_42])), (tk_40, .inl (kA 0, 401, .inl (fun _ => 0))), (pl_41, .inl (kA 0, 401, .inl (fun _ => 0)))] := hD
  refine lv_aload_n hx hb dX10_init_89 rfl (lv_at hl 0 rfl) ?_
  refine va_new (ci := 5) (fs := [.int 0, .int 0, .int 0, .int 0, .int 0, .int 0, .int 0, .int 0, .null, .null, .null, .null, .null]) (C := RX5) (T := TX5) (N := 13) hx hb hts iX10_init_X5 tyX5 tyX5_ok hown (kX10_init_26 hts) (kX10_init_27 hts) (kX10_init_28 hts) hK.1 hP hD hS hA rfl fsX5 (Nat.le_of_ble_eq_true rfl) (Nat.le_of_ble_eq_true rfl) dX10_init_90 (fun q51 H hP hD hS => ?_)
  refine W.widen (k := 65) (n := 3087) (Nat.le_of_ble_eq_true rfl) (Nat.le_of_ble_eq_true rfl) ?_
  have hP : va_P (dC, dI) vwCl [(x0, .inr (10, [.ref q1, .ref q17, .ref q33, .ref q34, .int 0, .ref q35, .int 0, .ref q36, .ref q43, .ref q47, .null, .null, .null])), (q1, .inr (9, [.ref tnodes_5, .ref tpasses_7, .ref tjars_9, .ref torders_11, .ref tfeasts_13, .ref tway_15, .int (-1), .int 0, .int 0, .int 0])), (tnodes_5, .inr (6, [.int 4, .ref tnodesA_6, .int 0])), (tnodesA_6, .inl (kA 0, 48, .inl (fun _ => 0))), (tpasses_7, .inr (6, [.int 5, .ref tpassesA_8, .int 0])), (tpassesA_8, .inl (kA 0, 100, .inl (fun _ => 0))), (tjars_9, .inr (6, [.int 9, .ref tjarsA_10, .int 0])), (tjarsA_10, .inl (kA 0, 144, .inl (fun _ => 0))), (torders_11, .inr (6, [.int 4, .ref tordersA_12, .int 0])), (tordersA_12, .inl (kA 0, 24, .inl (fun _ => 0))), (tfeasts_13, .inr (6, [.int 3, .ref tfeastsA_14, .int 0])), (tfeastsA_14, .inl (kA 0, 24, .inl (fun _ => 0))), (tway_15, .inr (6, [.int 1, .ref twayA_16, .int 0])), (twayA_16, .inl (kA 0, 6, .inl (fun _ => 0))), (q17, .inr (9, [.ref tnodes_21, .ref tpasses_23, .ref tjars_25, .ref torders_27, .ref tfeasts_29, .ref tway_31, .int (-1), .int 0, .int 0, .int 0])), (tnodes_21, .inr (6, [.int 4, .ref tnodesA_22, .int 0])), (tnodesA_22, .inl (kA 0, 48, .inl (fun _ => 0))), (tpasses_23, .inr (6, [.int 5, .ref tpassesA_24, .int 0])), (tpassesA_24, .inl (kA 0, 100, .inl (fun _ => 0))), (tjars_25, .inr (6, [.int 9, .ref tjarsA_26, .int 0])), (tjarsA_26, .inl (kA 0, 144, .inl (fun _ => 0))), (torders_27, .inr (6, [.int 4, .ref tordersA_28, .int 0])), (tordersA_28, .inl (kA 0, 24, .inl (fun _ => 0))), (tfeasts_29, .inr (6, [.int 3, .ref tfeastsA_30, .int 0])), (tfeastsA_30, .inl (kA 0, 24, .inl (fun _ => 0))), (tway_31, .inr (6, [.int 1, .ref twayA_32, .int 0])), (twayA_32, .inl (kA 0, 6, .inl (fun _ => 0))), (q33, .inl (kA 4, 4, .inr (.inr (.inr (.inr (fun _ => none)))))), (q34, .inl (kA 0, 400, .inl (fun _ => 0))), (q35, .inl (kA 5, 6, .inr (.inr (.inr (.inr (fun _ => none)))))), (q36, .inr (2, [.ref tk_40, .ref pl_41, .int 0, .int 0, .int 0, .int 0, .int 0, .ref rl_42])), (tk_40, .inl (kA 0, 401, .inl (fun _ => 0))), (pl_41, .inl (kA 0, 401, .inl (fun _ => 0))), (q51, .inr (5, [.int 0, .int 0, .int 0, .int 0, .int 0, .int 0, .int 0, .int 0, .null, .null, .null, .null, .null]))] H := hP
  have hD : va_D A [(x0, .inr (10, [.ref q1, .ref q17, .ref q33, .ref q34, .int 0, .ref q35, .int 0, .ref q36, .ref q43, .ref q47, .null, .null, .null])), (q1, .inr (9, [.ref tnodes_5, .ref tpasses_7, .ref tjars_9, .ref torders_11, .ref tfeasts_13, .ref tway_15, .int (-1), .int 0, .int 0, .int 0])), (tnodes_5, .inr (6, [.int 4, .ref tnodesA_6, .int 0])), (tnodesA_6, .inl (kA 0, 48, .inl (fun _ => 0))), (tpasses_7, .inr (6, [.int 5, .ref tpassesA_8, .int 0])), (tpassesA_8, .inl (kA 0, 100, .inl (fun _ => 0))), (tjars_9, .inr (6, [.int 9, .ref tjarsA_10, .int 0])), (tjarsA_10, .inl (kA 0, 144, .inl (fun _ => 0))), (torders_11, .inr (6, [.int 4, .ref tordersA_12, .int 0])), (tordersA_12, .inl (kA 0, 24, .inl (fun _ => 0))), (tfeasts_13, .inr (6, [.int 3, .ref tfeastsA_14, .int 0])), (tfeastsA_14, .inl (kA 0, 24, .inl (fun _ => 0))), (tway_15, .inr (6, [.int 1, .ref twayA_16, .int 0])), (twayA_16, .inl (kA 0, 6, .inl (fun _ => 0))), (q17, .inr (9, [.ref tnodes_21, .ref tpasses_23, .ref tjars_25, .ref torders_27, .ref tfeasts_29, .ref tway_31, .int (-1), .int 0, .int 0, .int 0])), (tnodes_21, .inr (6, [.int 4, .ref tnodesA_22, .int 0])), (tnodesA_22, .inl (kA 0, 48, .inl (fun _ => 0))), (tpasses_23, .inr (6, [.int 5, .ref tpassesA_24, .int 0])), (tpassesA_24, .inl (kA 0, 100, .inl (fun _ => 0))), (tjars_25, .inr (6, [.int 9, .ref tjarsA_26, .int 0])), (tjarsA_26, .inl (kA 0, 144, .inl (fun _ => 0))), (torders_27, .inr (6, [.int 4, .ref tordersA_28, .int 0])), (tordersA_28, .inl (kA 0, 24, .inl (fun _ => 0))), (tfeasts_29, .inr (6, [.int 3, .ref tfeastsA_30, .int 0])), (tfeastsA_30, .inl (kA 0, 24, .inl (fun _ => 0))), (tway_31, .inr (6, [.int 1, .ref twayA_32, .int 0])), (twayA_32, .inl (kA 0, 6, .inl (fun _ => 0))), (q33, .inl (kA 4, 4, .inr (.inr (.inr (.inr (fun _ => none)))))), (q34, .inl (kA 0, 400, .inl (fun _ => 0))), (q35, .inl (kA 5, 6, .inr (.inr (.inr (.inr (fun _ => none)))))), (q36, .inr (2, [.ref tk_40, .ref pl_41, .int 0, .int 0, .int 0, .int 0, .int 0, .ref rl_42])), (tk_40, .inl (kA 0, 401, .inl (fun _ => 0))), (pl_41, .inl (kA 0, 401, .inl (fun _ => 0))), (q51, .inr (5, [.int 0, .int 0, .int 0, .int 0, .int 0, .int 0, .int 0, .int 0, .null, .null, .null, .null, .null]))] := hD
  refine lv_dup hx hb dX10_init_93 rfl ?_
  refine lv_aload_n hx hb dX10_init_94 rfl (lv_at hl 0 rfl) ?_
  refine va_get (D := (dC, dI)) (ci := 10) (v := .ref q1) (C := RX10) (T := TX10) (N := 13) hx hb hts iX10_init_X10 hown hK.1 hP 0 rfl rfl 0 (by decide) (kX10_init_7 hts) (fun _ h9 => h9) rfl dX10_init_95 ?_
  refine lv_aload_n hx hb dX10_init_98 rfl (lv_at hl 0 rfl) ?_
  refine va_get (D := (dC, dI)) (ci := 10) (v := .ref q47) (C := RX10) (T := TX10) (N := 13) hx hb hts iX10_init_X10 hown hK.1 hP 0 rfl rfl 9 (by decide) (kX10_init_25 hts) (fun _ h9 => h9) rfl dX10_init_99 ?_
  refine z_v (wr := [(x0, .inr (10, [.ref q1, .ref q17, .ref q33, .ref q34, .int 0, .ref q35, .int 0, .ref q36, .ref q43, .ref q47, .null, .null, .null])), (q1, .inr (9, [.ref tnodes_5, .ref tpasses_7, .ref tjars_9, .ref torders_11, .ref tfeasts_13, .ref tway_15, .int (-1), .int 0, .int 0, .int 0])), (tnodes_5, .inr (6, [.int 4, .ref tnodesA_6, .int 0])), (tnodesA_6, .inl (kA 0, 48, .inl (fun _ => 0))), (tpasses_7, .inr (6, [.int 5, .ref tpassesA_8, .int 0])), (tpassesA_8, .inl (kA 0, 100, .inl (fun _ => 0))), (tjars_9, .inr (6, [.int 9, .ref tjarsA_10, .int 0])), (tjarsA_10, .inl (kA 0, 144, .inl (fun _ => 0))), (torders_11, .inr (6, [.int 4, .ref tordersA_12, .int 0])), (tordersA_12, .inl (kA 0, 24, .inl (fun _ => 0))), (tfeasts_13, .inr (6, [.int 3, .ref tfeastsA_14, .int 0])), (tfeastsA_14, .inl (kA 0, 24, .inl (fun _ => 0))), (tway_15, .inr (6, [.int 1, .ref twayA_16, .int 0])), (twayA_16, .inl (kA 0, 6, .inl (fun _ => 0))), (q17, .inr (9, [.ref tnodes_21, .ref tpasses_23, .ref tjars_25, .ref torders_27, .ref tfeasts_29, .ref tway_31, .int (-1), .int 0, .int 0, .int 0])), (tnodes_21, .inr (6, [.int 4, .ref tnodesA_22, .int 0])), (tnodesA_22, .inl (kA 0, 48, .inl (fun _ => 0))), (tpasses_23, .inr (6, [.int 5, .ref tpassesA_24, .int 0])), (tpassesA_24, .inl (kA 0, 100, .inl (fun _ => 0))), (tjars_25, .inr (6, [.int 9, .ref tjarsA_26, .int 0])), (tjarsA_26, .inl (kA 0, 144, .inl (fun _ => 0))), (torders_27, .inr (6, [.int 4, .ref tordersA_28, .int 0])), (tordersA_28, .inl (kA 0, 24, .inl (fun _ => 0))), (tfeasts_29, .inr (6, [.int 3, .ref tfeastsA_30, .int 0])), (tfeastsA_30, .inl (kA 0, 24, .inl (fun _ => 0))), (tway_31, .inr (6, [.int 1, .ref twayA_32, .int 0])), (twayA_32, .inl (kA 0, 6, .inl (fun _ => 0))), (q33, .inl (kA 4, 4, .inr (.inr (.inr (.inr (fun _ => none)))))), (q34, .inl (kA 0, 400, .inl (fun _ => 0))), (q35, .inl (kA 5, 6, .inr (.inr (.inr (.inr (fun _ => none)))))), (q36, .inr (2, [.ref tk_40, .ref pl_41, .int 0, .int 0, .int 0, .int 0, .int 0, .ref rl_42])), (tk_40, .inl (kA 0, 401, .inl (fun _ => 0))), (pl_41, .inl (kA 0, 401, .inl (fun _ => 0)))]) (va_runI (As := [.ref q1, .ref q47]) (rest := [.ref q51, .ref x0]) ⟨hx, hb, hml, hown, hts⟩ (mX5_init l dC dI kA _ q51 q1 q47) (cwI 2 hts gX10_init_X5_init rfl rfl rfl (kX10_init_28 hts) (kX10_init_105 hts) (kX10_init_106 hts) rfl (by decide +kernel) ⟨(Nat.le_of_ble_eq_true rfl), (Nat.le_of_ble_eq_true rfl)⟩) ⟨zPc.blind, zPre hK (hP.sub [33] rfl) (hD.sub [33] (by decide) rfl)⟩ rfl rfl hl.1 rfl (lv_room (Nat.le_of_ble_eq_true rfl)) dX10_init_102 ⟨(Nat.le_of_ble_eq_true rfl), (Nat.le_of_ble_eq_true rfl)⟩) hP hD hS hA [33] [0, 1, 2, 3, 4, 5, 6, 7, 8, 9, 10, 11, 12, 13, 14, 15, 16, 17, 18, 19, 20, 21, 22, 23, 24, 25, 26, 27, 28, 29, 30, 31, 32] rfl rfl (by decide) (by decide) (fun u52 H locs hw53 hP hD hS => ?_)
  refine W.widen (k := 68) (n := 3111) (Nat.le_of_ble_eq_true rfl) (Nat.le_of_ble_eq_true rfl) ?_
  have hP : va_P (dC, dI) vwCl [(x0, .inr (10, [.ref q1, .ref q17, .ref q33, .ref q34, .int 0, .ref q35, .int 0, .ref q36, .ref q43, .ref q47, .null, .null, .null])), (q1, .inr (9, [.ref tnodes_5, .ref tpasses_7, .ref tjars_9, .ref torders_11, .ref tfeasts_13, .ref tway_15, .int (-1), .int 0, .int 0, .int 0])), (tnodes_5, .inr (6, [.int 4, .ref tnodesA_6, .int 0])), (tnodesA_6, .inl (kA 0, 48, .inl (fun _ => 0))), (tpasses_7, .inr (6, [.int 5, .ref tpassesA_8, .int 0])), (tpassesA_8, .inl (kA 0, 100, .inl (fun _ => 0))), (tjars_9, .inr (6, [.int 9, .ref tjarsA_10, .int 0])), (tjarsA_10, .inl (kA 0, 144, .inl (fun _ => 0))), (torders_11, .inr (6, [.int 4, .ref tordersA_12, .int 0])), (tordersA_12, .inl (kA 0, 24, .inl (fun _ => 0))), (tfeasts_13, .inr (6, [.int 3, .ref tfeastsA_14, .int 0])), (tfeastsA_14, .inl (kA 0, 24, .inl (fun _ => 0))), (tway_15, .inr (6, [.int 1, .ref twayA_16, .int 0])), (twayA_16, .inl (kA 0, 6, .inl (fun _ => 0))), (q17, .inr (9, [.ref tnodes_21, .ref tpasses_23, .ref tjars_25, .ref torders_27, .ref tfeasts_29, .ref tway_31, .int (-1), .int 0, .int 0, .int 0])), (tnodes_21, .inr (6, [.int 4, .ref tnodesA_22, .int 0])), (tnodesA_22, .inl (kA 0, 48, .inl (fun _ => 0))), (tpasses_23, .inr (6, [.int 5, .ref tpassesA_24, .int 0])), (tpassesA_24, .inl (kA 0, 100, .inl (fun _ => 0))), (tjars_25, .inr (6, [.int 9, .ref tjarsA_26, .int 0])), (tjarsA_26, .inl (kA 0, 144, .inl (fun _ => 0))), (torders_27, .inr (6, [.int 4, .ref tordersA_28, .int 0])), (tordersA_28, .inl (kA 0, 24, .inl (fun _ => 0))), (tfeasts_29, .inr (6, [.int 3, .ref tfeastsA_30, .int 0])), (tfeastsA_30, .inl (kA 0, 24, .inl (fun _ => 0))), (tway_31, .inr (6, [.int 1, .ref twayA_32, .int 0])), (twayA_32, .inl (kA 0, 6, .inl (fun _ => 0))), (q33, .inl (kA 4, 4, .inr (.inr (.inr (.inr (fun _ => none)))))), (q34, .inl (kA 0, 400, .inl (fun _ => 0))), (q35, .inl (kA 5, 6, .inr (.inr (.inr (.inr (fun _ => none)))))), (q36, .inr (2, [.ref tk_40, .ref pl_41, .int 0, .int 0, .int 0, .int 0, .int 0, .ref rl_42])), (tk_40, .inl (kA 0, 401, .inl (fun _ => 0))), (pl_41, .inl (kA 0, 401, .inl (fun _ => 0)))] H := hP
  have hD : va_D A [(x0, .inr (10, [.ref q1, .ref q17, .ref q33, .ref q34, .int 0, .ref q35, .int 0, .ref q36, .ref q43, .ref q47, .null, .null, .null])), (q1, .inr (9, [.ref tnodes_5, .ref tpasses_7, .ref tjars_9, .ref torders_11, .ref tfeasts_13, .ref tway_15, .int (-1), .int 0, .int 0, .int 0])), (tnodes_5, .inr (6, [.int 4, .ref tnodesA_6, .int 0])), (tnodesA_6, .inl (kA 0, 48, .inl (fun _ => 0))), (tpasses_7, .inr (6, [.int 5, .ref tpassesA_8, .int 0])), (tpassesA_8, .inl (kA 0, 100, .inl (fun _ => 0))), (tjars_9, .inr (6, [.int 9, .ref tjarsA_10, .int 0])), (tjarsA_10, .inl (kA 0, 144, .inl (fun _ => 0))), (torders_11, .inr (6, [.int 4, .ref tordersA_12, .int 0])), (tordersA_12, .inl (kA 0, 24, .inl (fun _ => 0))), (tfeasts_13, .inr (6, [.int 3, .ref tfeastsA_14, .int 0])), (tfeastsA_14, .inl (kA 0, 24, .inl (fun _ => 0))), (tway_15, .inr (6, [.int 1, .ref twayA_16, .int 0])), (twayA_16, .inl (kA 0, 6, .inl (fun _ => 0))), (q17, .inr (9, [.ref tnodes_21, .ref tpasses_23, .ref tjars_25, .ref torders_27, .ref tfeasts_29, .ref tway_31, .int (-1), .int 0, .int 0, .int 0])), (tnodes_21, .inr (6, [.int 4, .ref tnodesA_22, .int 0])), (tnodesA_22, .inl (kA 0, 48, .inl (fun _ => 0))), (tpasses_23, .inr (6, [.int 5, .ref tpassesA_24, .int 0])), (tpassesA_24, .inl (kA 0, 100, .inl (fun _ => 0))), (tjars_25, .inr (6, [.int 9, .ref tjarsA_26, .int 0])), (tjarsA_26, .inl (kA 0, 144, .inl (fun _ => 0))), (torders_27, .inr (6, [.int 4, .ref tordersA_28, .int 0])), (tordersA_28, .inl (kA 0, 24, .inl (fun _ => 0))), (tfeasts_29, .inr (6, [.int 3, .ref tfeastsA_30, .int 0])), (tfeastsA_30, .inl (kA 0, 24, .inl (fun _ => 0))), (tway_31, .inr (6, [.int 1, .ref twayA_32, .int 0])), (twayA_32, .inl (kA 0, 6, .inl (fun _ => 0))), (q33, .inl (kA 4, 4, .inr (.inr (.inr (.inr (fun _ => none)))))), (q34, .inl (kA 0, 400, .inl (fun _ => 0))), (q35, .inl (kA 5, 6, .inr (.inr (.inr (.inr (fun _ => none)))))), (q36, .inr (2, [.ref tk_40, .ref pl_41, .int 0, .int 0, .int 0, .int 0, .int 0, .ref rl_42])), (tk_40, .inl (kA 0, 401, .inl (fun _ => 0))), (pl_41, .inl (kA 0, 401, .inl (fun _ => 0)))] := hD
  refine va_putF (D := (dC, dI)) (ci := 10) (v := .ref q51) (ty := .object "SnowMules$Search") (C := RX10) (T := TX10) (N := 13) hx hb hts iX10_init_X10 tyX10 tyX10_ok nmX10 hown hK.1 hP hD hS 0 rfl rfl 10 (by decide) (kX10_init_29 hts) (fun _ h9 => h9) rfl hin rfl (by decide +kernel) rfl rfl (Nat.le_of_ble_eq_true rfl) dX10_init_105 (fun H locs hP hD hS => ?_)
  have hP : va_P (dC, dI) vwCl [(x0, .inr (10, [.ref q1, .ref q17, .ref q33, .ref q34, .int 0, .ref q35, .int 0, .ref q36, .ref q43, .ref q47, .ref q51, .null, .null])), (q1, .inr (9, [.ref tnodes_5, .ref tpasses_7, .ref tjars_9, .ref torders_11, .ref tfeasts_13, .ref tway_15, .int (-1), .int 0, .int 0, .int 0])), (tnodes_5, .inr (6, [.int 4, .ref tnodesA_6, .int 0])), (tnodesA_6, .inl (kA 0, 48, .inl (fun _ => 0))), (tpasses_7, .inr (6, [.int 5, .ref tpassesA_8, .int 0])), (tpassesA_8, .inl (kA 0, 100, .inl (fun _ => 0))), (tjars_9, .inr (6, [.int 9, .ref tjarsA_10, .int 0])), (tjarsA_10, .inl (kA 0, 144, .inl (fun _ => 0))), (torders_11, .inr (6, [.int 4, .ref tordersA_12, .int 0])), (tordersA_12, .inl (kA 0, 24, .inl (fun _ => 0))), (tfeasts_13, .inr (6, [.int 3, .ref tfeastsA_14, .int 0])), (tfeastsA_14, .inl (kA 0, 24, .inl (fun _ => 0))), (tway_15, .inr (6, [.int 1, .ref twayA_16, .int 0])), (twayA_16, .inl (kA 0, 6, .inl (fun _ => 0))), (q17, .inr (9, [.ref tnodes_21, .ref tpasses_23, .ref tjars_25, .ref torders_27, .ref tfeasts_29, .ref tway_31, .int (-1), .int 0, .int 0, .int 0])), (tnodes_21, .inr (6, [.int 4, .ref tnodesA_22, .int 0])), (tnodesA_22, .inl (kA 0, 48, .inl (fun _ => 0))), (tpasses_23, .inr (6, [.int 5, .ref tpassesA_24, .int 0])), (tpassesA_24, .inl (kA 0, 100, .inl (fun _ => 0))), (tjars_25, .inr (6, [.int 9, .ref tjarsA_26, .int 0])), (tjarsA_26, .inl (kA 0, 144, .inl (fun _ => 0))), (torders_27, .inr (6, [.int 4, .ref tordersA_28, .int 0])), (tordersA_28, .inl (kA 0, 24, .inl (fun _ => 0))), (tfeasts_29, .inr (6, [.int 3, .ref tfeastsA_30, .int 0])), (tfeastsA_30, .inl (kA 0, 24, .inl (fun _ => 0))), (tway_31, .inr (6, [.int 1, .ref twayA_32, .int 0])), (twayA_32, .inl (kA 0, 6, .inl (fun _ => 0))), (q33, .inl (kA 4, 4, .inr (.inr (.inr (.inr (fun _ => none)))))), (q34, .inl (kA 0, 400, .inl (fun _ => 0))), (q35, .inl (kA 5, 6, .inr (.inr (.inr (.inr (fun _ => none)))))), (q36, .inr (2, [.ref tk_40, .ref pl_41, .int 0, .int 0, .int 0, .int 0, .int 0, .ref rl_42])), (tk_40, .inl (kA 0, 401, .inl (fun _ => 0))), (pl_41, .inl (kA 0, 401, .inl (fun _ => 0)))] H := hP
  have hD : va_D A [(x0, .inr (10, [.ref q1, .ref q17, .ref q33, .ref q34, .int 0, .ref q35, .int 0, .ref q36, .ref q43, .ref q47, .ref q51, .null, .null])), (q1, .inr (9, [.ref tnodes_5, .ref tpasses_7, .ref tjars_9, .ref torders_11, .ref tfeasts_13, .ref tway_15, .int (-1), .int 0, .int 0, .int 0])), (tnodes_5, .inr (6, [.int 4, .ref tnodesA_6, .int 0])), (tnodesA_6, .inl (kA 0, 48, .inl (fun _ => 0))), (tpasses_7, .inr (6, [.int 5, .ref tpassesA_8, .int 0])), (tpassesA_8, .inl (kA 0, 100, .inl (fun _ => 0))), (tjars_9, .inr (6, [.int 9, .ref tjarsA_10, .int 0])), (tjarsA_10, .inl (kA 0, 144, .inl (fun _ => 0))), (torders_11, .inr (6, [.int 4, .ref tordersA_12, .int 0])), (tordersA_12, .inl (kA 0, 24, .inl (fun _ => 0))), (tfeasts_13, .inr (6, [.int 3, .ref tfeastsA_14, .int 0])), (tfeastsA_14, .inl (kA 0, 24, .inl (fun _ => 0))), (tway_15, .inr (6, [.int 1, .ref twayA_16, .int 0])), (twayA_16, .inl (kA 0, 6, .inl (fun _ => 0))), (q17, .inr (9, [.ref tnodes_21, .ref tpasses_23, .ref tjars_25, .ref torders_27, .ref tfeasts_29, .ref tway_31, .int (-1), .int 0, .int 0, .int 0])), (tnodes_21, .inr (6, [.int 4, .ref tnodesA_22, .int 0])), (tnodesA_22, .inl (kA 0, 48, .inl (fun _ => 0))), (tpasses_23, .inr (6, [.int 5, .ref tpassesA_24, .int 0])), (tpassesA_24, .inl (kA 0, 100, .inl (fun _ => 0))), (tjars_25, .inr (6, [.int 9, .ref tjarsA_26, .int 0])), (tjarsA_26, .inl (kA 0, 144, .inl (fun _ => 0))), (torders_27, .inr (6, [.int 4, .ref tordersA_28, .int 0])), (tordersA_28, .inl (kA 0, 24, .inl (fun _ => 0))), (tfeasts_29, .inr (6, [.int 3, .ref tfeastsA_30, .int 0])), (tfeastsA_30, .inl (kA 0, 24, .inl (fun _ => 0))), (tway_31, .inr (6, [.int 1, .ref twayA_32, .int 0])), (twayA_32, .inl (kA 0, 6, .inl (fun _ => 0))), (q33, .inl (kA 4, 4, .inr (.inr (.inr (.inr (fun _ => none)))))), (q34, .inl (kA 0, 400, .inl (fun _ => 0))), (q35, .inl (kA 5, 6, .inr (.inr (.inr (.inr (fun _ => none)))))), (q36, .inr (2, [.ref tk_40, .ref pl_41, .int 0, .int 0, .int 0, .int 0, .int 0, .ref rl_42])), (tk_40, .inl (kA 0, 401, .inl (fun _ => 0))), (pl_41, .inl (kA 0, 401, .inl (fun _ => 0)))] := hD
  refine lv_aload_n hx hb dX10_init_108 rfl (lv_at hl 0 rfl) ?_
  refine va_new (ci := 8) (fs := [.int 0, .int 0, .null, .null, .null, .null, .null]) (C := RX8) (T := TX8) (N := 7) hx hb hts iX10_init_X8 tyX8 tyX8_ok hown (kX10_init_30 hts) (kX10_init_31 hts) (kX10_init_32 hts) hK.1 hP hD hS hA rfl fsX8 (Nat.le_of_ble_eq_true rfl) (Nat.le_of_ble_eq_true rfl) dX10_init_109 (fun q55 H hP hD hS => ?_)
  refine W.widen (k := 69) (n := 3118) (Nat.le_of_ble_eq_true rfl) (Nat.le_of_ble_eq_true rfl) ?_
  have hP : va_P (dC, dI) vwCl [(x0, .inr (10, [.ref q1, .ref q17, .ref q33, .ref q34, .int 0, .ref q35, .int 0, .ref q36, .ref q43, .ref q47, .ref q51, .null, .null])), (q1, .inr (9, [.ref tnodes_5, .ref tpasses_7, .ref tjars_9, .ref torders_11, .ref tfeasts_13, .ref tway_15, .int (-1), .int 0, .int 0, .int 0])), (tnodes_5, .inr (6, [.int 4, .ref tnodesA_6, .int 0])), (tnodesA_6, .inl (kA 0, 48, .inl (fun _ => 0))), (tpasses_7, .inr (6, [.int 5, .ref tpassesA_8, .int 0])), (tpassesA_8, .inl (kA 0, 100, .inl (fun _ => 0))), (tjars_9, .inr (6, [.int 9, .ref tjarsA_10, .int 0])), (tjarsA_10, .inl (kA 0, 144, .inl (fun _ => 0))), (torders_11, .inr (6, [.int 4, .ref tordersA_12, .int 0])), (tordersA_12, .inl (kA 0, 24, .inl (fun _ => 0))), (tfeasts_13, .inr (6, [.int 3, .ref tfeastsA_14, .int 0])), (tfeastsA_14, .inl (kA 0, 24, .inl (fun _ => 0))), (tway_15, .inr (6, [.int 1, .ref twayA_16, .int 0])), (twayA_16, .inl (kA 0, 6, .inl (fun _ => 0))), (q17, .inr (9, [.ref tnodes_21, .ref tpasses_23, .ref tjars_25, .ref torders_27, .ref tfeasts_29, .ref tway_31, .int (-1), .int 0, .int 0, .int 0])), (tnodes_21, .inr (6, [.int 4, .ref tnodesA_22, .int 0])), (tnodesA_22, .inl (kA 0, 48, .inl (fun _ => 0))), (tpasses_23, .inr (6, [.int 5, .ref tpassesA_24, .int 0])), (tpassesA_24, .inl (kA 0, 100, .inl (fun _ => 0))), (tjars_25, .inr (6, [.int 9, .ref tjarsA_26, .int 0])), (tjarsA_26, .inl (kA 0, 144, .inl (fun _ => 0))), (torders_27, .inr (6, [.int 4, .ref tordersA_28, .int 0])), (tordersA_28, .inl (kA 0, 24, .inl (fun _ => 0))), (tfeasts_29, .inr (6, [.int 3, .ref tfeastsA_30, .int 0])), (tfeastsA_30, .inl (kA 0, 24, .inl (fun _ => 0))), (tway_31, .inr (6, [.int 1, .ref twayA_32, .int 0])), (twayA_32, .inl (kA 0, 6, .inl (fun _ => 0))), (q33, .inl (kA 4, 4, .inr (.inr (.inr (.inr (fun _ => none)))))), (q34, .inl (kA 0, 400, .inl (fun _ => 0))), (q35, .inl (kA 5, 6, .inr (.inr (.inr (.inr (fun _ => none)))))), (q36, .inr (2, [.ref tk_40, .ref pl_41, .int 0, .int 0, .int 0, .int 0, .int 0, .ref rl_42])), (tk_40, .inl (kA 0, 401, .inl (fun _ => 0))), (pl_41, .inl (kA 0, 401, .inl (fun _ => 0))), (q55, .inr (8, [.int 0, .int 0, .null, .null, .null, .null, .null]))] H := hP
  have hD : va_D A [(x0, .inr (10, [.ref q1, .ref q17, .ref q33, .ref q34, .int 0, .ref q35, .int 0, .ref q36, .ref q43, .ref q47, .ref q51, .null, .null])), (q1, .inr (9, [.ref tnodes_5, .ref tpasses_7, .ref tjars_9, .ref torders_11, .ref tfeasts_13, .ref tway_15, .int (-1), .int 0, .int 0, .int 0])), (tnodes_5, .inr (6, [.int 4, .ref tnodesA_6, .int 0])), (tnodesA_6, .inl (kA 0, 48, .inl (fun _ => 0))), (tpasses_7, .inr (6, [.int 5, .ref tpassesA_8, .int 0])), (tpassesA_8, .inl (kA 0, 100, .inl (fun _ => 0))), (tjars_9, .inr (6, [.int 9, .ref tjarsA_10, .int 0])), (tjarsA_10, .inl (kA 0, 144, .inl (fun _ => 0))), (torders_11, .inr (6, [.int 4, .ref tordersA_12, .int 0])), (tordersA_12, .inl (kA 0, 24, .inl (fun _ => 0))), (tfeasts_13, .inr (6, [.int 3, .ref tfeastsA_14, .int 0])), (tfeastsA_14, .inl (kA 0, 24, .inl (fun _ => 0))), (tway_15, .inr (6, [.int 1, .ref twayA_16, .int 0])), (twayA_16, .inl (kA 0, 6, .inl (fun _ => 0))), (q17, .inr (9, [.ref tnodes_21, .ref tpasses_23, .ref tjars_25, .ref torders_27, .ref tfeasts_29, .ref tway_31, .int (-1), .int 0, .int 0, .int 0])), (tnodes_21, .inr (6, [.int 4, .ref tnodesA_22, .int 0])), (tnodesA_22, .inl (kA 0, 48, .inl (fun _ => 0))), (tpasses_23, .inr (6, [.int 5, .ref tpassesA_24, .int 0])), (tpassesA_24, .inl (kA 0, 100, .inl (fun _ => 0))), (tjars_25, .inr (6, [.int 9, .ref tjarsA_26, .int 0])), (tjarsA_26, .inl (kA 0, 144, .inl (fun _ => 0))), (torders_27, .inr (6, [.int 4, .ref tordersA_28, .int 0])), (tordersA_28, .inl (kA 0, 24, .inl (fun _ => 0))), (tfeasts_29, .inr (6, [.int 3, .ref tfeastsA_30, .int 0])), (tfeastsA_30, .inl (kA 0, 24, .inl (fun _ => 0))), (tway_31, .inr (6, [.int 1, .ref twayA_32, .int 0])), (twayA_32, .inl (kA 0, 6, .inl (fun _ => 0))), (q33, .inl (kA 4, 4, .inr (.inr (.inr (.inr (fun _ => none)))))), (q34, .inl (kA 0, 400, .inl (fun _ => 0))), (q35, .inl (kA 5, 6, .inr (.inr (.inr (.inr (fun _ => none)))))), (q36, .inr (2, [.ref tk_40, .ref pl_41, .int 0, .int 0, .int 0, .int 0, .int 0, .ref rl_42])), (tk_40, .inl (kA 0, 401, .inl (fun _ => 0))), (pl_41, .inl (kA 0, 401, .inl (fun _ => 0))), (q55, .inr (8, [.int 0, .int 0, .null, .null, .null, .null, .null]))] := hD
  refine lv_dup hx hb dX10_init_112 rfl ?_
  refine lv_aload_n hx hb dX10_init_113 rfl (lv_at hl 0 rfl) ?_
  refine va_get (D := (dC, dI)) (ci := 10) (v := .ref q1) (C := RX10) (T := TX10) (N := 13) hx hb hts iX10_init_X10 hown hK.1 hP 0 rfl rfl 0 (by decide) (kX10_init_7 hts) (fun _ h9 => h9) rfl dX10_init_114 ?_
  refine lv_aload_n hx hb dX10_init_117 rfl (lv_at hl 0 rfl) ?_
  refine va_get (D := (dC, dI)) (ci := 10) (v := .ref q47) (C := RX10) (T := TX10) (N := 13) hx hb hts iX10_init_X10 hown hK.1 hP 0 rfl rfl 9 (by decide) (kX10_init_25 hts) (fun _ h9 => h9) rfl dX10_init_118 ?_
  refine z_v (wr := [(x0, .inr (10, [.ref q1, .ref q17, .ref q33, .ref q34, .int 0, .ref q35, .int 0, .ref q36, .ref q43, .ref q47, .ref q51, .null, .null])), (q1, .inr (9, [.ref tnodes_5, .ref tpasses_7, .ref tjars_9, .ref torders_11, .ref tfeasts_13, .ref tway_15, .int (-1), .int 0, .int 0, .int 0])), (tnodes_5, .inr (6, [.int 4, .ref tnodesA_6, .int 0])), (tnodesA_6, .inl (kA 0, 48, .inl (fun _ => 0))), (tpasses_7, .inr (6, [.int 5, .ref tpassesA_8, .int 0])), (tpassesA_8, .inl (kA 0, 100, .inl (fun _ => 0))), (tjars_9, .inr (6, [.int 9, .ref tjarsA_10, .int 0])), (tjarsA_10, .inl (kA 0, 144, .inl (fun _ => 0))), (torders_11, .inr (6, [.int 4, .ref tordersA_12, .int 0])), (tordersA_12, .inl (kA 0, 24, .inl (fun _ => 0))), (tfeasts_13, .inr (6, [.int 3, .ref tfeastsA_14, .int 0])), (tfeastsA_14, .inl (kA 0, 24, .inl (fun _ => 0))), (tway_15, .inr (6, [.int 1, .ref twayA_16, .int 0])), (twayA_16, .inl (kA 0, 6, .inl (fun _ => 0))), (q17, .inr (9, [.ref tnodes_21, .ref tpasses_23, .ref tjars_25, .ref torders_27, .ref tfeasts_29, .ref tway_31, .int (-1), .int 0, .int 0, .int 0])), (tnodes_21, .inr (6, [.int 4, .ref tnodesA_22, .int 0])), (tnodesA_22, .inl (kA 0, 48, .inl (fun _ => 0))), (tpasses_23, .inr (6, [.int 5, .ref tpassesA_24, .int 0])), (tpassesA_24, .inl (kA 0, 100, .inl (fun _ => 0))), (tjars_25, .inr (6, [.int 9, .ref tjarsA_26, .int 0])), (tjarsA_26, .inl (kA 0, 144, .inl (fun _ => 0))), (torders_27, .inr (6, [.int 4, .ref tordersA_28, .int 0])), (tordersA_28, .inl (kA 0, 24, .inl (fun _ => 0))), (tfeasts_29, .inr (6, [.int 3, .ref tfeastsA_30, .int 0])), (tfeastsA_30, .inl (kA 0, 24, .inl (fun _ => 0))), (tway_31, .inr (6, [.int 1, .ref twayA_32, .int 0])), (twayA_32, .inl (kA 0, 6, .inl (fun _ => 0))), (q33, .inl (kA 4, 4, .inr (.inr (.inr (.inr (fun _ => none)))))), (q34, .inl (kA 0, 400, .inl (fun _ => 0))), (q35, .inl (kA 5, 6, .inr (.inr (.inr (.inr (fun _ => none)))))), (q36, .inr (2, [.ref tk_40, .ref pl_41, .int 0, .int 0, .int 0, .int 0, .int 0, .ref rl_42])), (tk_40, .inl (kA 0, 401, .inl (fun _ => 0))), (pl_41, .inl (kA 0, 401, .inl (fun _ => 0)))]) (va_runI (As := [.ref q1, .ref q47]) (rest := [.ref q55, .ref x0]) ⟨hx, hb, hml, hown, hts⟩ (mX8_init l dC dI kA _ q55 q1 q47) (cwI 2 hts gX10_init_X8_init rfl rfl rfl (kX10_init_32 hts) (kX10_init_114 hts) (kX10_init_115 hts) rfl (by decide +kernel) ⟨(Nat.le_of_ble_eq_true rfl), (Nat.le_of_ble_eq_true rfl)⟩) ⟨zPc.blind, zPre hK (hP.sub [33] rfl) (hD.sub [33] (by decide) rfl)⟩ rfl rfl hl.1 rfl (lv_room (Nat.le_of_ble_eq_true rfl)) dX10_init_121 ⟨(Nat.le_of_ble_eq_true rfl), (Nat.le_of_ble_eq_true rfl)⟩) hP hD hS hA [33] [0, 1, 2, 3, 4, 5, 6, 7, 8, 9, 10, 11, 12, 13, 14, 15, 16, 17, 18, 19, 20, 21, 22, 23, 24, 25, 26, 27, 28, 29, 30, 31, 32] rfl rfl (by decide) (by decide) (fun u56 H locs hw57 hP hD hS => ?_)
  refine W.widen (k := 72) (n := 3136) (Nat.le_of_ble_eq_true rfl) (Nat.le_of_ble_eq_true rfl) ?_
  have hP : va_P (dC, dI) vwCl [(x0, .inr (10, [.ref q1, .ref q17, .ref q33, .ref q34, .int 0, .ref q35, .int 0, .ref q36, .ref q43, .ref q47, .ref q51, .null, .null])), (q1, .inr (9, [.ref tnodes_5, .ref tpasses_7, .ref tjars_9, .ref torders_11, .ref tfeasts_13, .ref tway_15, .int (-1), .int 0, .int 0, .int 0])), (tnodes_5, .inr (6, [.int 4, .ref tnodesA_6, .int 0])), (tnodesA_6, .inl (kA 0, 48, .inl (fun _ => 0))), (tpasses_7, .inr (6, [.int 5, .ref tpassesA_8, .int 0])), (tpassesA_8, .inl (kA 0, 100, .inl (fun _ => 0))), (tjars_9, .inr (6, [.int 9, .ref tjarsA_10, .int 0])), (tjarsA_10, .inl (kA 0, 144, .inl (fun _ => 0))), (torders_11, .inr (6, [.int 4, .ref tordersA_12, .int 0])), (tordersA_12, .inl (kA 0, 24, .inl (fun _ => 0))), (tfeasts_13, .inr (6, [.int 3, .ref tfeastsA_14, .int 0])), (tfeastsA_14, .inl (kA 0, 24, .inl (fun _ => 0))), (tway_15, .inr (6, [.int 1, .ref twayA_16, .int 0])), (twayA_16, .inl (kA 0, 6, .inl (fun _ => 0))), (q17, .inr (9, [.ref tnodes_21, .ref tpasses_23, .ref tjars_25, .ref torders_27, .ref tfeasts_29, .ref tway_31, .int (-1), .int 0, .int 0, .int 0])), (tnodes_21, .inr (6, [.int 4, .ref tnodesA_22, .int 0])), (tnodesA_22, .inl (kA 0, 48, .inl (fun _ => 0))), (tpasses_23, .inr (6, [.int 5, .ref tpassesA_24, .int 0])), (tpassesA_24, .inl (kA 0, 100, .inl (fun _ => 0))), (tjars_25, .inr (6, [.int 9, .ref tjarsA_26, .int 0])), (tjarsA_26, .inl (kA 0, 144, .inl (fun _ => 0))), (torders_27, .inr (6, [.int 4, .ref tordersA_28, .int 0])), (tordersA_28, .inl (kA 0, 24, .inl (fun _ => 0))), (tfeasts_29, .inr (6, [.int 3, .ref tfeastsA_30, .int 0])), (tfeastsA_30, .inl (kA 0, 24, .inl (fun _ => 0))), (tway_31, .inr (6, [.int 1, .ref twayA_32, .int 0])), (twayA_32, .inl (kA 0, 6, .inl (fun _ => 0))), (q33, .inl (kA 4, 4, .inr (.inr (.inr (.inr (fun _ => none)))))), (q34, .inl (kA 0, 400, .inl (fun _ => 0))), (q35, .inl (kA 5, 6, .inr (.inr (.inr (.inr (fun _ => none)))))), (q36, .inr (2, [.ref tk_40, .ref pl_41, .int 0, .int 0, .int 0, .int 0, .int 0, .ref rl_42])), (tk_40, .inl (kA 0, 401, .inl (fun _ => 0))), (pl_41, .inl (kA 0, 401, .inl (fun _ => 0)))] H := hP
  have hD : va_D A [(x0, .inr (10, [.ref q1, .ref q17, .ref q33, .ref q34, .int 0, .ref q35, .int 0, .ref q36, .ref q43, .ref q47, .ref q51, .null, .null])), (q1, .inr (9, [.ref tnodes_5, .ref tpasses_7, .ref tjars_9, .ref torders_11, .ref tfeasts_13, .ref tway_15, .int (-1), .int 0, .int 0, .int 0])), (tnodes_5, .inr (6, [.int 4, .ref tnodesA_6, .int 0])), (tnodesA_6, .inl (kA 0, 48, .inl (fun _ => 0))), (tpasses_7, .inr (6, [.int 5, .ref tpassesA_8, .int 0])), (tpassesA_8, .inl (kA 0, 100, .inl (fun _ => 0))), (tjars_9, .inr (6, [.int 9, .ref tjarsA_10, .int 0])), (tjarsA_10, .inl (kA 0, 144, .inl (fun _ => 0))), (torders_11, .inr (6, [.int 4, .ref tordersA_12, .int 0])), (tordersA_12, .inl (kA 0, 24, .inl (fun _ => 0))), (tfeasts_13, .inr (6, [.int 3, .ref tfeastsA_14, .int 0])), (tfeastsA_14, .inl (kA 0, 24, .inl (fun _ => 0))), (tway_15, .inr (6, [.int 1, .ref twayA_16, .int 0])), (twayA_16, .inl (kA 0, 6, .inl (fun _ => 0))), (q17, .inr (9, [.ref tnodes_21, .ref tpasses_23, .ref tjars_25, .ref torders_27, .ref tfeasts_29, .ref tway_31, .int (-1), .int 0, .int 0, .int 0])), (tnodes_21, .inr (6, [.int 4, .ref tnodesA_22, .int 0])), (tnodesA_22, .inl (kA 0, 48, .inl (fun _ => 0))), (tpasses_23, .inr (6, [.int 5, .ref tpassesA_24, .int 0])), (tpassesA_24, .inl (kA 0, 100, .inl (fun _ => 0))), (tjars_25, .inr (6, [.int 9, .ref tjarsA_26, .int 0])), (tjarsA_26, .inl (kA 0, 144, .inl (fun _ => 0))), (torders_27, .inr (6, [.int 4, .ref tordersA_28, .int 0])), (tordersA_28, .inl (kA 0, 24, .inl (fun _ => 0))), (tfeasts_29, .inr (6, [.int 3, .ref tfeastsA_30, .int 0])), (tfeastsA_30, .inl (kA 0, 24, .inl (fun _ => 0))), (tway_31, .inr (6, [.int 1, .ref twayA_32, .int 0])), (twayA_32, .inl (kA 0, 6, .inl (fun _ => 0))), (q33, .inl (kA 4, 4, .inr (.inr (.inr (.inr (fun _ => none)))))), (q34, .inl (kA 0, 400, .inl (fun _ => 0))), (q35, .inl (kA 5, 6, .inr (.inr (.inr (.inr (fun _ => none)))))), (q36, .inr (2, [.ref tk_40, .ref pl_41, .int 0, .int 0, .int 0, .int 0, .int 0, .ref rl_42])), (tk_40, .inl (kA 0, 401, .inl (fun _ => 0))), (pl_41, .inl (kA 0, 401, .inl (fun _ => 0)))] := hD
  refine va_putF (D := (dC, dI)) (ci := 10) (v := .ref q55) (ty := .object "SnowMules$Waits") (C := RX10) (T := TX10) (N := 13) hx hb hts iX10_init_X10 tyX10 tyX10_ok nmX10 hown hK.1 hP hD hS 0 rfl rfl 11 (by decide) (kX10_init_33 hts) (fun _ h9 => h9) rfl hin rfl (by decide +kernel) rfl rfl (Nat.le_of_ble_eq_true rfl) dX10_init_124 (fun H locs hP hD hS => ?_)
  have hP : va_P (dC, dI) vwCl [(x0, .inr (10, [.ref q1, .ref q17, .ref q33, .ref q34, .int 0, .ref q35, .int 0, .ref q36, .ref q43, .ref q47, .ref q51, .ref q55, .null])), (q1, .inr (9, [.ref tnodes_5, .ref tpasses_7, .ref tjars_9, .ref torders_11, .ref tfeasts_13, .ref tway_15, .int (-1), .int 0, .int 0, .int 0])), (tnodes_5, .inr (6, [.int 4, .ref tnodesA_6, .int 0])), (tnodesA_6, .inl (kA 0, 48, .inl (fun _ => 0))), (tpasses_7, .inr (6, [.int 5, .ref tpassesA_8, .int 0])), (tpassesA_8, .inl (kA 0, 100, .inl (fun _ => 0))), (tjars_9, .inr (6, [.int 9, .ref tjarsA_10, .int 0])), (tjarsA_10, .inl (kA 0, 144, .inl (fun _ => 0))), (torders_11, .inr (6, [.int 4, .ref tordersA_12, .int 0])), (tordersA_12, .inl (kA 0, 24, .inl (fun _ => 0))), (tfeasts_13, .inr (6, [.int 3, .ref tfeastsA_14, .int 0])), (tfeastsA_14, .inl (kA 0, 24, .inl (fun _ => 0))), (tway_15, .inr (6, [.int 1, .ref twayA_16, .int 0])), (twayA_16, .inl (kA 0, 6, .inl (fun _ => 0))), (q17, .inr (9, [.ref tnodes_21, .ref tpasses_23, .ref tjars_25, .ref torders_27, .ref tfeasts_29, .ref tway_31, .int (-1), .int 0, .int 0, .int 0])), (tnodes_21, .inr (6, [.int 4, .ref tnodesA_22, .int 0])), (tnodesA_22, .inl (kA 0, 48, .inl (fun _ => 0))), (tpasses_23, .inr (6, [.int 5, .ref tpassesA_24, .int 0])), (tpassesA_24, .inl (kA 0, 100, .inl (fun _ => 0))), (tjars_25, .inr (6, [.int 9, .ref tjarsA_26, .int 0])), (tjarsA_26, .inl (kA 0, 144, .inl (fun _ => 0))), (torders_27, .inr (6, [.int 4, .ref tordersA_28, .int 0])), (tordersA_28, .inl (kA 0, 24, .inl (fun _ => 0))), (tfeasts_29, .inr (6, [.int 3, .ref tfeastsA_30, .int 0])), (tfeastsA_30, .inl (kA 0, 24, .inl (fun _ => 0))), (tway_31, .inr (6, [.int 1, .ref twayA_32, .int 0])), (twayA_32, .inl (kA 0, 6, .inl (fun _ => 0))), (q33, .inl (kA 4, 4, .inr (.inr (.inr (.inr (fun _ => none)))))), (q34, .inl (kA 0, 400, .inl (fun _ => 0))), (q35, .inl (kA 5, 6, .inr (.inr (.inr (.inr (fun _ => none)))))), (q36, .inr (2, [.ref tk_40, .ref pl_41, .int 0, .int 0, .int 0, .int 0, .int 0, .ref rl_42])), (tk_40, .inl (kA 0, 401, .inl (fun _ => 0))), (pl_41, .inl (kA 0, 401, .inl (fun _ => 0)))] H := hP
  have hD : va_D A [(x0, .inr (10, [.ref q1, .ref q17, .ref q33, .ref q34, .int 0, .ref q35, .int 0, .ref q36, .ref q43, .ref q47, .ref q51, .ref q55, .null])), (q1, .inr (9, [.ref tnodes_5, .ref tpasses_7, .ref tjars_9, .ref torders_11, .ref tfeasts_13, .ref tway_15, .int (-1), .int 0, .int 0, .int 0])), (tnodes_5, .inr (6, [.int 4, .ref tnodesA_6, .int 0])), (tnodesA_6, .inl (kA 0, 48, .inl (fun _ => 0))), (tpasses_7, .inr (6, [.int 5, .ref tpassesA_8, .int 0])), (tpassesA_8, .inl (kA 0, 100, .inl (fun _ => 0))), (tjars_9, .inr (6, [.int 9, .ref tjarsA_10, .int 0])), (tjarsA_10, .inl (kA 0, 144, .inl (fun _ => 0))), (torders_11, .inr (6, [.int 4, .ref tordersA_12, .int 0])), (tordersA_12, .inl (kA 0, 24, .inl (fun _ => 0))), (tfeasts_13, .inr (6, [.int 3, .ref tfeastsA_14, .int 0])), (tfeastsA_14, .inl (kA 0, 24, .inl (fun _ => 0))), (tway_15, .inr (6, [.int 1, .ref twayA_16, .int 0])), (twayA_16, .inl (kA 0, 6, .inl (fun _ => 0))), (q17, .inr (9, [.ref tnodes_21, .ref tpasses_23, .ref tjars_25, .ref torders_27, .ref tfeasts_29, .ref tway_31, .int (-1), .int 0, .int 0, .int 0])), (tnodes_21, .inr (6, [.int 4, .ref tnodesA_22, .int 0])), (tnodesA_22, .inl (kA 0, 48, .inl (fun _ => 0))), (tpasses_23, .inr (6, [.int 5, .ref tpassesA_24, .int 0])), (tpassesA_24, .inl (kA 0, 100, .inl (fun _ => 0))), (tjars_25, .inr (6, [.int 9, .ref tjarsA_26, .int 0])), (tjarsA_26, .inl (kA 0, 144, .inl (fun _ => 0))), (torders_27, .inr (6, [.int 4, .ref tordersA_28, .int 0])), (tordersA_28, .inl (kA 0, 24, .inl (fun _ => 0))), (tfeasts_29, .inr (6, [.int 3, .ref tfeastsA_30, .int 0])), (tfeastsA_30, .inl (kA 0, 24, .inl (fun _ => 0))), (tway_31, .inr (6, [.int 1, .ref twayA_32, .int 0])), (twayA_32, .inl (kA 0, 6, .inl (fun _ => 0))), (q33, .inl (kA 4, 4, .inr (.inr (.inr (.inr (fun _ => none)))))), (q34, .inl (kA 0, 400, .inl (fun _ => 0))), (q35, .inl (kA 5, 6, .inr (.inr (.inr (.inr (fun _ => none)))))), (q36, .inr (2, [.ref tk_40, .ref pl_41, .int 0, .int 0, .int 0, .int 0, .int 0, .ref rl_42])), (tk_40, .inl (kA 0, 401, .inl (fun _ => 0))), (pl_41, .inl (kA 0, 401, .inl (fun _ => 0)))] := hD
  refine lv_aload_n hx hb dX10_init_127 rfl (lv_at hl 0 rfl) ?_
  refine va_new (ci := 3) (fs := [.int 0, .null, .null, .null]) (C := RX3) (T := TX3) (N := 4) hx hb hts iX10_init_X3 tyX3 tyX3_ok hown (kX10_init_34 hts) (kX10_init_35 hts) (kX10_init_36 hts) hK.1 hP hD hS hA rfl fsX3 (Nat.le_of_ble_eq_true rfl) (Nat.le_of_ble_eq_true rfl) dX10_init_128 (fun q59 H hP hD hS => ?_)
  refine W.widen (k := 73) (n := 3140) (Nat.le_of_ble_eq_true rfl) (Nat.le_of_ble_eq_true rfl) ?_
  have hP : va_P (dC, dI) vwCl [(x0, .inr (10, [.ref q1, .ref q17, .ref q33, .ref q34, .int 0, .ref q35, .int 0, .ref q36, .ref q43, .ref q47, .ref q51, .ref q55, .null])), (q1, .inr (9, [.ref tnodes_5, .ref tpasses_7, .ref tjars_9, .ref torders_11, .ref tfeasts_13, .ref tway_15, .int (-1), .int 0, .int 0, .int 0])), (tnodes_5, .inr (6, [.int 4, .ref tnodesA_6, .int 0])), (tnodesA_6, .inl (kA 0, 48, .inl (fun _ => 0))), (tpasses_7, .inr (6, [.int 5, .ref tpassesA_8, .int 0])), (tpassesA_8, .inl (kA 0, 100, .inl (fun _ => 0))), (tjars_9, .inr (6, [.int 9, .ref tjarsA_10, .int 0])), (tjarsA_10, .inl (kA 0, 144, .inl (fun _ => 0))), (torders_11, .inr (6, [.int 4, .ref tordersA_12, .int 0])), (tordersA_12, .inl (kA 0, 24, .inl (fun _ => 0))), (tfeasts_13, .inr (6, [.int 3, .ref tfeastsA_14, .int 0])), (tfeastsA_14, .inl (kA 0, 24, .inl (fun _ => 0))), (tway_15, .inr (6, [.int 1, .ref twayA_16, .int 0])), (twayA_16, .inl (kA 0, 6, .inl (fun _ => 0))), (q17, .inr (9, [.ref tnodes_21, .ref tpasses_23, .ref tjars_25, .ref torders_27, .ref tfeasts_29, .ref tway_31, .int (-1), .int 0, .int 0, .int 0])), (tnodes_21, .inr (6, [.int 4, .ref tnodesA_22, .int 0])), (tnodesA_22, .inl (kA 0, 48, .inl (fun _ => 0))), (tpasses_23, .inr (6, [.int 5, .ref tpassesA_24, .int 0])), (tpassesA_24, .inl (kA 0, 100, .inl (fun _ => 0))), (tjars_25, .inr (6, [.int 9, .ref tjarsA_26, .int 0])), (tjarsA_26, .inl (kA 0, 144, .inl (fun _ => 0))), (torders_27, .inr (6, [.int 4, .ref tordersA_28, .int 0])), (tordersA_28, .inl (kA 0, 24, .inl (fun _ => 0))), (tfeasts_29, .inr (6, [.int 3, .ref tfeastsA_30, .int 0])), (tfeastsA_30, .inl (kA 0, 24, .inl (fun _ => 0))), (tway_31, .inr (6, [.int 1, .ref twayA_32, .int 0])), (twayA_32, .inl (kA 0, 6, .inl (fun _ => 0))), (q33, .inl (kA 4, 4, .inr (.inr (.inr (.inr (fun _ => none)))))), (q34, .inl (kA 0, 400, .inl (fun _ => 0))), (q35, .inl (kA 5, 6, .inr (.inr (.inr (.inr (fun _ => none)))))), (q36, .inr (2, [.ref tk_40, .ref pl_41, .int 0, .int 0, .int 0, .int 0, .int 0, .ref rl_42])), (tk_40, .inl (kA 0, 401, .inl (fun _ => 0))), (pl_41, .inl (kA 0, 401, .inl (fun _ => 0))), (q59, .inr (3, [.int 0, .null, .null, .null]))] H := hP
  have hD : va_D A [(x0, .inr (10, [.ref q1, .ref q17, .ref q33, .ref q34, .int 0, .ref q35, .int 0, .ref q36, .ref q43, .ref q47, .ref q51, .ref q55, .null])), (q1, .inr (9, [.ref tnodes_5, .ref tpasses_7, .ref tjars_9, .ref torders_11, .ref tfeasts_13, .ref tway_15, .int (-1), .int 0, .int 0, .int 0])), (tnodes_5, .inr (6, [.int 4, .ref tnodesA_6, .int 0])), (tnodesA_6, .inl (kA 0, 48, .inl (fun _ => 0))), (tpasses_7, .inr (6, [.int 5, .ref tpassesA_8, .int 0])), (tpassesA_8, .inl (kA 0, 100, .inl (fun _ => 0))), (tjars_9, .inr (6, [.int 9, .ref tjarsA_10, .int 0])), (tjarsA_10, .inl (kA 0, 144, .inl (fun _ => 0))), (torders_11, .inr (6, [.int 4, .ref tordersA_12, .int 0])), (tordersA_12, .inl (kA 0, 24, .inl (fun _ => 0))), (tfeasts_13, .inr (6, [.int 3, .ref tfeastsA_14, .int 0])), (tfeastsA_14, .inl (kA 0, 24, .inl (fun _ => 0))), (tway_15, .inr (6, [.int 1, .ref twayA_16, .int 0])), (twayA_16, .inl (kA 0, 6, .inl (fun _ => 0))), (q17, .inr (9, [.ref tnodes_21, .ref tpasses_23, .ref tjars_25, .ref torders_27, .ref tfeasts_29, .ref tway_31, .int (-1), .int 0, .int 0, .int 0])), (tnodes_21, .inr (6, [.int 4, .ref tnodesA_22, .int 0])), (tnodesA_22, .inl (kA 0, 48, .inl (fun _ => 0))), (tpasses_23, .inr (6, [.int 5, .ref tpassesA_24, .int 0])), (tpassesA_24, .inl (kA 0, 100, .inl (fun _ => 0))), (tjars_25, .inr (6, [.int 9, .ref tjarsA_26, .int 0])), (tjarsA_26, .inl (kA 0, 144, .inl (fun _ => 0))), (torders_27, .inr (6, [.int 4, .ref tordersA_28, .int 0])), (tordersA_28, .inl (kA 0, 24, .inl (fun _ => 0))), (tfeasts_29, .inr (6, [.int 3, .ref tfeastsA_30, .int 0])), (tfeastsA_30, .inl (kA 0, 24, .inl (fun _ => 0))), (tway_31, .inr (6, [.int 1, .ref twayA_32, .int 0])), (twayA_32, .inl (kA 0, 6, .inl (fun _ => 0))), (q33, .inl (kA 4, 4, .inr (.inr (.inr (.inr (fun _ => none)))))), (q34, .inl (kA 0, 400, .inl (fun _ => 0))), (q35, .inl (kA 5, 6, .inr (.inr (.inr (.inr (fun _ => none)))))), (q36, .inr (2, [.ref tk_40, .ref pl_41, .int 0, .int 0, .int 0, .int 0, .int 0, .ref rl_42])), (tk_40, .inl (kA 0, 401, .inl (fun _ => 0))), (pl_41, .inl (kA 0, 401, .inl (fun _ => 0))), (q59, .inr (3, [.int 0, .null, .null, .null]))] := hD
  refine lv_dup hx hb dX10_init_131 rfl ?_
  refine lv_aload_n hx hb dX10_init_132 rfl (lv_at hl 0 rfl) ?_
  refine va_get (D := (dC, dI)) (ci := 10) (v := .ref q1) (C := RX10) (T := TX10) (N := 13) hx hb hts iX10_init_X10 hown hK.1 hP 0 rfl rfl 0 (by decide) (kX10_init_7 hts) (fun _ h9 => h9) rfl dX10_init_133 ?_
  refine z_v (wr := [(x0, .inr (10, [.ref q1, .ref q17, .ref q33, .ref q34, .int 0, .ref q35, .int 0, .ref q36, .ref q43, .ref q47, .ref q51, .ref q55, .null])), (q1, .inr (9, [.ref tnodes_5, .ref tpasses_7, .ref tjars_9, .ref torders_11, .ref tfeasts_13, .ref tway_15, .int (-1), .int 0, .int 0, .int 0])), (tnodes_5, .inr (6, [.int 4, .ref tnodesA_6, .int 0])), (tnodesA_6, .inl (kA 0, 48, .inl (fun _ => 0))), (tpasses_7, .inr (6, [.int 5, .ref tpassesA_8, .int 0])), (tpassesA_8, .inl (kA 0, 100, .inl (fun _ => 0))), (tjars_9, .inr (6, [.int 9, .ref tjarsA_10, .int 0])), (tjarsA_10, .inl (kA 0, 144, .inl (fun _ => 0))), (torders_11, .inr (6, [.int 4, .ref tordersA_12, .int 0])), (tordersA_12, .inl (kA 0, 24, .inl (fun _ => 0))), (tfeasts_13, .inr (6, [.int 3, .ref tfeastsA_14, .int 0])), (tfeastsA_14, .inl (kA 0, 24, .inl (fun _ => 0))), (tway_15, .inr (6, [.int 1, .ref twayA_16, .int 0])), (twayA_16, .inl (kA 0, 6, .inl (fun _ => 0))), (q17, .inr (9, [.ref tnodes_21, .ref tpasses_23, .ref tjars_25, .ref torders_27, .ref tfeasts_29, .ref tway_31, .int (-1), .int 0, .int 0, .int 0])), (tnodes_21, .inr (6, [.int 4, .ref tnodesA_22, .int 0])), (tnodesA_22, .inl (kA 0, 48, .inl (fun _ => 0))), (tpasses_23, .inr (6, [.int 5, .ref tpassesA_24, .int 0])), (tpassesA_24, .inl (kA 0, 100, .inl (fun _ => 0))), (tjars_25, .inr (6, [.int 9, .ref tjarsA_26, .int 0])), (tjarsA_26, .inl (kA 0, 144, .inl (fun _ => 0))), (torders_27, .inr (6, [.int 4, .ref tordersA_28, .int 0])), (tordersA_28, .inl (kA 0, 24, .inl (fun _ => 0))), (tfeasts_29, .inr (6, [.int 3, .ref tfeastsA_30, .int 0])), (tfeastsA_30, .inl (kA 0, 24, .inl (fun _ => 0))), (tway_31, .inr (6, [.int 1, .ref twayA_32, .int 0])), (twayA_32, .inl (kA 0, 6, .inl (fun _ => 0))), (q33, .inl (kA 4, 4, .inr (.inr (.inr (.inr (fun _ => none)))))), (q34, .inl (kA 0, 400, .inl (fun _ => 0))), (q35, .inl (kA 5, 6, .inr (.inr (.inr (.inr (fun _ => none)))))), (q36, .inr (2, [.ref tk_40, .ref pl_41, .int 0, .int 0, .int 0, .int 0, .int 0, .ref rl_42])), (tk_40, .inl (kA 0, 401, .inl (fun _ => 0))), (pl_41, .inl (kA 0, 401, .inl (fun _ => 0)))]) (va_runI (As := [.ref q1]) (rest := [.ref q59, .ref x0]) ⟨hx, hb, hml, hown, hts⟩ (mX3_init l dC dI kA _ q59 q1) (cwI 1 hts gX10_init_X3_init rfl rfl rfl (kX10_init_36 hts) (kX10_init_123 hts) (kX10_init_124 hts) rfl (by decide +kernel) ⟨(Nat.le_of_ble_eq_true rfl), (Nat.le_of_ble_eq_true rfl)⟩) ⟨zPc.blind, zPre hK (hP.sub [33] rfl) (hD.sub [33] (by decide) rfl)⟩ rfl rfl hl.1 rfl (lv_room (Nat.le_of_ble_eq_true rfl)) dX10_init_136 ⟨(Nat.le_of_ble_eq_true rfl), (Nat.le_of_ble_eq_true rfl)⟩) hP hD hS hA [33] [0, 1, 2, 3, 4, 5, 6, 7, 8, 9, 10, 11, 12, 13, 14, 15, 16, 17, 18, 19, 20, 21, 22, 23, 24, 25, 26, 27, 28, 29, 30, 31, 32] rfl rfl (by decide) (by decide) (fun u60 H locs hw61 hP hD hS => ?_)
  refine W.widen (k := 75) (n := 3152) (Nat.le_of_ble_eq_true rfl) (Nat.le_of_ble_eq_true rfl) ?_
  have hP : va_P (dC, dI) vwCl [(x0, .inr (10, [.ref q1, .ref q17, .ref q33, .ref q34, .int 0, .ref q35, .int 0, .ref q36, .ref q43, .ref q47, .ref q51, .ref q55, .null])), (q1, .inr (9, [.ref tnodes_5, .ref tpasses_7, .ref tjars_9, .ref torders_11, .ref tfeasts_13, .ref tway_15, .int (-1), .int 0, .int 0, .int 0])), (tnodes_5, .inr (6, [.int 4, .ref tnodesA_6, .int 0])), (tnodesA_6, .inl (kA 0, 48, .inl (fun _ => 0))), (tpasses_7, .inr (6, [.int 5, .ref tpassesA_8, .int 0])), (tpassesA_8, .inl (kA 0, 100, .inl (fun _ => 0))), (tjars_9, .inr (6, [.int 9, .ref tjarsA_10, .int 0])), (tjarsA_10, .inl (kA 0, 144, .inl (fun _ => 0))), (torders_11, .inr (6, [.int 4, .ref tordersA_12, .int 0])), (tordersA_12, .inl (kA 0, 24, .inl (fun _ => 0))), (tfeasts_13, .inr (6, [.int 3, .ref tfeastsA_14, .int 0])), (tfeastsA_14, .inl (kA 0, 24, .inl (fun _ => 0))), (tway_15, .inr (6, [.int 1, .ref twayA_16, .int 0])), (twayA_16, .inl (kA 0, 6, .inl (fun _ => 0))), (q17, .inr (9, [.ref tnodes_21, .ref tpasses_23, .ref tjars_25, .ref torders_27, .ref tfeasts_29, .ref tway_31, .int (-1), .int 0, .int 0, .int 0])), (tnodes_21, .inr (6, [.int 4, .ref tnodesA_22, .int 0])), (tnodesA_22, .inl (kA 0, 48, .inl (fun _ => 0))), (tpasses_23, .inr (6, [.int 5, .ref tpassesA_24, .int 0])), (tpassesA_24, .inl (kA 0, 100, .inl (fun _ => 0))), (tjars_25, .inr (6, [.int 9, .ref tjarsA_26, .int 0])), (tjarsA_26, .inl (kA 0, 144, .inl (fun _ => 0))), (torders_27, .inr (6, [.int 4, .ref tordersA_28, .int 0])), (tordersA_28, .inl (kA 0, 24, .inl (fun _ => 0))), (tfeasts_29, .inr (6, [.int 3, .ref tfeastsA_30, .int 0])), (tfeastsA_30, .inl (kA 0, 24, .inl (fun _ => 0))), (tway_31, .inr (6, [.int 1, .ref twayA_32, .int 0])), (twayA_32, .inl (kA 0, 6, .inl (fun _ => 0))), (q33, .inl (kA 4, 4, .inr (.inr (.inr (.inr (fun _ => none)))))), (q34, .inl (kA 0, 400, .inl (fun _ => 0))), (q35, .inl (kA 5, 6, .inr (.inr (.inr (.inr (fun _ => none)))))), (q36, .inr (2, [.ref tk_40, .ref pl_41, .int 0, .int 0, .int 0, .int 0, .int 0, .ref rl_42])), (tk_40, .inl (kA 0, 401, .inl (fun _ => 0))), (pl_41, .inl (kA 0, 401, .inl (fun _ => 0)))] H := hP
  have hD : va_D A [(x0, .inr (10, [.ref q1, .ref q17, .ref q33, .ref q34, .int 0, .ref q35, .int 0, .ref q36, .ref q43, .ref q47, .ref q51, .ref q55, .null])), (q1, .inr (9, [.ref tnodes_5, .ref tpasses_7, .ref tjars_9, .ref torders_11, .ref tfeasts_13, .ref tway_15, .int (-1), .int 0, .int 0, .int 0])), (tnodes_5, .inr (6, [.int 4, .ref tnodesA_6, .int 0])), (tnodesA_6, .inl (kA 0, 48, .inl (fun _ => 0))), (tpasses_7, .inr (6, [.int 5, .ref tpassesA_8, .int 0])), (tpassesA_8, .inl (kA 0, 100, .inl (fun _ => 0))), (tjars_9, .inr (6, [.int 9, .ref tjarsA_10, .int 0])), (tjarsA_10, .inl (kA 0, 144, .inl (fun _ => 0))), (torders_11, .inr (6, [.int 4, .ref tordersA_12, .int 0])), (tordersA_12, .inl (kA 0, 24, .inl (fun _ => 0))), (tfeasts_13, .inr (6, [.int 3, .ref tfeastsA_14, .int 0])), (tfeastsA_14, .inl (kA 0, 24, .inl (fun _ => 0))), (tway_15, .inr (6, [.int 1, .ref twayA_16, .int 0])), (twayA_16, .inl (kA 0, 6, .inl (fun _ => 0))), (q17, .inr (9, [.ref tnodes_21, .ref tpasses_23, .ref tjars_25, .ref torders_27, .ref tfeasts_29, .ref tway_31, .int (-1), .int 0, .int 0, .int 0])), (tnodes_21, .inr (6, [.int 4, .ref tnodesA_22, .int 0])), (tnodesA_22, .inl (kA 0, 48, .inl (fun _ => 0))), (tpasses_23, .inr (6, [.int 5, .ref tpassesA_24, .int 0])), (tpassesA_24, .inl (kA 0, 100, .inl (fun _ => 0))), (tjars_25, .inr (6, [.int 9, .ref tjarsA_26, .int 0])), (tjarsA_26, .inl (kA 0, 144, .inl (fun _ => 0))), (torders_27, .inr (6, [.int 4, .ref tordersA_28, .int 0])), (tordersA_28, .inl (kA 0, 24, .inl (fun _ => 0))), (tfeasts_29, .inr (6, [.int 3, .ref tfeastsA_30, .int 0])), (tfeastsA_30, .inl (kA 0, 24, .inl (fun _ => 0))), (tway_31, .inr (6, [.int 1, .ref twayA_32, .int 0])), (twayA_32, .inl (kA 0, 6, .inl (fun _ => 0))), (q33, .inl (kA 4, 4, .inr (.inr (.inr (.inr (fun _ => none)))))), (q34, .inl (kA 0, 400, .inl (fun _ => 0))), (q35, .inl (kA 5, 6, .inr (.inr (.inr (.inr (fun _ => none)))))), (q36, .inr (2, [.ref tk_40, .ref pl_41, .int 0, .int 0, .int 0, .int 0, .int 0, .ref rl_42])), (tk_40, .inl (kA 0, 401, .inl (fun _ => 0))), (pl_41, .inl (kA 0, 401, .inl (fun _ => 0)))] := hD
  refine va_putF (D := (dC, dI)) (ci := 10) (v := .ref q59) (ty := .object "SnowMules$Market") (C := RX10) (T := TX10) (N := 13) hx hb hts iX10_init_X10 tyX10 tyX10_ok nmX10 hown hK.1 hP hD hS 0 rfl rfl 12 (by decide) (kX10_init_37 hts) (fun _ h9 => h9) rfl hin rfl (by decide +kernel) rfl rfl (Nat.le_of_ble_eq_true rfl) dX10_init_139 (fun H locs hP hD hS => ?_)
  have hP : va_P (dC, dI) vwCl [(x0, .inr (10, [.ref q1, .ref q17, .ref q33, .ref q34, .int 0, .ref q35, .int 0, .ref q36, .ref q43, .ref q47, .ref q51, .ref q55, .ref q59])), (q1, .inr (9, [.ref tnodes_5, .ref tpasses_7, .ref tjars_9, .ref torders_11, .ref tfeasts_13, .ref tway_15, .int (-1), .int 0, .int 0, .int 0])), (tnodes_5, .inr (6, [.int 4, .ref tnodesA_6, .int 0])), (tnodesA_6, .inl (kA 0, 48, .inl (fun _ => 0))), (tpasses_7, .inr (6, [.int 5, .ref tpassesA_8, .int 0])), (tpassesA_8, .inl (kA 0, 100, .inl (fun _ => 0))), (tjars_9, .inr (6, [.int 9, .ref tjarsA_10, .int 0])), (tjarsA_10, .inl (kA 0, 144, .inl (fun _ => 0))), (torders_11, .inr (6, [.int 4, .ref tordersA_12, .int 0])), (tordersA_12, .inl (kA 0, 24, .inl (fun _ => 0))), (tfeasts_13, .inr (6, [.int 3, .ref tfeastsA_14, .int 0])), (tfeastsA_14, .inl (kA 0, 24, .inl (fun _ => 0))), (tway_15, .inr (6, [.int 1, .ref twayA_16, .int 0])), (twayA_16, .inl (kA 0, 6, .inl (fun _ => 0))), (q17, .inr (9, [.ref tnodes_21, .ref tpasses_23, .ref tjars_25, .ref torders_27, .ref tfeasts_29, .ref tway_31, .int (-1), .int 0, .int 0, .int 0])), (tnodes_21, .inr (6, [.int 4, .ref tnodesA_22, .int 0])), (tnodesA_22, .inl (kA 0, 48, .inl (fun _ => 0))), (tpasses_23, .inr (6, [.int 5, .ref tpassesA_24, .int 0])), (tpassesA_24, .inl (kA 0, 100, .inl (fun _ => 0))), (tjars_25, .inr (6, [.int 9, .ref tjarsA_26, .int 0])), (tjarsA_26, .inl (kA 0, 144, .inl (fun _ => 0))), (torders_27, .inr (6, [.int 4, .ref tordersA_28, .int 0])), (tordersA_28, .inl (kA 0, 24, .inl (fun _ => 0))), (tfeasts_29, .inr (6, [.int 3, .ref tfeastsA_30, .int 0])), (tfeastsA_30, .inl (kA 0, 24, .inl (fun _ => 0))), (tway_31, .inr (6, [.int 1, .ref twayA_32, .int 0])), (twayA_32, .inl (kA 0, 6, .inl (fun _ => 0))), (q33, .inl (kA 4, 4, .inr (.inr (.inr (.inr (fun _ => none)))))), (q34, .inl (kA 0, 400, .inl (fun _ => 0))), (q35, .inl (kA 5, 6, .inr (.inr (.inr (.inr (fun _ => none)))))), (q36, .inr (2, [.ref tk_40, .ref pl_41, .int 0, .int 0, .int 0, .int 0, .int 0, .ref rl_42])), (tk_40, .inl (kA 0, 401, .inl (fun _ => 0))), (pl_41, .inl (kA 0, 401, .inl (fun _ => 0)))] H := hP
  have hD : va_D A [(x0, .inr (10, [.ref q1, .ref q17, .ref q33, .ref q34, .int 0, .ref q35, .int 0, .ref q36, .ref q43, .ref q47, .ref q51, .ref q55, .ref q59])), (q1, .inr (9, [.ref tnodes_5, .ref tpasses_7, .ref tjars_9, .ref torders_11, .ref tfeasts_13, .ref tway_15, .int (-1), .int 0, .int 0, .int 0])), (tnodes_5, .inr (6, [.int 4, .ref tnodesA_6, .int 0])), (tnodesA_6, .inl (kA 0, 48, .inl (fun _ => 0))), (tpasses_7, .inr (6, [.int 5, .ref tpassesA_8, .int 0])), (tpassesA_8, .inl (kA 0, 100, .inl (fun _ => 0))), (tjars_9, .inr (6, [.int 9, .ref tjarsA_10, .int 0])), (tjarsA_10, .inl (kA 0, 144, .inl (fun _ => 0))), (torders_11, .inr (6, [.int 4, .ref tordersA_12, .int 0])), (tordersA_12, .inl (kA 0, 24, .inl (fun _ => 0))), (tfeasts_13, .inr (6, [.int 3, .ref tfeastsA_14, .int 0])), (tfeastsA_14, .inl (kA 0, 24, .inl (fun _ => 0))), (tway_15, .inr (6, [.int 1, .ref twayA_16, .int 0])), (twayA_16, .inl (kA 0, 6, .inl (fun _ => 0))), (q17, .inr (9, [.ref tnodes_21, .ref tpasses_23, .ref tjars_25, .ref torders_27, .ref tfeasts_29, .ref tway_31, .int (-1), .int 0, .int 0, .int 0])), (tnodes_21, .inr (6, [.int 4, .ref tnodesA_22, .int 0])), (tnodesA_22, .inl (kA 0, 48, .inl (fun _ => 0))), (tpasses_23, .inr (6, [.int 5, .ref tpassesA_24, .int 0])), (tpassesA_24, .inl (kA 0, 100, .inl (fun _ => 0))), (tjars_25, .inr (6, [.int 9, .ref tjarsA_26, .int 0])), (tjarsA_26, .inl (kA 0, 144, .inl (fun _ => 0))), (torders_27, .inr (6, [.int 4, .ref tordersA_28, .int 0])), (tordersA_28, .inl (kA 0, 24, .inl (fun _ => 0))), (tfeasts_29, .inr (6, [.int 3, .ref tfeastsA_30, .int 0])), (tfeastsA_30, .inl (kA 0, 24, .inl (fun _ => 0))), (tway_31, .inr (6, [.int 1, .ref twayA_32, .int 0])), (twayA_32, .inl (kA 0, 6, .inl (fun _ => 0))), (q33, .inl (kA 4, 4, .inr (.inr (.inr (.inr (fun _ => none)))))), (q34, .inl (kA 0, 400, .inl (fun _ => 0))), (q35, .inl (kA 5, 6, .inr (.inr (.inr (.inr (fun _ => none)))))), (q36, .inr (2, [.ref tk_40, .ref pl_41, .int 0, .int 0, .int 0, .int 0, .int 0, .ref rl_42])), (tk_40, .inl (kA 0, 401, .inl (fun _ => 0))), (pl_41, .inl (kA 0, 401, .inl (fun _ => 0)))] := hD
  have hP9 := hP.sub (ws' := [(x0, .inr (10, [.ref q1, .ref q17, .ref q33, .ref q34, .int 0, .ref q35, .int 0, .ref q36, .ref q43, .ref q47, .ref q51, .ref q55, .ref q59])), (q1, .inr (9, [.ref tnodes_5, .ref tpasses_7, .ref tjars_9, .ref torders_11, .ref tfeasts_13, .ref tway_15, .int (-1), .int 0, .int 0, .int 0])), (tnodes_5, .inr (6, [.int 4, .ref tnodesA_6, .int 0])), (tnodesA_6, .inl (kA 0, 48, .inl (fun _ => 0))), (tpasses_7, .inr (6, [.int 5, .ref tpassesA_8, .int 0])), (tpassesA_8, .inl (kA 0, 100, .inl (fun _ => 0))), (tjars_9, .inr (6, [.int 9, .ref tjarsA_10, .int 0])), (tjarsA_10, .inl (kA 0, 144, .inl (fun _ => 0))), (torders_11, .inr (6, [.int 4, .ref tordersA_12, .int 0])), (tordersA_12, .inl (kA 0, 24, .inl (fun _ => 0))), (tfeasts_13, .inr (6, [.int 3, .ref tfeastsA_14, .int 0])), (tfeastsA_14, .inl (kA 0, 24, .inl (fun _ => 0))), (tway_15, .inr (6, [.int 1, .ref twayA_16, .int 0])), (twayA_16, .inl (kA 0, 6, .inl (fun _ => 0))), (q33, .inl (kA 4, 4, .inr (.inr (.inr (.inr (fun _ => none)))))), (q34, .inl (kA 0, 400, .inl (fun _ => 0))), (q35, .inl (kA 5, 6, .inr (.inr (.inr (.inr (fun _ => none)))))), (q36, .inr (2, [.ref tk_40, .ref pl_41, .int 0, .int 0, .int 0, .int 0, .int 0, .ref rl_42])), (tk_40, .inl (kA 0, 401, .inl (fun _ => 0))), (pl_41, .inl (kA 0, 401, .inl (fun _ => 0)))]) [0, 1, 2, 3, 4, 5, 6, 7, 8, 9, 10, 11, 12, 13, 27, 28, 29, 30, 31, 32] rfl
  have hD9 := hD.sub (ws' := [(x0, .inr (10, [.ref q1, .ref q17, .ref q33, .ref q34, .int 0, .ref q35, .int 0, .ref q36, .ref q43, .ref q47, .ref q51, .ref q55, .ref q59])), (q1, .inr (9, [.ref tnodes_5, .ref tpasses_7, .ref tjars_9, .ref torders_11, .ref tfeasts_13, .ref tway_15, .int (-1), .int 0, .int 0, .int 0])), (tnodes_5, .inr (6, [.int 4, .ref tnodesA_6, .int 0])), (tnodesA_6, .inl (kA 0, 48, .inl (fun _ => 0))), (tpasses_7, .inr (6, [.int 5, .ref tpassesA_8, .int 0])), (tpassesA_8, .inl (kA 0, 100, .inl (fun _ => 0))), (tjars_9, .inr (6, [.int 9, .ref tjarsA_10, .int 0])), (tjarsA_10, .inl (kA 0, 144, .inl (fun _ => 0))), (torders_11, .inr (6, [.int 4, .ref tordersA_12, .int 0])), (tordersA_12, .inl (kA 0, 24, .inl (fun _ => 0))), (tfeasts_13, .inr (6, [.int 3, .ref tfeastsA_14, .int 0])), (tfeastsA_14, .inl (kA 0, 24, .inl (fun _ => 0))), (tway_15, .inr (6, [.int 1, .ref twayA_16, .int 0])), (twayA_16, .inl (kA 0, 6, .inl (fun _ => 0))), (q33, .inl (kA 4, 4, .inr (.inr (.inr (.inr (fun _ => none)))))), (q34, .inl (kA 0, 400, .inl (fun _ => 0))), (q35, .inl (kA 5, 6, .inr (.inr (.inr (.inr (fun _ => none)))))), (q36, .inr (2, [.ref tk_40, .ref pl_41, .int 0, .int 0, .int 0, .int 0, .int 0, .ref rl_42])), (tk_40, .inl (kA 0, 401, .inl (fun _ => 0))), (pl_41, .inl (kA 0, 401, .inl (fun _ => 0)))]) [0, 1, 2, 3, 4, 5, 6, 7, 8, 9, 10, 11, 12, 13, 27, 28, 29, 30, 31, 32] (by decide) rfl
  refine W.widen (k := 75) (n := 3152) (Nat.le_of_ble_eq_true rfl) (Nat.le_of_ble_eq_true rfl) ?_
  exact W.vret hx hb hr (fun t ht hW => ⟨⟨(q1, q17, q33, q34, q35, q36, q43, q47, q51, q55, q59, tnodes_5, tnodesA_6, tpasses_7, tpassesA_8, tjars_9, tjarsA_10, torders_11, tordersA_12, tfeasts_13, tfeastsA_14, tway_15, twayA_16, tk_40, pl_41, rl_42), rfl, trivial, by rw [ht]; exact hP9, hD9⟩, hS.F ht⟩) hS.2.2 dX10_init_142
set_option maxHeartbeats 4000000 in
set_option maxRecDepth 100000 in
theorem mX11_init (l : Launch) (dC : Nat → ClassId) (dI : Nat → Nat → Nat) (kA : Nat → ClassId) (sz : Nat) (m0 : Nat)  : Met l yX11_init wsX11_init ({ frames := 1, cells := 22, slots := 5882, locals := 12 }) (zPc dC dI kA sz [.ref m0] [(m0, .inr (11, [.null, .int 0, .int 0, .null, .null, .null, .null, .null, .int 0, .int 0, .int 0, .int 0, .int 0, .int 0, .int 0, .null, .int 0, .null, .int 0, .null, .null, .null, .int 0, .int 0, .int 0, .int 0, .int 0, .int 0, .null, .null, .null, .null, .null, .int 0, .int 0, .int 0, .null, .null, .null, .null, .null, .null]))]) (va_Qv (fun (u : Nat × Nat × Nat × Nat × Nat × Nat × Nat × Nat × Nat × Nat × Nat × Nat × Nat × Nat × Nat × Nat × Nat × Nat × Nat × Nat × Nat × Nat) => True) (zB dC dI (va_A [(m0, .inr (11, [.null, .int 0, .int 0, .null, .null, .null, .null, .null, .int 0, .int 0, .int 0, .int 0, .int 0, .int 0, .int 0, .null, .int 0, .null, .int 0, .null, .null, .null, .int 0, .int 0, .int 0, .int 0, .int 0, .int 0, .null, .null, .null, .null, .null, .int 0, .int 0, .int 0, .null, .null, .null, .null, .null, .null]))] sz) (fun (u : Nat × Nat × Nat × Nat × Nat × Nat × Nat × Nat × Nat × Nat × Nat × Nat × Nat × Nat × Nat × Nat × Nat × Nat × Nat × Nat × Nat × Nat) => [(m0, .inr (11, [.ref u.1, .int 0, .int 0, .ref u.2.1, .ref u.2.2.1, .ref u.2.2.2.1, .ref u.2.2.2.2.1, .ref u.2.2.2.2.2.1, .int 0, .int 0, .int 0, .int 0, .int 0, .int 0, .int 0, .ref u.2.2.2.2.2.2.1, .int 0, .ref u.2.2.2.2.2.2.2.1, .int 0, .ref u.2.2.2.2.2.2.2.2.1, .ref u.2.2.2.2.2.2.2.2.2.1, .ref u.2.2.2.2.2.2.2.2.2.2.1, .int 0, .int 0, .int 0, .int 0, .int 0, .int 0, .ref u.2.2.2.2.2.2.2.2.2.2.2.1, .ref u.2.2.2.2.2.2.2.2.2.2.2.2.1, .ref u.2.2.2.2.2.2.2.2.2.2.2.2.2.1, .ref u.2.2.2.2.2.2.2.2.2.2.2.2.2.2.1, .ref u.2.2.2.2.2.2.2.2.2.2.2.2.2.2.2.1, .int 0, .int 0, .int 0, .ref u.2.2.2.2.2.2.2.2.2.2.2.2.2.2.2.2.1, .ref u.2.2.2.2.2.2.2.2.2.2.2.2.2.2.2.2.2.1, .ref u.2.2.2.2.2.2.2.2.2.2.2.2.2.2.2.2.2.2.1, .ref u.2.2.2.2.2.2.2.2.2.2.2.2.2.2.2.2.2.2.2.1, .ref u.2.2.2.2.2.2.2.2.2.2.2.2.2.2.2.2.2.2.2.2.1, .ref u.2.2.2.2.2.2.2.2.2.2.2.2.2.2.2.2.2.2.2.2.2])), (u.1, .inl (kA 1, 400, .inl (fun _ => 0))), (u.2.2.1, .inl (kA 0, 6, .inl (fun _ => 0))), (u.2.2.2.2.1, .inl (kA 0, 6, .inl (fun _ => 0))), (u.2.2.2.2.2.1, .inl (kA 0, 6, .inl (fun _ => 0))), (u.2.2.2.2.2.2.2.2.2.1, .inl (kA 0, 360, .inl (upd (fun _ => 0) (8 : Int32).toNatClampNeg (-1)))), (u.2.2.2.2.2.2.2.2.2.2.2.2.2.2.2.2.2.2.2.2.1, .inl (kA 0, 1440, .inl (fun _ => 0))), (u.2.2.2.2.2.2.2.2.2.2.2.2.2.2.2.2.2.2.2.2.2, .inl (kA 3, 4, .inl (fun _ => 0)))])) (va_A [(m0, .inr (11, [.null, .int 0, .int 0, .null, .null, .null, .null, .null, .int 0, .int 0, .int 0, .int 0, .int 0, .int 0, .int 0, .null, .int 0, .null, .int 0, .null, .null, .null, .int 0, .int 0, .int 0, .int 0, .int 0, .int 0, .null, .null, .null, .null, .null, .int 0, .int 0, .int 0, .null, .null, .null, .null, .null, .null]))] sz)) 22 5882 (va_A [(m0, .inr (11, [.null, .int 0, .int 0, .null, .null, .null, .null, .null, .int 0, .int 0, .int 0, .int 0, .int 0, .int 0, .int 0, .null, .int 0, .null, .int 0, .null, .null, .null, .int 0, .int 0, .int 0, .int 0, .int 0, .int 0, .null, .null, .null, .null, .null, .int 0, .int 0, .int 0, .null, .null, .null, .null, .null, .null]))] sz) := by
  refine Met.ofW (cc := cX11_init) (maxL := 1) (ret := none) (by decide) rfl ?_
  intro p e s m args below meth c s₁ B hml hv
  obtain ⟨rfl, hsz, hP, hK, hD0⟩ := hv
  have hx := B.exec
  have hb := B.bytes
  have hr := B.returns
  have hts := atoms_spec (ws := wsX11_init) B.pre
  have hown : s.vm.findClass RX11 = some m.cls := findClass_of_methodNamed B.named
  have hlocks := B.notSynchronized
  have hin : meth.name = "<init>" := (name_of_methodNamed B.named B.method).1
  subst hsz
  have hD := hD0.self (sz := s.heap.size)
  generalize hAe : va_A [(m0, .inr (11, [.null, .int 0, .int 0, .null, .null, .null, .null, .null, .int 0, .int 0, .int 0, .int 0, .int 0, .int 0, .int 0, .null, .int 0, .null, .int 0, .null, .null, .null, .int 0, .int 0, .int 0, .int 0, .int 0, .int 0, .null, .null, .null, .null, .null, .int 0, .int 0, .int 0, .null, .null, .null, .null, .null, .null]))] s.heap.size = A at hD ⊢
  have hA : ∀ q : Nat, s.heap.size ≤ q → A q := fun q h => by rw [← hAe]; exact Or.inr h
  have hS : va_S A s.heap s.heap [] := va_S.rf
  have hP : va_P (dC, dI) vwCl [(m0, .inr (11, [.null, .int 0, .int 0, .null, .null, .null, .null, .null, .int 0, .int 0, .int 0, .int 0, .int 0, .int 0, .int 0, .null, .int 0, .null, .int 0, .null, .null, .null, .int 0, .int 0, .int 0, .int 0, .int 0, .int 0, .null, .null, .null, .null, .null, .int 0, .int 0, .int 0, .null, .null, .null, .null, .null, .null]))] s.heap := hP
  have hl := lv_entry ([.ref m0]) (n := 1) (Nat.le_of_ble_eq_true rfl)
  rw [lg_entry_eq]
  generalize (lg_sl ([.ref m0]) ++ List.replicate (1 - (lg_sl ([.ref m0])).length) Slot.unset).toArray = ls at hl ⊢
  have hl : lv_has ls 1 [(0, .ref m0)] := hl
  refine lv_aload_n hx hb dX11_init_0 rfl (lv_at hl 0 rfl) ?_
  refine W.objInit hx hb hown (kX11_init_1 hts) (kX11_init_2 hts) (kX11_init_3 hts) rfl (by rw [hml]; exact hl.1) rfl dX11_init_1 (Nat.le_of_ble_eq_true rfl) (Nat.le_of_ble_eq_true rfl) ?_
  refine W.eq (g2 := F0 m 4 ls []) rfl ?_
  refine lv_aload_n hx hb dX11_init_4 rfl (lv_at hl 0 rfl) ?_
  refine lv_sipush (v := 400) hx hb dX11_init_5 (by decide) ?_
  refine z_newb hx hb (kX11_init_4 hts) hK hP hD hS hA 400 (by decide) (by decide) (by decide) (Nat.le_of_ble_eq_true rfl) (Nat.le_of_ble_eq_true rfl) dX11_init_8 (fun q1 H hP hD hS => ?_)
  refine W.widen (k := 1) (n := 400) (Nat.le_of_ble_eq_true rfl) (Nat.le_of_ble_eq_true rfl) ?_
  have hP : va_P (dC, dI) vwCl [(m0, .inr (11, [.null, .int 0, .int 0, .null, .null, .null, .null, .null, .int 0, .int 0, .int 0, .int 0, .int 0, .int 0, .int 0, .null, .int 0, .null, .int 0, .null, .null, .null, .int 0, .int 0, .int 0, .int 0, .int 0, .int 0, .null, .null, .null, .null, .null, .int 0, .int 0, .int 0, .null, .null, .null, .null, .null, .null])), (q1, .inl (kA 1, 400, .inl (fun _ => 0)))] H := hP
  have hD : va_D A [(m0, .inr (11, [.null, .int 0, .int 0, .null, .null, .null, .null, .null, .int 0, .int 0, .int 0, .int 0, .int 0, .int 0, .int 0, .null, .int 0, .null, .int 0, .null, .null, .null, .int 0, .int 0, .int 0, .int 0, .int 0, .int 0, .null, .null, .null, .null, .null, .int 0, .int 0, .int 0, .null, .null, .null, .null, .null, .null])), (q1, .inl (kA 1, 400, .inl (fun _ => 0)))] := hD
  refine va_putF (D := (dC, dI)) (ci := 11) (v := .ref q1) (ty := .array (.byte)) (C := RX11) (T := TX11) (N := 42) hx hb hts iX11_init_X11 tyX11 tyX11_ok nmX11 hown hK.1 hP hD hS 0 rfl rfl 0 (by decide) (kX11_init_5 hts) (fun _ h9 => h9) rfl hin rfl (by decide +kernel) rfl rfl (Nat.le_of_ble_eq_true rfl) dX11_init_10 (fun H locs hP hD hS => ?_)
  have hP : va_P (dC, dI) vwCl [(m0, .inr (11, [.ref q1, .int 0, .int 0, .null, .null, .null, .null, .null, .int 0, .int 0, .int 0, .int 0, .int 0, .int 0, .int 0, .null, .int 0, .null, .int 0, .null, .null, .null, .int 0, .int 0, .int 0, .int 0, .int 0, .int 0, .null, .null, .null, .null, .null, .int 0, .int 0, .int 0, .null, .null, .null, .null, .null, .null])), (q1, .inl (kA 1, 400, .inl (fun _ => 0)))] H := hP
  have hD : va_D A [(m0, .inr (11, [.ref q1, .int 0, .int 0, .null, .null, .null, .null, .null, .int 0, .int 0, .int 0, .int 0, .int 0, .int 0, .int 0, .null, .int 0, .null, .int 0, .null, .null, .null, .int 0, .int 0, .int 0, .int 0, .int 0, .int 0, .null, .null, .null, .null, .null, .int 0, .int 0, .int 0, .null, .null, .null, .null, .null, .null])), (q1, .inl (kA 1, 400, .inl (fun _ => 0)))] := hD
  refine lv_aload_n hx hb dX11_init_13 rfl (lv_at hl 0 rfl) ?_
  refine lv_sipush (v := 2400) hx hb dX11_init_14 (by decide) ?_
  refine z_newi hx hb (kX11_init_6 hts) hK hP hD hS hA 2400 (by decide) (by decide) (by decide) (Nat.le_of_ble_eq_true rfl) (Nat.le_of_ble_eq_true rfl) dX11_init_17 (fun q2 H hP hD hS => ?_)
  refine W.widen (k := 2) (n := 2800) (Nat.le_of_ble_eq_true rfl) (Nat.le_of_ble_eq_true rfl) ?_
  have hP : va_P (dC, dI) vwCl [(m0, .inr (11, [.ref q1, .int 0, .int 0, .null, .null, .null, .null, .null, .int 0, .int 0, .int 0, .int 0, .int 0, .int 0, .int 0, .null, .int 0, .null, .int 0, .null, .null, .null, .int 0, .int 0, .int 0, .int 0, .int 0, .int 0, .null, .null, .null, .null, .null, .int 0, .int 0, .int 0, .null, .null, .null, .null, .null, .null])), (q1, .inl (kA 1, 400, .inl (fun _ => 0))), (q2, .inl (kA 0, 2400, .inl (fun _ => 0)))] H := hP
  have hD : va_D A [(m0, .inr (11, [.ref q1, .int 0, .int 0, .null, .null, .null, .null, .null, .int 0, .int 0, .int 0, .int 0, .int 0, .int 0, .int 0, .null, .int 0, .null, .int 0, .null, .null, .null, .int 0, .int 0, .int 0, .int 0, .int 0, .int 0, .null, .null, .null, .null, .null, .int 0, .int 0, .int 0, .null, .null, .null, .null, .null, .null])), (q1, .inl (kA 1, 400, .inl (fun _ => 0))), (q2, .inl (kA 0, 2400, .inl (fun _ => 0)))] := hD
  refine va_putF (D := (dC, dI)) (ci := 11) (v := .ref q2) (ty := .array (.int)) (C := RX11) (T := TX11) (N := 42) hx hb hts iX11_init_X11 tyX11 tyX11_ok nmX11 hown hK.1 hP hD hS 0 rfl rfl 3 (by decide) (kX11_init_7 hts) (fun _ h9 => h9) rfl hin rfl (by decide +kernel) rfl rfl (Nat.le_of_ble_eq_true rfl) dX11_init_19 (fun H locs hP hD hS => ?_)
  have hP : va_P (dC, dI) vwCl [(m0, .inr (11, [.ref q1, .int 0, .int 0, .ref q2, .null, .null, .null, .null, .int 0, .int 0, .int 0, .int 0, .int 0, .int 0, .int 0, .null, .int 0, .null, .int 0, .null, .null, .null, .int 0, .int 0, .int 0, .int 0, .int 0, .int 0, .null, .null, .null, .null, .null, .int 0, .int 0, .int 0, .null, .null, .null, .null, .null, .null])), (q1, .inl (kA 1, 400, .inl (fun _ => 0))), (q2, .inl (kA 0, 2400, .inl (fun _ => 0)))] H := hP
  have hD : va_D A [(m0, .inr (11, [.ref q1, .int 0, .int 0, .ref q2, .null, .null, .null, .null, .int 0, .int 0, .int 0, .int 0, .int 0, .int 0, .int 0, .null, .int 0, .null, .int 0, .null, .null, .null, .int 0, .int 0, .int 0, .int 0, .int 0, .int 0, .null, .null, .null, .null, .null, .int 0, .int 0, .int 0, .null, .null, .null, .null, .null, .null])), (q1, .inl (kA 1, 400, .inl (fun _ => 0))), (q2, .inl (kA 0, 2400, .inl (fun _ => 0)))] := hD
  refine lv_aload_n hx hb dX11_init_22 rfl (lv_at hl 0 rfl) ?_
  refine lv_bipush (v := 6) hx hb dX11_init_23 (by decide) ?_
  refine z_newi hx hb (kX11_init_6 hts) hK hP hD hS hA 6 (by decide) (by decide) (by decide) (Nat.le_of_ble_eq_true rfl) (Nat.le_of_ble_eq_true rfl) dX11_init_25 (fun q3 H hP hD hS => ?_)
  refine W.widen (k := 3) (n := 2806) (Nat.le_of_ble_eq_true rfl) (Nat.le_of_ble_eq_true rfl) ?_
  have hP : va_P (dC, dI) vwCl [(m0, .inr (11, [.ref q1, .int 0, .int 0, .ref q2, .null, .null, .null, .null, .int 0, .int 0, .int 0, .int 0, .int 0, .int 0, .int 0, .null, .int 0, .null, .int 0, .null, .null, .null, .int 0, .int 0, .int 0, .int 0, .int 0, .int 0, .null, .null, .null, .null, .null, .int 0, .int 0, .int 0, .null, .null, .null, .null, .null, .null])), (q1, .inl (kA 1, 400, .inl (fun _ => 0))), (q2, .inl (kA 0, 2400, .inl (fun _ => 0))), (q3, .inl (kA 0, 6, .inl (fun _ => 0)))] H := hP
  have hD : va_D A [(m0, .inr (11, [.ref q1, .int 0, .int 0, .ref q2, .null, .null, .null, .null, .int 0, .int 0, .int 0, .int 0, .int 0, .int 0, .int 0, .null, .int 0, .null, .int 0, .null, .null, .null, .int 0, .int 0, .int 0, .int 0, .int 0, .int 0, .null, .null, .null, .null, .null, .int 0, .int 0, .int 0, .null, .null, .null, .null, .null, .null])), (q1, .inl (kA 1, 400, .inl (fun _ => 0))), (q2, .inl (kA 0, 2400, .inl (fun _ => 0))), (q3, .inl (kA 0, 6, .inl (fun _ => 0)))] := hD
  refine va_putF (D := (dC, dI)) (ci := 11) (v := .ref q3) (ty := .array (.int)) (C := RX11) (T := TX11) (N := 42) hx hb hts iX11_init_X11 tyX11 tyX11_ok nmX11 hown hK.1 hP hD hS 0 rfl rfl 4 (by decide) (kX11_init_8 hts) (fun _ h9 => h9) rfl hin rfl (by decide +kernel) rfl rfl (Nat.le_of_ble_eq_true rfl) dX11_init_27 (fun H locs hP hD hS => ?_)
  have hP : va_P (dC, dI) vwCl [(m0, .inr (11, [.ref q1, .int 0, .int 0, .ref q2, .ref q3, .null, .null, .null, .int 0, .int 0, .int 0, .int 0, .int 0, .int 0, .int 0, .null, .int 0, .null, .int 0, .null, .null, .null, .int 0, .int 0, .int 0, .int 0, .int 0, .int 0, .null, .null, .null, .null, .null, .int 0, .int 0, .int 0, .null, .null, .null, .null, .null, .null])), (q1, .inl (kA 1, 400, .inl (fun _ => 0))), (q2, .inl (kA 0, 2400, .inl (fun _ => 0))), (q3, .inl (kA 0, 6, .inl (fun _ => 0)))] H := hP
  have hD : va_D A [(m0, .inr (11, [.ref q1, .int 0, .int 0, .ref q2, .ref q3, .null, .null, .null, .int 0, .int 0, .int 0, .int 0, .int 0, .int 0, .int 0, .null, .int 0, .null, .int 0, .null, .null, .null, .int 0, .int 0, .int 0, .int 0, .int 0, .int 0, .null, .null, .null, .null, .null, .int 0, .int 0, .int 0, .null, .null, .null, .null, .null, .null])), (q1, .inl (kA 1, 400, .inl (fun _ => 0))), (q2, .inl (kA 0, 2400, .inl (fun _ => 0))), (q3, .inl (kA 0, 6, .inl (fun _ => 0)))] := hD
  refine lv_aload_n hx hb dX11_init_30 rfl (lv_at hl 0 rfl) ?_
  refine lv_sipush (v := 360) hx hb dX11_init_31 (by decide) ?_
  refine z_newi hx hb (kX11_init_6 hts) hK hP hD hS hA 360 (by decide) (by decide) (by decide) (Nat.le_of_ble_eq_true rfl) (Nat.le_of_ble_eq_true rfl) dX11_init_34 (fun q4 H hP hD hS => ?_)
  refine W.widen (k := 4) (n := 3166) (Nat.le_of_ble_eq_true rfl) (Nat.le_of_ble_eq_true rfl) ?_
  have hP : va_P (dC, dI) vwCl [(m0, .inr (11, [.ref q1, .int 0, .int 0, .ref q2, .ref q3, .null, .null, .null, .int 0, .int 0, .int 0, .int 0, .int 0, .int 0, .int 0, .null, .int 0, .null, .int 0, .null, .null, .null, .int 0, .int 0, .int 0, .int 0, .int 0, .int 0, .null, .null, .null, .null, .null, .int 0, .int 0, .int 0, .null, .null, .null, .null, .null, .null])), (q1, .inl (kA 1, 400, .inl (fun _ => 0))), (q2, .inl (kA 0, 2400, .inl (fun _ => 0))), (q3, .inl (kA 0, 6, .inl (fun _ => 0))), (q4, .inl (kA 0, 360, .inl (fun _ => 0)))] H := hP
  have hD : va_D A [(m0, .inr (11, [.ref q1, .int 0, .int 0, .ref q2, .ref q3, .null, .null, .null, .int 0, .int 0, .int 0, .int 0, .int 0, .int 0, .int 0, .null, .int 0, .null, .int 0, .null, .null, .null, .int 0, .int 0, .int 0, .int 0, .int 0, .int 0, .null, .null, .null, .null, .null, .int 0, .int 0, .int 0, .null, .null, .null, .null, .null, .null])), (q1, .inl (kA 1, 400, .inl (fun _ => 0))), (q2, .inl (kA 0, 2400, .inl (fun _ => 0))), (q3, .inl (kA 0, 6, .inl (fun _ => 0))), (q4, .inl (kA 0, 360, .inl (fun _ => 0)))] := hD
  refine va_putF (D := (dC, dI)) (ci := 11) (v := .ref q4) (ty := .array (.int)) (C := RX11) (T := TX11) (N := 42) hx hb hts iX11_init_X11 tyX11 tyX11_ok nmX11 hown hK.1 hP hD hS 0 rfl rfl 5 (by decide) (kX11_init_9 hts) (fun _ h9 => h9) rfl hin rfl (by decide +kernel) rfl rfl (Nat.le_of_ble_eq_true rfl) dX11_init_36 (fun H locs hP hD hS => ?_)
  have hP : va_P (dC, dI) vwCl [(m0, .inr (11, [.ref q1, .int 0, .int 0, .ref q2, .ref q3, .ref q4, .null, .null, .int 0, .int 0, .int 0, .int 0, .int 0, .int 0, .int 0, .null, .int 0, .null, .int 0, .null, .null, .null, .int 0, .int 0, .int 0, .int 0, .int 0, .int 0, .null, .null, .null, .null, .null, .int 0, .int 0, .int 0, .null, .null, .null, .null, .null, .null])), (q1, .inl (kA 1, 400, .inl (fun _ => 0))), (q2, .inl (kA 0, 2400, .inl (fun _ => 0))), (q3, .inl (kA 0, 6, .inl (fun _ => 0))), (q4, .inl (kA 0, 360, .inl (fun _ => 0)))] H := hP
  have hD : va_D A [(m0, .inr (11, [.ref q1, .int 0, .int 0, .ref q2, .ref q3, .ref q4, .null, .null, .int 0, .int 0, .int 0, .int 0, .int 0, .int 0, .int 0, .null, .int 0, .null, .int 0, .null, .null, .null, .int 0, .int 0, .int 0, .int 0, .int 0, .int 0, .null, .null, .null, .null, .null, .int 0, .int 0, .int 0, .null, .null, .null, .null, .null, .null])), (q1, .inl (kA 1, 400, .inl (fun _ => 0))), (q2, .inl (kA 0, 2400, .inl (fun _ => 0))), (q3, .inl (kA 0, 6, .inl (fun _ => 0))), (q4, .inl (kA 0, 360, .inl (fun _ => 0)))] := hD
  refine lv_aload_n hx hb dX11_init_39 rfl (lv_at hl 0 rfl) ?_
  refine lv_bipush (v := 6) hx hb dX11_init_40 (by decide) ?_
  refine z_newi hx hb (kX11_init_6 hts) hK hP hD hS hA 6 (by decide) (by decide) (by decide) (Nat.le_of_ble_eq_true rfl) (Nat.le_of_ble_eq_true rfl) dX11_init_42 (fun q5 H hP hD hS => ?_)
  refine W.widen (k := 5) (n := 3172) (Nat.le_of_ble_eq_true rfl) (Nat.le_of_ble_eq_true rfl) ?_
  have hP : va_P (dC, dI) vwCl [(m0, .inr (11, [.ref q1, .int 0, .int 0, .ref q2, .ref q3, .ref q4, .null, .null, .int 0, .int 0, .int 0, .int 0, .int 0, .int 0, .int 0, .null, .int 0, .null, .int 0, .null, .null, .null, .int 0, .int 0, .int 0, .int 0, .int 0, .int 0, .null, .null, .null, .null, .null, .int 0, .int 0, .int 0, .null, .null, .null, .null, .null, .null])), (q1, .inl (kA 1, 400, .inl (fun _ => 0))), (q2, .inl (kA 0, 2400, .inl (fun _ => 0))), (q3, .inl (kA 0, 6, .inl (fun _ => 0))), (q4, .inl (kA 0, 360, .inl (fun _ => 0))), (q5, .inl (kA 0, 6, .inl (fun _ => 0)))] H := hP
  have hD : va_D A [(m0, .inr (11, [.ref q1, .int 0, .int 0, .ref q2, .ref q3, .ref q4, .null, .null, .int 0, .int 0, .int 0, .int 0, .int 0, .int 0, .int 0, .null, .int 0, .null, .int 0, .null, .null, .null, .int 0, .int 0, .int 0, .int 0, .int 0, .int 0, .null, .null, .null, .null, .null, .int 0, .int 0, .int 0, .null, .null, .null, .null, .null, .null])), (q1, .inl (kA 1, 400, .inl (fun _ => 0))), (q2, .inl (kA 0, 2400, .inl (fun _ => 0))), (q3, .inl (kA 0, 6, .inl (fun _ => 0))), (q4, .inl (kA 0, 360, .inl (fun _ => 0))), (q5, .inl (kA 0, 6, .inl (fun _ => 0)))] := hD
  refine va_putF (D := (dC, dI)) (ci := 11) (v := .ref q5) (ty := .array (.int)) (C := RX11) (T := TX11) (N := 42) hx hb hts iX11_init_X11 tyX11 tyX11_ok nmX11 hown hK.1 hP hD hS 0 rfl rfl 6 (by decide) (kX11_init_10 hts) (fun _ h9 => h9) rfl hin rfl (by decide +kernel) rfl rfl (Nat.le_of_ble_eq_true rfl) dX11_init_44 (fun H locs hP hD hS => ?_)
  have hP : va_P (dC, dI) vwCl [(m0, .inr (11, [.ref q1, .int 0, .int 0, .ref q2, .ref q3, .ref q4, .ref q5, .null, .int 0, .int 0, .int 0, .int 0, .int 0, .int 0, .int 0, .null, .int 0, .null, .int 0, .null, .null, .null, .int 0, .int 0, .int 0, .int 0, .int 0, .int 0, .null, .null, .null, .null, .null, .int 0, .int 0, .int 0, .null, .null, .null, .null, .null, .null])), (q1, .inl (kA 1, 400, .inl (fun _ => 0))), (q2, .inl (kA 0, 2400, .inl (fun _ => 0))), (q3, .inl (kA 0, 6, .inl (fun _ => 0))), (q4, .inl (kA 0, 360, .inl (fun _ => 0))), (q5, .inl (kA 0, 6, .inl (fun _ => 0)))] H := hP
  have hD : va_D A [(m0, .inr (11, [.ref q1, .int 0, .int 0, .ref q2, .ref q3, .ref q4, .ref q5, .null, .int 0, .int 0, .int 0, .int 0, .int 0, .int 0, .int 0, .null, .int 0, .null, .int 0, .null, .null, .null, .int 0, .int 0, .int 0, .int 0, .int 0, .int 0, .null, .null, .null, .null, .null, .int 0, .int 0, .int 0, .null, .null, .null, .null, .null, .null])), (q1, .inl (kA 1, 400, .inl (fun _ => 0))), (q2, .inl (kA 0, 2400, .inl (fun _ => 0))), (q3, .inl (kA 0, 6, .inl (fun _ => 0))), (q4, .inl (kA 0, 360, .inl (fun _ => 0))), (q5, .inl (kA 0, 6, .inl (fun _ => 0)))] := hD
  refine lv_aload_n hx hb dX11_init_47 rfl (lv_at hl 0 rfl) ?_
  refine lv_bipush (v := 6) hx hb dX11_init_48 (by decide) ?_
  refine z_newi hx hb (kX11_init_6 hts) hK hP hD hS hA 6 (by decide) (by decide) (by decide) (Nat.le_of_ble_eq_true rfl) (Nat.le_of_ble_eq_true rfl) dX11_init_50 (fun q6 H hP hD hS => ?_)
  refine W.widen (k := 6) (n := 3178) (Nat.le_of_ble_eq_true rfl) (Nat.le_of_ble_eq_true rfl) ?_
  have hP : va_P (dC, dI) vwCl [(m0, .inr (11, [.ref q1, .int 0, .int 0, .ref q2, .ref q3, .ref q4, .ref q5, .null, .int 0, .int 0, .int 0, .int 0, .int 0, .int 0, .int 0, .null, .int 0, .null, .int 0, .null, .null, .null, .int 0, .int 0, .int 0, .int 0, .int 0, .int 0, .null, .null, .null, .null, .null, .int 0, .int 0, .int 0, .null, .null, .null, .null, .null, .null])), (q1, .inl (kA 1, 400, .inl (fun _ => 0))), (q2, .inl (kA 0, 2400, .inl (fun _ => 0))), (q3, .inl (kA 0, 6, .inl (fun _ => 0))), (q4, .inl (kA 0, 360, .inl (fun _ => 0))), (q5, .inl (kA 0, 6, .inl (fun _ => 0))), (q6, .inl (kA 0, 6, .inl (fun _ => 0)))] H := hP
  have hD : va_D A [(m0, .inr (11, [.ref q1, .int 0, .int 0, .ref q2, .ref q3, .ref q4, .ref q5, .null, .int 0, .int 0, .int 0, .int 0, .int 0, .int 0, .int 0, .null, .int 0, .null, .int 0, .null, .null, .null, .int 0, .int 0, .int 0, .int 0, .int 0, .int 0, .null, .null, .null, .null, .null, .int 0, .int 0, .int 0, .null, .null, .null, .null, .null, .null])), (q1, .inl (kA 1, 400, .inl (fun _ => 0))), (q2, .inl (kA 0, 2400, .inl (fun _ => 0))), (q3, .inl (kA 0, 6, .inl (fun _ => 0))), (q4, .inl (kA 0, 360, .inl (fun _ => 0))), (q5, .inl (kA 0, 6, .inl (fun _ => 0))), (q6, .inl (kA 0, 6, .inl (fun _ => 0)))] := hD
  refine va_putF (D := (dC, dI)) (ci := 11) (v := .ref q6) (ty := .array (.int)) (C := RX11) (T := TX11) (N := 42) hx hb hts iX11_init_X11 tyX11 tyX11_ok nmX11 hown hK.1 hP hD hS 0 rfl rfl 7 (by decide) (kX11_init_11 hts) (fun _ h9 => h9) rfl hin rfl (by decide +kernel) rfl rfl (Nat.le_of_ble_eq_true rfl) dX11_init_52 (fun H locs hP hD hS => ?_)
  have hP : va_P (dC, dI) vwCl [(m0, .inr (11, [.ref q1, .int 0, .int 0, .ref q2, .ref q3, .ref q4, .ref q5, .ref q6, .int 0, .int 0, .int 0, .int 0, .int 0, .int 0, .int 0, .null, .int 0, .null, .int 0, .null, .null, .null, .int 0, .int 0, .int 0, .int 0, .int 0, .int 0, .null, .null, .null, .null, .null, .int 0, .int 0, .int 0, .null, .null, .null, .null, .null, .null])), (q1, .inl (kA 1, 400, .inl (fun _ => 0))), (q2, .inl (kA 0, 2400, .inl (fun _ => 0))), (q3, .inl (kA 0, 6, .inl (fun _ => 0))), (q4, .inl (kA 0, 360, .inl (fun _ => 0))), (q5, .inl (kA 0, 6, .inl (fun _ => 0))), (q6, .inl (kA 0, 6, .inl (fun _ => 0)))] H := hP
  have hD : va_D A [(m0, .inr (11, [.ref q1, .int 0, .int 0, .ref q2, .ref q3, .ref q4, .ref q5, .ref q6, .int 0, .int 0, .int 0, .int 0, .int 0, .int 0, .int 0, .null, .int 0, .null, .int 0, .null, .null, .null, .int 0, .int 0, .int 0, .int 0, .int 0, .int 0, .null, .null, .null, .null, .null, .int 0, .int 0, .int 0, .null, .null, .null, .null, .null, .null])), (q1, .inl (kA 1, 400, .inl (fun _ => 0))), (q2, .inl (kA 0, 2400, .inl (fun _ => 0))), (q3, .inl (kA 0, 6, .inl (fun _ => 0))), (q4, .inl (kA 0, 360, .inl (fun _ => 0))), (q5, .inl (kA 0, 6, .inl (fun _ => 0))), (q6, .inl (kA 0, 6, .inl (fun _ => 0)))] := hD
  refine lv_aload_n hx hb dX11_init_55 rfl (lv_at hl 0 rfl) ?_
  refine lv_sipush (v := 400) hx hb dX11_init_56 (by decide) ?_
  refine z_newi hx hb (kX11_init_6 hts) hK hP hD hS hA 400 (by decide) (by decide) (by decide) (Nat.le_of_ble_eq_true rfl) (Nat.le_of_ble_eq_true rfl) dX11_init_59 (fun q7 H hP hD hS => ?_)
  refine W.widen (k := 7) (n := 3578) (Nat.le_of_ble_eq_true rfl) (Nat.le_of_ble_eq_true rfl) ?_
  have hP : va_P (dC, dI) vwCl [(m0, .inr (11, [.ref q1, .int 0, .int 0, .ref q2, .ref q3, .ref q4, .ref q5, .ref q6, .int 0, .int 0, .int 0, .int 0, .int 0, .int 0, .int 0, .null, .int 0, .null, .int 0, .null, .null, .null, .int 0, .int 0, .int 0, .int 0, .int 0, .int 0, .null, .null, .null, .null, .null, .int 0, .int 0, .int 0, .null, .null, .null, .null, .null, .null])), (q1, .inl (kA 1, 400, .inl (fun _ => 0))), (q2, .inl (kA 0, 2400, .inl (fun _ => 0))), (q3, .inl (kA 0, 6, .inl (fun _ => 0))), (q4, .inl (kA 0, 360, .inl (fun _ => 0))), (q5, .inl (kA 0, 6, .inl (fun _ => 0))), (q6, .inl (kA 0, 6, .inl (fun _ => 0))), (q7, .inl (kA 0, 400, .inl (fun _ => 0)))] H := hP
  have hD : va_D A [(m0, .inr (11, [.ref q1, .int 0, .int 0, .ref q2, .ref q3, .ref q4, .ref q5, .ref q6, .int 0, .int 0, .int 0, .int 0, .int 0, .int 0, .int 0, .null, .int 0, .null, .int 0, .null, .null, .null, .int 0, .int 0, .int 0, .int 0, .int 0, .int 0, .null, .null, .null, .null, .null, .int 0, .int 0, .int 0, .null, .null, .null, .null, .null, .null])), (q1, .inl (kA 1, 400, .inl (fun _ => 0))), (q2, .inl (kA 0, 2400, .inl (fun _ => 0))), (q3, .inl (kA 0, 6, .inl (fun _ => 0))), (q4, .inl (kA 0, 360, .inl (fun _ => 0))), (q5, .inl (kA 0, 6, .inl (fun _ => 0))), (q6, .inl (kA 0, 6, .inl (fun _ => 0))), (q7, .inl (kA 0, 400, .inl (fun _ => 0)))] := hD
  refine va_putF (D := (dC, dI)) (ci := 11) (v := .ref q7) (ty := .array (.int)) (C := RX11) (T := TX11) (N := 42) hx hb hts iX11_init_X11 tyX11 tyX11_ok nmX11 hown hK.1 hP hD hS 0 rfl rfl 15 (by decide) (kX11_init_12 hts) (fun _ h9 => h9) rfl hin rfl (by decide +kernel) rfl rfl (Nat.le_of_ble_eq_true rfl) dX11_init_61 (fun H locs hP hD hS => ?_)
  have hP : va_P (dC, dI) vwCl [(m0, .inr (11, [.ref q1, .int 0, .int 0, .ref q2, .ref q3, .ref q4, .ref q5, .ref q6, .int 0, .int 0, .int 0, .int 0, .int 0, .int 0, .int 0, .ref q7, .int 0, .null, .int 0, .null, .null, .null, .int 0, .int 0, .int 0, .int 0, .int 0, .int 0, .null, .null, .null, .null, .null, .int 0, .int 0, .int 0, .null, .null, .null, .null, .null, .null])), (q1, .inl (kA 1, 400, .inl (fun _ => 0))), (q2, .inl (kA 0, 2400, .inl (fun _ => 0))), (q3, .inl (kA 0, 6, .inl (fun _ => 0))), (q4, .inl (kA 0, 360, .inl (fun _ => 0))), (q5, .inl (kA 0, 6, .inl (fun _ => 0))), (q6, .inl (kA 0, 6, .inl (fun _ => 0))), (q7, .inl (kA 0, 400, .inl (fun _ => 0)))] H := hP
  have hD : va_D A [(m0, .inr (11, [.ref q1, .int 0, .int 0, .ref q2, .ref q3, .ref q4, .ref q5, .ref q6, .int 0, .int 0, .int 0, .int 0, .int 0, .int 0, .int 0, .ref q7, .int 0, .null, .int 0, .null, .null, .null, .int 0, .int 0, .int 0, .int 0, .int 0, .int 0, .null, .null, .null, .null, .null, .int 0, .int 0, .int 0, .null, .null, .null, .null, .null, .null])), (q1, .inl (kA 1, 400, .inl (fun _ => 0))), (q2, .inl (kA 0, 2400, .inl (fun _ => 0))), (q3, .inl (kA 0, 6, .inl (fun _ => 0))), (q4, .inl (kA 0, 360, .inl (fun _ => 0))), (q5, .inl (kA 0, 6, .inl (fun _ => 0))), (q6, .inl (kA 0, 6, .inl (fun _ => 0))), (q7, .inl (kA 0, 400, .inl (fun _ => 0)))] := hD
  refine lv_aload_n hx hb dX11_init_64 rfl (lv_at hl 0 rfl) ?_
  refine lv_bipush (v := 64) hx hb dX11_init_65 (by decide) ?_
  refine z_newj hx hb (kX11_init_13 hts) hK hP hD hS hA 64 (by decide) (by decide) (by decide) (Nat.le_of_ble_eq_true rfl) (Nat.le_of_ble_eq_true rfl) dX11_init_67 (fun q8 H hP hD hS => ?_)
  refine W.widen (k := 8) (n := 3642) (Nat.le_of_ble_eq_true rfl) (Nat.le_of_ble_eq_true rfl) ?_
  have hP : va_P (dC, dI) vwCl [(m0, .inr (11, [.ref q1, .int 0, .int 0, .ref q2, .ref q3, .ref q4, .ref q5, .ref q6, .int 0, .int 0, .int 0, .int 0, .int 0, .int 0, .int 0, .ref q7, .int 0, .null, .int 0, .null, .null, .null, .int 0, .int 0, .int 0, .int 0, .int 0, .int 0, .null, .null, .null, .null, .null, .int 0, .int 0, .int 0, .null, .null, .null, .null, .null, .null])), (q1, .inl (kA 1, 400, .inl (fun _ => 0))), (q2, .inl (kA 0, 2400, .inl (fun _ => 0))), (q3, .inl (kA 0, 6, .inl (fun _ => 0))), (q4, .inl (kA 0, 360, .inl (fun _ => 0))), (q5, .inl (kA 0, 6, .inl (fun _ => 0))), (q6, .inl (kA 0, 6, .inl (fun _ => 0))), (q7, .inl (kA 0, 400, .inl (fun _ => 0))), (q8, .inl (kA 2, 64, .inr (.inl (fun _ => 0))))] H := hP
  have hD : va_D A [(m0, .inr (11, [.ref q1, .int 0, .int 0, .ref q2, .ref q3, .ref q4, .ref q5, .ref q6, .int 0, .int 0, .int 0, .int 0, .int 0, .int 0, .int 0, .ref q7, .int 0, .null, .int 0, .null, .null, .null, .int 0, .int 0, .int 0, .int 0, .int 0, .int 0, .null, .null, .null, .null, .null, .int 0, .int 0, .int 0, .null, .null, .null, .null, .null, .null])), (q1, .inl (kA 1, 400, .inl (fun _ => 0))), (q2, .inl (kA 0, 2400, .inl (fun _ => 0))), (q3, .inl (kA 0, 6, .inl (fun _ => 0))), (q4, .inl (kA 0, 360, .inl (fun _ => 0))), (q5, .inl (kA 0, 6, .inl (fun _ => 0))), (q6, .inl (kA 0, 6, .inl (fun _ => 0))), (q7, .inl (kA 0, 400, .inl (fun _ => 0))), (q8, .inl (kA 2, 64, .inr (.inl (fun _ => 0))))] := hD
  refine va_putF (D := (dC, dI)) (ci := 11) (v := .ref q8) (ty := .array (.long)) (C := RX11) (T := TX11) (N := 42) hx hb hts iX11_init_X11 tyX11 tyX11_ok nmX11 hown hK.1 hP hD hS 0 rfl rfl 17 (by decide) (kX11_init_14 hts) (fun _ h9 => h9) rfl hin rfl (by decide +kernel) rfl rfl (Nat.le_of_ble_eq_true rfl) dX11_init_69 (fun H locs hP hD hS => ?_)
  have hP : va_P (dC, dI) vwCl [(m0, .inr (11, [.ref q1, .int 0, .int 0, .ref q2, .ref q3, .ref q4, .ref q5, .ref q6, .int 0, .int 0, .int 0, .int 0, .int 0, .int 0, .int 0, .ref q7, .int 0, .ref q8, .int 0, .null, .null, .null, .int 0, .int 0, .int 0, .int 0, .int 0, .int 0, .null, .null, .null, .null, .null, .int 0, .int 0, .int 0, .null, .null, .null, .null, .null, .null])), (q1, .inl (kA 1, 400, .inl (fun _ => 0))), (q2, .inl (kA 0, 2400, .inl (fun _ => 0))), (q3, .inl (kA 0, 6, .inl (fun _ => 0))), (q4, .inl (kA 0, 360, .inl (fun _ => 0))), (q5, .inl (kA 0, 6, .inl (fun _ => 0))), (q6, .inl (kA 0, 6, .inl (fun _ => 0))), (q7, .inl (kA 0, 400, .inl (fun _ => 0))), (q8, .inl (kA 2, 64, .inr (.inl (fun _ => 0))))] H := hP
  have hD : va_D A [(m0, .inr (11, [.ref q1, .int 0, .int 0, .ref q2, .ref q3, .ref q4, .ref q5, .ref q6, .int 0, .int 0, .int 0, .int 0, .int 0, .int 0, .int 0, .ref q7, .int 0, .ref q8, .int 0, .null, .null, .null, .int 0, .int 0, .int 0, .int 0, .int 0, .int 0, .null, .null, .null, .null, .null, .int 0, .int 0, .int 0, .null, .null, .null, .null, .null, .null])), (q1, .inl (kA 1, 400, .inl (fun _ => 0))), (q2, .inl (kA 0, 2400, .inl (fun _ => 0))), (q3, .inl (kA 0, 6, .inl (fun _ => 0))), (q4, .inl (kA 0, 360, .inl (fun _ => 0))), (q5, .inl (kA 0, 6, .inl (fun _ => 0))), (q6, .inl (kA 0, 6, .inl (fun _ => 0))), (q7, .inl (kA 0, 400, .inl (fun _ => 0))), (q8, .inl (kA 2, 64, .inr (.inl (fun _ => 0))))] := hD
  refine lv_aload_n hx hb dX11_init_72 rfl (lv_at hl 0 rfl) ?_
  refine lv_bipush (v := 11) hx hb dX11_init_73 (by decide) ?_
  refine z_newj hx hb (kX11_init_13 hts) hK hP hD hS hA 11 (by decide) (by decide) (by decide) (Nat.le_of_ble_eq_true rfl) (Nat.le_of_ble_eq_true rfl) dX11_init_75 (fun q9 H hP hD hS => ?_)
  refine W.widen (k := 9) (n := 3653) (Nat.le_of_ble_eq_true rfl) (Nat.le_of_ble_eq_true rfl) ?_
  have hP : va_P (dC, dI) vwCl [(m0, .inr (11, [.ref q1, .int 0, .int 0, .ref q2, .ref q3, .ref q4, .ref q5, .ref q6, .int 0, .int 0, .int 0, .int 0, .int 0, .int 0, .int 0, .ref q7, .int 0, .ref q8, .int 0, .null, .null, .null, .int 0, .int 0, .int 0, .int 0, .int 0, .int 0, .null, .null, .null, .null, .null, .int 0, .int 0, .int 0, .null, .null, .null, .null, .null, .null])), (q1, .inl (kA 1, 400, .inl (fun _ => 0))), (q2, .inl (kA 0, 2400, .inl (fun _ => 0))), (q3, .inl (kA 0, 6, .inl (fun _ => 0))), (q4, .inl (kA 0, 360, .inl (fun _ => 0))), (q5, .inl (kA 0, 6, .inl (fun _ => 0))), (q6, .inl (kA 0, 6, .inl (fun _ => 0))), (q7, .inl (kA 0, 400, .inl (fun _ => 0))), (q8, .inl (kA 2, 64, .inr (.inl (fun _ => 0)))), (q9, .inl (kA 2, 11, .inr (.inl (fun _ => 0))))] H := hP
  have hD : va_D A [(m0, .inr (11, [.ref q1, .int 0, .int 0, .ref q2, .ref q3, .ref q4, .ref q5, .ref q6, .int 0, .int 0, .int 0, .int 0, .int 0, .int 0, .int 0, .ref q7, .int 0, .ref q8, .int 0, .null, .null, .null, .int 0, .int 0, .int 0, .int 0, .int 0, .int 0, .null, .null, .null, .null, .null, .int 0, .int 0, .int 0, .null, .null, .null, .null, .null, .null])), (q1, .inl (kA 1, 400, .inl (fun _ => 0))), (q2, .inl (kA 0, 2400, .inl (fun _ => 0))), (q3, .inl (kA 0, 6, .inl (fun _ => 0))), (q4, .inl (kA 0, 360, .inl (fun _ => 0))), (q5, .inl (kA 0, 6, .inl (fun _ => 0))), (q6, .inl (kA 0, 6, .inl (fun _ => 0))), (q7, .inl (kA 0, 400, .inl (fun _ => 0))), (q8, .inl (kA 2, 64, .inr (.inl (fun _ => 0)))), (q9, .inl (kA 2, 11, .inr (.inl (fun _ => 0))))] := hD
  refine va_putF (D := (dC, dI)) (ci := 11) (v := .ref q9) (ty := .array (.long)) (C := RX11) (T := TX11) (N := 42) hx hb hts iX11_init_X11 tyX11 tyX11_ok nmX11 hown hK.1 hP hD hS 0 rfl rfl 19 (by decide) (kX11_init_15 hts) (fun _ h9 => h9) rfl hin rfl (by decide +kernel) rfl rfl (Nat.le_of_ble_eq_true rfl) dX11_init_77 (fun H locs hP hD hS => ?_)
  have hP : va_P (dC, dI) vwCl [(m0, .inr (11, [.ref q1, .int 0, .int 0, .ref q2, .ref q3, .ref q4, .ref q5, .ref q6, .int 0, .int 0, .int 0, .int 0, .int 0, .int 0, .int 0, .ref q7, .int 0, .ref q8, .int 0, .ref q9, .null, .null, .int 0, .int 0, .int 0, .int 0, .int 0, .int 0, .null, .null, .null, .null, .null, .int 0, .int 0, .int 0, .null, .null, .null, .null, .null, .null])), (q1, .inl (kA 1, 400, .inl (fun _ => 0))), (q2, .inl (kA 0, 2400, .inl (fun _ => 0))), (q3, .inl (kA 0, 6, .inl (fun _ => 0))), (q4, .inl (kA 0, 360, .inl (fun _ => 0))), (q5, .inl (kA 0, 6, .inl (fun _ => 0))), (q6, .inl (kA 0, 6, .inl (fun _ => 0))), (q7, .inl (kA 0, 400, .inl (fun _ => 0))), (q8, .inl (kA 2, 64, .inr (.inl (fun _ => 0)))), (q9, .inl (kA 2, 11, .inr (.inl (fun _ => 0))))] H := hP
  have hD : va_D A [(m0, .inr (11, [.ref q1, .int 0, .int 0, .ref q2, .ref q3, .ref q4, .ref q5, .ref q6, .int 0, .int 0, .int 0, .int 0, .int 0, .int 0, .int 0, .ref q7, .int 0, .ref q8, .int 0, .ref q9, .null, .null, .int 0, .int 0, .int 0, .int 0, .int 0, .int 0, .null, .null, .null, .null, .null, .int 0, .int 0, .int 0, .null, .null, .null, .null, .null, .null])), (q1, .inl (kA 1, 400, .inl (fun _ => 0))), (q2, .inl (kA 0, 2400, .inl (fun _ => 0))), (q3, .inl (kA 0, 6, .inl (fun _ => 0))), (q4, .inl (kA 0, 360, .inl (fun _ => 0))), (q5, .inl (kA 0, 6, .inl (fun _ => 0))), (q6, .inl (kA 0, 6, .inl (fun _ => 0))), (q7, .inl (kA 0, 400, .inl (fun _ => 0))), (q8, .inl (kA 2, 64, .inr (.inl (fun _ => 0)))), (q9, .inl (kA 2, 11, .inr (.inl (fun _ => 0))))] := hD
  refine lv_aload_n hx hb dX11_init_80 rfl (lv_at hl 0 rfl) ?_
  refine lv_sipush (v := 360) hx hb dX11_init_81 (by decide) ?_
  refine z_newi hx hb (kX11_init_6 hts) hK hP hD hS hA 360 (by decide) (by decide) (by decide) (Nat.le_of_ble_eq_true rfl) (Nat.le_of_ble_eq_true rfl) dX11_init_84 (fun q10 H hP hD hS => ?_)
  refine W.widen (k := 10) (n := 4013) (Nat.le_of_ble_eq_true rfl) (Nat.le_of_ble_eq_true rfl) ?_
  have hP : va_P (dC, dI) vwCl [(m0, .inr (11, [.ref q1, .int 0, .int 0, .ref q2, .ref q3, .ref q4, .ref q5, .ref q6, .int 0, .int 0, .int 0, .int 0, .int 0, .int 0, .int 0, .ref q7, .int 0, .ref q8, .int 0, .ref q9, .null, .null, .int 0, .int 0, .int 0, .int 0, .int 0, .int 0, .null, .null, .null, .null, .null, .int 0, .int 0, .int 0, .null, .null, .null, .null, .null, .null])), (q1, .inl (kA 1, 400, .inl (fun _ => 0))), (q2, .inl (kA 0, 2400, .inl (fun _ => 0))), (q3, .inl (kA 0, 6, .inl (fun _ => 0))), (q4, .inl (kA 0, 360, .inl (fun _ => 0))), (q5, .inl (kA 0, 6, .inl (fun _ => 0))), (q6, .inl (kA 0, 6, .inl (fun _ => 0))), (q7, .inl (kA 0, 400, .inl (fun _ => 0))), (q8, .inl (kA 2, 64, .inr (.inl (fun _ => 0)))), (q9, .inl (kA 2, 11, .inr (.inl (fun _ => 0)))), (q10, .inl (kA 0, 360, .inl (fun _ => 0)))] H := hP
  have hD : va_D A [(m0, .inr (11, [.ref q1, .int 0, .int 0, .ref q2, .ref q3, .ref q4, .ref q5, .ref q6, .int 0, .int 0, .int 0, .int 0, .int 0, .int 0, .int 0, .ref q7, .int 0, .ref q8, .int 0, .ref q9, .null, .null, .int 0, .int 0, .int 0, .int 0, .int 0, .int 0, .null, .null, .null, .null, .null, .int 0, .int 0, .int 0, .null, .null, .null, .null, .null, .null])), (q1, .inl (kA 1, 400, .inl (fun _ => 0))), (q2, .inl (kA 0, 2400, .inl (fun _ => 0))), (q3, .inl (kA 0, 6, .inl (fun _ => 0))), (q4, .inl (kA 0, 360, .inl (fun _ => 0))), (q5, .inl (kA 0, 6, .inl (fun _ => 0))), (q6, .inl (kA 0, 6, .inl (fun _ => 0))), (q7, .inl (kA 0, 400, .inl (fun _ => 0))), (q8, .inl (kA 2, 64, .inr (.inl (fun _ => 0)))), (q9, .inl (kA 2, 11, .inr (.inl (fun _ => 0)))), (q10, .inl (kA 0, 360, .inl (fun _ => 0)))] := hD
  refine va_putF (D := (dC, dI)) (ci := 11) (v := .ref q10) (ty := .array (.int)) (C := RX11) (T := TX11) (N := 42) hx hb hts iX11_init_X11 tyX11 tyX11_ok nmX11 hown hK.1 hP hD hS 0 rfl rfl 20 (by decide) (kX11_init_16 hts) (fun _ h9 => h9) rfl hin rfl (by decide +kernel) rfl rfl (Nat.le_of_ble_eq_true rfl) dX11_init_86 (fun H locs hP hD hS => ?_)
  have hP : va_P (dC, dI) vwCl [(m0, .inr (11, [.ref q1, .int 0, .int 0, .ref q2, .ref q3, .ref q4, .ref q5, .ref q6, .int 0, .int 0, .int 0, .int 0, .int 0, .int 0, .int 0, .ref q7, .int 0, .ref q8, .int 0, .ref q9, .ref q10, .null, .int 0, .int 0, .int 0, .int 0, .int 0, .int 0, .null, .null, .null, .null, .null, .int 0, .int 0, .int 0, .null, .null, .null, .null, .null, .null])), (q1, .inl (kA 1, 400, .inl (fun _ => 0))), (q2, .inl (kA 0, 2400, .inl (fun _ => 0))), (q3, .inl (kA 0, 6, .inl (fun _ => 0))), (q4, .inl (kA 0, 360, .inl (fun _ => 0))), (q5, .inl (kA 0, 6, .inl (fun _ => 0))), (q6, .inl (kA 0, 6, .inl (fun _ => 0))), (q7, .inl (kA 0, 400, .inl (fun _ => 0))), (q8, .inl (kA 2, 64, .inr (.inl (fun _ => 0)))), (q9, .inl (kA 2, 11, .inr (.inl (fun _ => 0)))), (q10, .inl (kA 0, 360, .inl (fun _ => 0)))] H := hP
  have hD : va_D A [(m0, .inr (11, [.ref q1, .int 0, .int 0, .ref q2, .ref q3, .ref q4, .ref q5, .ref q6, .int 0, .int 0, .int 0, .int 0, .int 0, .int 0, .int 0, .ref q7, .int 0, .ref q8, .int 0, .ref q9, .ref q10, .null, .int 0, .int 0, .int 0, .int 0, .int 0, .int 0, .null, .null, .null, .null, .null, .int 0, .int 0, .int 0, .null, .null, .null, .null, .null, .null])), (q1, .inl (kA 1, 400, .inl (fun _ => 0))), (q2, .inl (kA 0, 2400, .inl (fun _ => 0))), (q3, .inl (kA 0, 6, .inl (fun _ => 0))), (q4, .inl (kA 0, 360, .inl (fun _ => 0))), (q5, .inl (kA 0, 6, .inl (fun _ => 0))), (q6, .inl (kA 0, 6, .inl (fun _ => 0))), (q7, .inl (kA 0, 400, .inl (fun _ => 0))), (q8, .inl (kA 2, 64, .inr (.inl (fun _ => 0)))), (q9, .inl (kA 2, 11, .inr (.inl (fun _ => 0)))), (q10, .inl (kA 0, 360, .inl (fun _ => 0)))] := hD
  refine lv_aload_n hx hb dX11_init_89 rfl (lv_at hl 0 rfl) ?_
  refine lv_sipush (v := 360) hx hb dX11_init_90 (by decide) ?_
  refine z_newi hx hb (kX11_init_6 hts) hK hP hD hS hA 360 (by decide) (by decide) (by decide) (Nat.le_of_ble_eq_true rfl) (Nat.le_of_ble_eq_true rfl) dX11_init_93 (fun q11 H hP hD hS => ?_)
  refine W.widen (k := 11) (n := 4373) (Nat.le_of_ble_eq_true rfl) (Nat.le_of_ble_eq_true rfl) ?_
  have hP : va_P (dC, dI) vwCl [(m0, .inr (11, [.ref q1, .int 0, .int 0, .ref q2, .ref q3, .ref q4, .ref q5, .ref q6, .int 0, .int 0, .int 0, .int 0, .int 0, .int 0, .int 0, .ref q7, .int 0, .ref q8, .int 0, .ref q9, .ref q10, .null, .int 0, .int 0, .int 0, .int 0, .int 0, .int 0, .null, .null, .null, .null, .null, .int 0, .int 0, .int 0, .null, .null, .null, .null, .null, .null])), (q1, .inl (kA 1, 400, .inl (fun _ => 0))), (q2, .inl (kA 0, 2400, .inl (fun _ => 0))), (q3, .inl (kA 0, 6, .inl (fun _ => 0))), (q4, .inl (kA 0, 360, .inl (fun _ => 0))), (q5, .inl (kA 0, 6, .inl (fun _ => 0))), (q6, .inl (kA 0, 6, .inl (fun _ => 0))), (q7, .inl (kA 0, 400, .inl (fun _ => 0))), (q8, .inl (kA 2, 64, .inr (.inl (fun _ => 0)))), (q9, .inl (kA 2, 11, .inr (.inl (fun _ => 0)))), (q10, .inl (kA 0, 360, .inl (fun _ => 0))), (q11, .inl (kA 0, 360, .inl (fun _ => 0)))] H := hP
  have hD : va_D A [(m0, .inr (11, [.ref q1, .int 0, .int 0, .ref q2, .ref q3, .ref q4, .ref q5, .ref q6, .int 0, .int 0, .int 0, .int 0, .int 0, .int 0, .int 0, .ref q7, .int 0, .ref q8, .int 0, .ref q9, .ref q10, .null, .int 0, .int 0, .int 0, .int 0, .int 0, .int 0, .null, .null, .null, .null, .null, .int 0, .int 0, .int 0, .null, .null, .null, .null, .null, .null])), (q1, .inl (kA 1, 400, .inl (fun _ => 0))), (q2, .inl (kA 0, 2400, .inl (fun _ => 0))), (q3, .inl (kA 0, 6, .inl (fun _ => 0))), (q4, .inl (kA 0, 360, .inl (fun _ => 0))), (q5, .inl (kA 0, 6, .inl (fun _ => 0))), (q6, .inl (kA 0, 6, .inl (fun _ => 0))), (q7, .inl (kA 0, 400, .inl (fun _ => 0))), (q8, .inl (kA 2, 64, .inr (.inl (fun _ => 0)))), (q9, .inl (kA 2, 11, .inr (.inl (fun _ => 0)))), (q10, .inl (kA 0, 360, .inl (fun _ => 0))), (q11, .inl (kA 0, 360, .inl (fun _ => 0)))] := hD
  refine va_putF (D := (dC, dI)) (ci := 11) (v := .ref q11) (ty := .array (.int)) (C := RX11) (T := TX11) (N := 42) hx hb hts iX11_init_X11 tyX11 tyX11_ok nmX11 hown hK.1 hP hD hS 0 rfl rfl 21 (by decide) (kX11_init_17 hts) (fun _ h9 => h9) rfl hin rfl (by decide +kernel) rfl rfl (Nat.le_of_ble_eq_true rfl) dX11_init_95 (fun H locs hP hD hS => ?_)
  have hP : va_P (dC, dI) vwCl [(m0, .inr (11, [.ref q1, .int 0, .int 0, .ref q2, .ref q3, .ref q4, .ref q5, .ref q6, .int 0, .int 0, .int 0, .int 0, .int 0, .int 0, .int 0, .ref q7, .int 0, .ref q8, .int 0, .ref q9, .ref q10, .ref q11, .int 0, .int 0, .int 0, .int 0, .int 0, .int 0, .null, .null, .null, .null, .null, .int 0, .int 0, .int 0, .null, .null, .null, .null, .null, .null])), (q1, .inl (kA 1, 400, .inl (fun _ => 0))), (q2, .inl (kA 0, 2400, .inl (fun _ => 0))), (q3, .inl (kA 0, 6, .inl (fun _ => 0))), (q4, .inl (kA 0, 360, .inl (fun _ => 0))), (q5, .inl (kA 0, 6, .inl (fun _ => 0))), (q6, .inl (kA 0, 6, .inl (fun _ => 0))), (q7, .inl (kA 0, 400, .inl (fun _ => 0))), (q8, .inl (kA 2, 64, .inr (.inl (fun _ => 0)))), (q9, .inl (kA 2, 11, .inr (.inl (fun _ => 0)))), (q10, .inl (kA 0, 360, .inl (fun _ => 0))), (q11, .inl (kA 0, 360, .inl (fun _ => 0)))] H := hP
  have hD : va_D A [(m0, .inr (11, [.ref q1, .int 0, .int 0, .ref q2, .ref q3, .ref q4, .ref q5, .ref q6, .int 0, .int 0, .int 0, .int 0, .int 0, .int 0, .int 0, .ref q7, .int 0, .ref q8, .int 0, .ref q9, .ref q10, .ref q11, .int 0, .int 0, .int 0, .int 0, .int 0, .int 0, .null, .null, .null, .null, .null, .int 0, .int 0, .int 0, .null, .null, .null, .null, .null, .null])), (q1, .inl (kA 1, 400, .inl (fun _ => 0))), (q2, .inl (kA 0, 2400, .inl (fun _ => 0))), (q3, .inl (kA 0, 6, .inl (fun _ => 0))), (q4, .inl (kA 0, 360, .inl (fun _ => 0))), (q5, .inl (kA 0, 6, .inl (fun _ => 0))), (q6, .inl (kA 0, 6, .inl (fun _ => 0))), (q7, .inl (kA 0, 400, .inl (fun _ => 0))), (q8, .inl (kA 2, 64, .inr (.inl (fun _ => 0)))), (q9, .inl (kA 2, 11, .inr (.inl (fun _ => 0)))), (q10, .inl (kA 0, 360, .inl (fun _ => 0))), (q11, .inl (kA 0, 360, .inl (fun _ => 0)))] := hD
  refine lv_aload_n hx hb dX11_init_98 rfl (lv_at hl 0 rfl) ?_
  refine lv_bipush (v := 7) hx hb dX11_init_99 (by decide) ?_
  refine z_newi hx hb (kX11_init_6 hts) hK hP hD hS hA 7 (by decide) (by decide) (by decide) (Nat.le_of_ble_eq_true rfl) (Nat.le_of_ble_eq_true rfl) dX11_init_101 (fun q12 H hP hD hS => ?_)
  refine W.widen (k := 12) (n := 4380) (Nat.le_of_ble_eq_true rfl) (Nat.le_of_ble_eq_true rfl) ?_
  have hP : va_P (dC, dI) vwCl [(m0, .inr (11, [.ref q1, .int 0, .int 0, .ref q2, .ref q3, .ref q4, .ref q5, .ref q6, .int 0, .int 0, .int 0, .int 0, .int 0, .int 0, .int 0, .ref q7, .int 0, .ref q8, .int 0, .ref q9, .ref q10, .ref q11, .int 0, .int 0, .int 0, .int 0, .int 0, .int 0, .null, .null, .null, .null, .null, .int 0, .int 0, .int 0, .null, .null, .null, .null, .null, .null])), (q1, .inl (kA 1, 400, .inl (fun _ => 0))), (q2, .inl (kA 0, 2400, .inl (fun _ => 0))), (q3, .inl (kA 0, 6, .inl (fun _ => 0))), (q4, .inl (kA 0, 360, .inl (fun _ => 0))), (q5, .inl (kA 0, 6, .inl (fun _ => 0))), (q6, .inl (kA 0, 6, .inl (fun _ => 0))), (q7, .inl (kA 0, 400, .inl (fun _ => 0))), (q8, .inl (kA 2, 64, .inr (.inl (fun _ => 0)))), (q9, .inl (kA 2, 11, .inr (.inl (fun _ => 0)))), (q10, .inl (kA 0, 360, .inl (fun _ => 0))), (q11, .inl (kA 0, 360, .inl (fun _ => 0))), (q12, .inl (kA 0, 7, .inl (fun _ => 0)))] H := hP
  have hD : va_D A [(m0, .inr (11, [.ref q1, .int 0, .int 0, .ref q2, .ref q3, .ref q4, .ref q5, .ref q6, .int 0, .int 0, .int 0, .int 0, .int 0, .int 0, .int 0, .ref q7, .int 0, .ref q8, .int 0, .ref q9, .ref q10, .ref q11, .int 0, .int 0, .int 0, .int 0, .int 0, .int 0, .null, .null, .null, .null, .null, .int 0, .int 0, .int 0, .null, .null, .null, .null, .null, .null])), (q1, .inl (kA 1, 400, .inl (fun _ => 0))), (q2, .inl (kA 0, 2400, .inl (fun _ => 0))), (q3, .inl (kA 0, 6, .inl (fun _ => 0))), (q4, .inl (kA 0, 360, .inl (fun _ => 0))), (q5, .inl (kA 0, 6, .inl (fun _ => 0))), (q6, .inl (kA 0, 6, .inl (fun _ => 0))), (q7, .inl (kA 0, 400, .inl (fun _ => 0))), (q8, .inl (kA 2, 64, .inr (.inl (fun _ => 0)))), (q9, .inl (kA 2, 11, .inr (.inl (fun _ => 0)))), (q10, .inl (kA 0, 360, .inl (fun _ => 0))), (q11, .inl (kA 0, 360, .inl (fun _ => 0))), (q12, .inl (kA 0, 7, .inl (fun _ => 0)))] := hD
  refine va_putF (D := (dC, dI)) (ci := 11) (v := .ref q12) (ty := .array (.int)) (C := RX11) (T := TX11) (N := 42) hx hb hts iX11_init_X11 tyX11 tyX11_ok nmX11 hown hK.1 hP hD hS 0 rfl rfl 28 (by decide) (kX11_init_18 hts) (fun _ h9 => h9) rfl hin rfl (by decide +kernel) rfl rfl (Nat.le_of_ble_eq_true rfl) dX11_init_103 (fun H locs hP hD hS => ?_)
  have hP : va_P (dC, dI) vwCl [(m0, .inr (11, [.ref q1, .int 0, .int 0, .ref q2, .ref q3, .ref q4, .ref q5, .ref q6, .int 0, .int 0, .int 0, .int 0, .int 0, .int 0, .int 0, .ref q7, .int 0, .ref q8, .int 0, .ref q9, .ref q10, .ref q11, .int 0, .int 0, .int 0, .int 0, .int 0, .int 0, .ref q12, .null, .null, .null, .null, .int 0, .int 0, .int 0, .null, .null, .null, .null, .null, .null])), (q1, .inl (kA 1, 400, .inl (fun _ => 0))), (q2, .inl (kA 0, 2400, .inl (fun _ => 0))), (q3, .inl (kA 0, 6, .inl (fun _ => 0))), (q4, .inl (kA 0, 360, .inl (fun _ => 0))), (q5, .inl (kA 0, 6, .inl (fun _ => 0))), (q6, .inl (kA 0, 6, .inl (fun _ => 0))), (q7, .inl (kA 0, 400, .inl (fun _ => 0))), (q8, .inl (kA 2, 64, .inr (.inl (fun _ => 0)))), (q9, .inl (kA 2, 11, .inr (.inl (fun _ => 0)))), (q10, .inl (kA 0, 360, .inl (fun _ => 0))), (q11, .inl (kA 0, 360, .inl (fun _ => 0))), (q12, .inl (kA 0, 7, .inl (fun _ => 0)))] H := hP
  have hD : va_D A [(m0, .inr (11, [.ref q1, .int 0, .int 0, .ref q2, .ref q3, .ref q4, .ref q5, .ref q6, .int 0, .int 0, .int 0, .int 0, .int 0, .int 0, .int 0, .ref q7, .int 0, .ref q8, .int 0, .ref q9, .ref q10, .ref q11, .int 0, .int 0, .int 0, .int 0, .int 0, .int 0, .ref q12, .null, .null, .null, .null, .int 0, .int 0, .int 0, .null, .null, .null, .null, .null, .null])), (q1, .inl (kA 1, 400, .inl (fun _ => 0))), (q2, .inl (kA 0, 2400, .inl (fun _ => 0))), (q3, .inl (kA 0, 6, .inl (fun _ => 0))), (q4, .inl (kA 0, 360, .inl (fun _ => 0))), (q5, .inl (kA 0, 6, .inl (fun _ => 0))), (q6, .inl (kA 0, 6, .inl (fun _ => 0))), (q7, .inl (kA 0, 400, .inl (fun _ => 0))), (q8, .inl (kA 2, 64, .inr (.inl (fun _ => 0)))), (q9, .inl (kA 2, 11, .inr (.inl (fun _ => 0)))), (q10, .inl (kA 0, 360, .inl (fun _ => 0))), (q11, .inl (kA 0, 360, .inl (fun _ => 0))), (q12, .inl (kA 0, 7, .inl (fun _ => 0)))] := hD
  refine lv_aload_n hx hb dX11_init_106 rfl (lv_at hl 0 rfl) ?_
  refine lv_bipush (v := 7) hx hb dX11_init_107 (by decide) ?_
  refine z_newi hx hb (kX11_init_6 hts) hK hP hD hS hA 7 (by decide) (by decide) (by decide) (Nat.le_of_ble_eq_true rfl) (Nat.le_of_ble_eq_true rfl) dX11_init_109 (fun q13 H hP hD hS => ?_)
  refine W.widen (k := 13) (n := 4387) (Nat.le_of_ble_eq_true rfl) (Nat.le_of_ble_eq_true rfl) ?_
  have hP : va_P (dC, dI) vwCl [(m0, .inr (11, [.ref q1, .int 0, .int 0, .ref q2, .ref q3, .ref q4, .ref q5, .ref q6, .int 0, .int 0, .int 0, .int 0, .int 0, .int 0, .int 0, .ref q7, .int 0, .ref q8, .int 0, .ref q9, .ref q10, .ref q11, .int 0, .int 0, .int 0, .int 0, .int 0, .int 0, .ref q12, .null, .null, .null, .null, .int 0, .int 0, .int 0, .null, .null, .null, .null, .null, .null])), (q1, .inl (kA 1, 400, .inl (fun _ => 0))), (q2, .inl (kA 0, 2400, .inl (fun _ => 0))), (q3, .inl (kA 0, 6, .inl (fun _ => 0))), (q4, .inl (kA 0, 360, .inl (fun _ => 0))), (q5, .inl (kA 0, 6, .inl (fun _ => 0))), (q6, .inl (kA 0, 6, .inl (fun _ => 0))), (q7, .inl (kA 0, 400, .inl (fun _ => 0))), (q8, .inl (kA 2, 64, .inr (.inl (fun _ => 0)))), (q9, .inl (kA 2, 11, .inr (.inl (fun _ => 0)))), (q10, .inl (kA 0, 360, .inl (fun _ => 0))), (q11, .inl (kA 0, 360, .inl (fun _ => 0))), (q12, .inl (kA 0, 7, .inl (fun _ => 0))), (q13, .inl (kA 0, 7, .inl (fun _ => 0)))] H := hP
  have hD : va_D A [(m0, .inr (11, [.ref q1, .int 0, .int 0, .ref q2, .ref q3, .ref q4, .ref q5, .ref q6, .int 0, .int 0, .int 0, .int 0, .int 0, .int 0, .int 0, .ref q7, .int 0, .ref q8, .int 0, .ref q9, .ref q10, .ref q11, .int 0, .int 0, .int 0, .int 0, .int 0, .int 0, .ref q12, .null, .null, .null, .null, .int 0, .int 0, .int 0, .null, .null, .null, .null, .null, .null])), (q1, .inl (kA 1, 400, .inl (fun _ => 0))), (q2, .inl (kA 0, 2400, .inl (fun _ => 0))), (q3, .inl (kA 0, 6, .inl (fun _ => 0))), (q4, .inl (kA 0, 360, .inl (fun _ => 0))), (q5, .inl (kA 0, 6, .inl (fun _ => 0))), (q6, .inl (kA 0, 6, .inl (fun _ => 0))), (q7, .inl (kA 0, 400, .inl (fun _ => 0))), (q8, .inl (kA 2, 64, .inr (.inl (fun _ => 0)))), (q9, .inl (kA 2, 11, .inr (.inl (fun _ => 0)))), (q10, .inl (kA 0, 360, .inl (fun _ => 0))), (q11, .inl (kA 0, 360, .inl (fun _ => 0))), (q12, .inl (kA 0, 7, .inl (fun _ => 0))), (q13, .inl (kA 0, 7, .inl (fun _ => 0)))] := hD
  refine va_putF (D := (dC, dI)) (ci := 11) (v := .ref q13) (ty := .array (.int)) (C := RX11) (T := TX11) (N := 42) hx hb hts iX11_init_X11 tyX11 tyX11_ok nmX11 hown hK.1 hP hD hS 0 rfl rfl 29 (by decide) (kX11_init_19 hts) (fun _ h9 => h9) rfl hin rfl (by decide +kernel) rfl rfl (Nat.le_of_ble_eq_true rfl) dX11_init_111 (fun H locs hP hD hS => ?_)
  have hP : va_P (dC, dI) vwCl [(m0, .inr (11, [.ref q1, .int 0, .int 0, .ref q2, .ref q3, .ref q4, .ref q5, .ref q6, .int 0, .int 0, .int 0, .int 0, .int 0, .int 0, .int 0, .ref q7, .int 0, .ref q8, .int 0, .ref q9, .ref q10, .ref q11, .int 0, .int 0, .int 0, .int 0, .int 0, .int 0, .ref q12, .ref q13, .null, .null, .null, .int 0, .int 0, .int 0, .null, .null, .null, .null, .null, .null])), (q1, .inl (kA 1, 400, .inl (fun _ => 0))), (q2, .inl (kA 0, 2400, .inl (fun _ => 0))), (q3, .inl (kA 0, 6, .inl (fun _ => 0))), (q4, .inl (kA 0, 360, .inl (fun _ => 0))), (q5, .inl (kA 0, 6, .inl (fun _ => 0))), (q6, .inl (kA 0, 6, .inl (fun _ => 0))), (q7, .inl (kA 0, 400, .inl (fun _ => 0))), (q8, .inl (kA 2, 64, .inr (.inl (fun _ => 0)))), (q9, .inl (kA 2, 11, .inr (.inl (fun _ => 0)))), (q10, .inl (kA 0, 360, .inl (fun _ => 0))), (q11, .inl (kA 0, 360, .inl (fun _ => 0))), (q12, .inl (kA 0, 7, .inl (fun _ => 0))), (q13, .inl (kA 0, 7, .inl (fun _ => 0)))] H := hP
  have hD : va_D A [(m0, .inr (11, [.ref q1, .int 0, .int 0, .ref q2, .ref q3, .ref q4, .ref q5, .ref q6, .int 0, .int 0, .int 0, .int 0, .int 0, .int 0, .int 0, .ref q7, .int 0, .ref q8, .int 0, .ref q9, .ref q10, .ref q11, .int 0, .int 0, .int 0, .int 0, .int 0, .int 0, .ref q12, .ref q13, .null, .null, .null, .int 0, .int 0, .int 0, .null, .null, .null, .null, .null, .null])), (q1, .inl (kA 1, 400, .inl (fun _ => 0))), (q2, .inl (kA 0, 2400, .inl (fun _ => 0))), (q3, .inl (kA 0, 6, .inl (fun _ => 0))), (q4, .inl (kA 0, 360, .inl (fun _ => 0))), (q5, .inl (kA 0, 6, .inl (fun _ => 0))), (q6, .inl (kA 0, 6, .inl (fun _ => 0))), (q7, .inl (kA 0, 400, .inl (fun _ => 0))), (q8, .inl (kA 2, 64, .inr (.inl (fun _ => 0)))), (q9, .inl (kA 2, 11, .inr (.inl (fun _ => 0)))), (q10, .inl (kA 0, 360, .inl (fun _ => 0))), (q11, .inl (kA 0, 360, .inl (fun _ => 0))), (q12, .inl (kA 0, 7, .inl (fun _ => 0))), (q13, .inl (kA 0, 7, .inl (fun _ => 0)))] := hD
  refine lv_aload_n hx hb dX11_init_114 rfl (lv_at hl 0 rfl) ?_
  refine lv_bipush (v := 7) hx hb dX11_init_115 (by decide) ?_
  refine z_newi hx hb (kX11_init_6 hts) hK hP hD hS hA 7 (by decide) (by decide) (by decide) (Nat.le_of_ble_eq_true rfl) (Nat.le_of_ble_eq_true rfl) dX11_init_117 (fun q14 H hP hD hS => ?_)
  refine W.widen (k := 14) (n := 4394) (Nat.le_of_ble_eq_true rfl) (Nat.le_of_ble_eq_true rfl) ?_
  have hP : va_P (dC, dI) vwCl [(m0, .inr (11, [.ref q1, .int 0, .int 0, .ref q2, .ref q3, .ref q4, .ref q5, .ref q6, .int 0, .int 0, .int 0, .int 0, .int 0, .int 0, .int 0, .ref q7, .int 0, .ref q8, .int 0, .ref q9, .ref q10, .ref q11, .int 0, .int 0, .int 0, .int 0, .int 0, .int 0, .ref q12, .ref q13, .null, .null, .null, .int 0, .int 0, .int 0, .null, .null, .null, .null, .null, .null])), (q1, .inl (kA 1, 400, .inl (fun _ => 0))), (q2, .inl (kA 0, 2400, .inl (fun _ => 0))), (q3, .inl (kA 0, 6, .inl (fun _ => 0))), (q4, .inl (kA 0, 360, .inl (fun _ => 0))), (q5, .inl (kA 0, 6, .inl (fun _ => 0))), (q6, .inl (kA 0, 6, .inl (fun _ => 0))), (q7, .inl (kA 0, 400, .inl (fun _ => 0))), (q8, .inl (kA 2, 64, .inr (.inl (fun _ => 0)))), (q9, .inl (kA 2, 11, .inr (.inl (fun _ => 0)))), (q10, .inl (kA 0, 360, .inl (fun _ => 0))), (q11, .inl (kA 0, 360, .inl (fun _ => 0))), (q12, .inl (kA 0, 7, .inl (fun _ => 0))), (q13, .inl (kA 0, 7, .inl (fun _ => 0))), (q14, .inl (kA 0, 7, .inl (fun _ => 0)))] H := hP
  have hD : va_D A [(m0, .inr (11, [.ref q1, .int 0, .int 0, .ref q2, .ref q3, .ref q4, .ref q5, .ref q6, .int 0, .int 0, .int 0, .int 0, .int 0, .int 0, .int 0, .ref q7, .int 0, .ref q8, .int 0, .ref q9, .ref q10, .ref q11, .int 0, .int 0, .int 0, .int 0, .int 0, .int 0, .ref q12, .ref q13, .null, .null, .null, .int 0, .int 0, .int 0, .null, .null, .null, .null, .null, .null])), (q1, .inl (kA 1, 400, .inl (fun _ => 0))), (q2, .inl (kA 0, 2400, .inl (fun _ => 0))), (q3, .inl (kA 0, 6, .inl (fun _ => 0))), (q4, .inl (kA 0, 360, .inl (fun _ => 0))), (q5, .inl (kA 0, 6, .inl (fun _ => 0))), (q6, .inl (kA 0, 6, .inl (fun _ => 0))), (q7, .inl (kA 0, 400, .inl (fun _ => 0))), (q8, .inl (kA 2, 64, .inr (.inl (fun _ => 0)))), (q9, .inl (kA 2, 11, .inr (.inl (fun _ => 0)))), (q10, .inl (kA 0, 360, .inl (fun _ => 0))), (q11, .inl (kA 0, 360, .inl (fun _ => 0))), (q12, .inl (kA 0, 7, .inl (fun _ => 0))), (q13, .inl (kA 0, 7, .inl (fun _ => 0))), (q14, .inl (kA 0, 7, .inl (fun _ => 0)))] := hD
  refine va_putF (D := (dC, dI)) (ci := 11) (v := .ref q14) (ty := .array (.int)) (C := RX11) (T := TX11) (N := 42) hx hb hts iX11_init_X11 tyX11 tyX11_ok nmX11 hown hK.1 hP hD hS 0 rfl rfl 30 (by decide) (kX11_init_20 hts) (fun _ h9 => h9) rfl hin rfl (by decide +kernel) rfl rfl (Nat.le_of_ble_eq_true rfl) dX11_init_119 (fun H locs hP hD hS => ?_)
  have hP : va_P (dC, dI) vwCl [(m0, .inr (11, [.ref q1, .int 0, .int 0, .ref q2, .ref q3, .ref q4, .ref q5, .ref q6, .int 0, .int 0, .int 0, .int 0, .int 0, .int 0, .int 0, .ref q7, .int 0, .ref q8, .int 0, .ref q9, .ref q10, .ref q11, .int 0, .int 0, .int 0, .int 0, .int 0, .int 0, .ref q12, .ref q13, .ref q14, .null, .null, .int 0, .int 0, .int 0, .null, .null, .null, .null, .null, .null])), (q1, .inl (kA 1, 400, .inl (fun _ => 0))), (q2, .inl (kA 0, 2400, .inl (fun _ => 0))), (q3, .inl (kA 0, 6, .inl (fun _ => 0))), (q4, .inl (kA 0, 360, .inl (fun _ => 0))), (q5, .inl (kA 0, 6, .inl (fun _ => 0))), (q6, .inl (kA 0, 6, .inl (fun _ => 0))), (q7, .inl (kA 0, 400, .inl (fun _ => 0))), (q8, .inl (kA 2, 64, .inr (.inl (fun _ => 0)))), (q9, .inl (kA 2, 11, .inr (.inl (fun _ => 0)))), (q10, .inl (kA 0, 360, .inl (fun _ => 0))), (q11, .inl (kA 0, 360, .inl (fun _ => 0))), (q12, .inl (kA 0, 7, .inl (fun _ => 0))), (q13, .inl (kA 0, 7, .inl (fun _ => 0))), (q14, .inl (kA 0, 7, .inl (fun _ => 0)))] H := hP
  have hD : va_D A [(m0, .inr (11, [.ref q1, .int 0, .int 0, .ref q2, .ref q3, .ref q4, .ref q5, .ref q6, .int 0, .int 0, .int 0, .int 0, .int 0, .int 0, .int 0, .ref q7, .int 0, .ref q8, .int 0, .ref q9, .ref q10, .ref q11, .int 0, .int 0, .int 0, .int 0, .int 0, .int 0, .ref q12, .ref q13, .ref q14, .null, .null, .int 0, .int 0, .int 0, .null, .null, .null, .null, .null, .null])), (q1, .inl (kA 1, 400, .inl (fun _ => 0))), (q2, .inl (kA 0, 2400, .inl (fun _ => 0))), (q3, .inl (kA 0, 6, .inl (fun _ => 0))), (q4, .inl (kA 0, 360, .inl (fun _ => 0))), (q5, .inl (kA 0, 6, .inl (fun _ => 0))), (q6, .inl (kA 0, 6, .inl (fun _ => 0))), (q7, .inl (kA 0, 400, .inl (fun _ => 0))), (q8, .inl (kA 2, 64, .inr (.inl (fun _ => 0)))), (q9, .inl (kA 2, 11, .inr (.inl (fun _ => 0)))), (q10, .inl (kA 0, 360, .inl (fun _ => 0))), (q11, .inl (kA 0, 360, .inl (fun _ => 0))), (q12, .inl (kA 0, 7, .inl (fun _ => 0))), (q13, .inl (kA 0, 7, .inl (fun _ => 0))), (q14, .inl (kA 0, 7, .inl (fun _ => 0)))] := hD
  refine lv_aload_n hx hb dX11_init_122 rfl (lv_at hl 0 rfl) ?_
  refine lv_bipush (v := 7) hx hb dX11_init_123 (by decide) ?_
  refine z_newi hx hb (kX11_init_6 hts) hK hP hD hS hA 7 (by decide) (by decide) (by decide) (Nat.le_of_ble_eq_true rfl) (Nat.le_of_ble_eq_true rfl) dX11_init_125 (fun q15 H hP hD hS => ?_)
  refine W.widen (k := 15) (n := 4401) (Nat.le_of_ble_eq_true rfl) (Nat.le_of_ble_eq_true rfl) ?_
  have hP : va_P (dC, dI) vwCl [(m0, .inr (11, [.ref q1, .int 0, .int 0, .ref q2, .ref q3, .ref q4, .ref q5, .ref q6, .int 0, .int 0, .int 0, .int 0, .int 0, .int 0, .int 0, .ref q7, .int 0, .ref q8, .int 0, .ref q9, .ref q10, .ref q11, .int 0, .int 0, .int 0, .int 0, .int 0, .int 0, .ref q12, .ref q13, .ref q14, .null, .null, .int 0, .int 0, .int 0, .null, .null, .null, .null, .null, .null])), (q1, .inl (kA 1, 400, .inl (fun _ => 0))), (q2, .inl (kA 0, 2400, .inl (fun _ => 0))), (q3, .inl (kA 0, 6, .inl (fun _ => 0))), (q4, .inl (kA 0, 360, .inl (fun _ => 0))), (q5, .inl (kA 0, 6, .inl (fun _ => 0))), (q6, .inl (kA 0, 6, .inl (fun _ => 0))), (q7, .inl (kA 0, 400, .inl (fun _ => 0))), (q8, .inl (kA 2, 64, .inr (.inl (fun _ => 0)))), (q9, .inl (kA 2, 11, .inr (.inl (fun _ => 0)))), (q10, .inl (kA 0, 360, .inl (fun _ => 0))), (q11, .inl (kA 0, 360, .inl (fun _ => 0))), (q12, .inl (kA 0, 7, .inl (fun _ => 0))), (q13, .inl (kA 0, 7, .inl (fun _ => 0))), (q14, .inl (kA 0, 7, .inl (fun _ => 0))), (q15, .inl (kA 0, 7, .inl (fun _ => 0)))] H := hP
  have hD : va_D A [(m0, .inr (11, [.ref q1, .int 0, .int 0, .ref q2, .ref q3, .ref q4, .ref q5, .ref q6, .int 0, .int 0, .int 0, .int 0, .int 0, .int 0, .int 0, .ref q7, .int 0, .ref q8, .int 0, .ref q9, .ref q10, .ref q11, .int 0, .int 0, .int 0, .int 0, .int 0, .int 0, .ref q12, .ref q13, .ref q14, .null, .null, .int 0, .int 0, .int 0, .null, .null, .null, .null, .null, .null])), (q1, .inl (kA 1, 400, .inl (fun _ => 0))), (q2, .inl (kA 0, 2400, .inl (fun _ => 0))), (q3, .inl (kA 0, 6, .inl (fun _ => 0))), (q4, .inl (kA 0, 360, .inl (fun _ => 0))), (q5, .inl (kA 0, 6, .inl (fun _ => 0))), (q6, .inl (kA 0, 6, .inl (fun _ => 0))), (q7, .inl (kA 0, 400, .inl (fun _ => 0))), (q8, .inl (kA 2, 64, .inr (.inl (fun _ => 0)))), (q9, .inl (kA 2, 11, .inr (.inl (fun _ => 0)))), (q10, .inl (kA 0, 360, .inl (fun _ => 0))), (q11, .inl (kA 0, 360, .inl (fun _ => 0))), (q12, .inl (kA 0, 7, .inl (fun _ => 0))), (q13, .inl (kA 0, 7, .inl (fun _ => 0))), (q14, .inl (kA 0, 7, .inl (fun _ => 0))), (q15, .inl (kA 0, 7, .inl (fun _ => 0)))] := hD
  refine va_putF (D := (dC, dI)) (ci := 11) (v := .ref q15) (ty := .array (.int)) (C := RX11) (T := TX11) (N := 42) hx hb hts iX11_init_X11 tyX11 tyX11_ok nmX11 hown hK.1 hP hD hS 0 rfl rfl 31 (by decide) (kX11_init_21 hts) (fun _ h9 => h9) rfl hin rfl (by decide +kernel) rfl rfl (Nat.le_of_ble_eq_true rfl) dX11_init_127 (fun H locs hP hD hS => ?_)
  have hP : va_P (dC, dI) vwCl [(m0, .inr (11, [.ref q1, .int 0, .int 0, .ref q2, .ref q3, .ref q4, .ref q5, .ref q6, .int 0, .int 0, .int 0, .int 0, .int 0, .int 0, .int 0, .ref q7, .int 0, .ref q8, .int 0, .ref q9, .ref q10, .ref q11, .int 0, .int 0, .int 0, .int 0, .int 0, .int 0, .ref q12, .ref q13, .ref q14, .ref q15, .null, .int 0, .int 0, .int 0, .null, .null, .null, .null, .null, .null])), (q1, .inl (kA 1, 400, .inl (fun _ => 0))), (q2, .inl (kA 0, 2400, .inl (fun _ => 0))), (q3, .inl (kA 0, 6, .inl (fun _ => 0))), (q4, .inl (kA 0, 360, .inl (fun _ => 0))), (q5, .inl (kA 0, 6, .inl (fun _ => 0))), (q6, .inl (kA 0, 6, .inl (fun _ => 0))), (q7, .inl (kA 0, 400, .inl (fun _ => 0))), (q8, .inl (kA 2, 64, .inr (.inl (fun _ => 0)))), (q9, .inl (kA 2, 11, .inr (.inl (fun _ => 0)))), (q10, .inl (kA 0, 360, .inl (fun _ => 0))), (q11, .inl (kA 0, 360, .inl (fun _ => 0))), (q12, .inl (kA 0, 7, .inl (fun _ => 0))), (q13, .inl (kA 0, 7, .inl (fun _ => 0))), (q14, .inl (kA 0, 7, .inl (fun _ => 0))), (q15, .inl (kA 0, 7, .inl (fun _ => 0)))] H := hP
  have hD : va_D A [(m0, .inr (11, [.ref q1, .int 0, .int 0, .ref q2, .ref q3, .ref q4, .ref q5, .ref q6, .int 0, .int 0, .int 0, .int 0, .int 0, .int 0, .int 0, .ref q7, .int 0, .ref q8, .int 0, .ref q9, .ref q10, .ref q11, .int 0, .int 0, .int 0, .int 0, .int 0, .int 0, .ref q12, .ref q13, .ref q14, .ref q15, .null, .int 0, .int 0, .int 0, .null, .null, .null, .null, .null, .null])), (q1, .inl (kA 1, 400, .inl (fun _ => 0))), (q2, .inl (kA 0, 2400, .inl (fun _ => 0))), (q3, .inl (kA 0, 6, .inl (fun _ => 0))), (q4, .inl (kA 0, 360, .inl (fun _ => 0))), (q5, .inl (kA 0, 6, .inl (fun _ => 0))), (q6, .inl (kA 0, 6, .inl (fun _ => 0))), (q7, .inl (kA 0, 400, .inl (fun _ => 0))), (q8, .inl (kA 2, 64, .inr (.inl (fun _ => 0)))), (q9, .inl (kA 2, 11, .inr (.inl (fun _ => 0)))), (q10, .inl (kA 0, 360, .inl (fun _ => 0))), (q11, .inl (kA 0, 360, .inl (fun _ => 0))), (q12, .inl (kA 0, 7, .inl (fun _ => 0))), (q13, .inl (kA 0, 7, .inl (fun _ => 0))), (q14, .inl (kA 0, 7, .inl (fun _ => 0))), (q15, .inl (kA 0, 7, .inl (fun _ => 0)))] := hD
  refine lv_aload_n hx hb dX11_init_130 rfl (lv_at hl 0 rfl) ?_
  refine lv_bipush (v := 7) hx hb dX11_init_131 (by decide) ?_
  refine z_newi hx hb (kX11_init_6 hts) hK hP hD hS hA 7 (by decide) (by decide) (by decide) (Nat.le_of_ble_eq_true rfl) (Nat.le_of_ble_eq_true rfl) dX11_init_133 (fun q16 H hP hD hS => ?_)
  refine W.widen (k := 16) (n := 4408) (Nat.le_of_ble_eq_true rfl) (Nat.le_of_ble_eq_true rfl) ?_
  have hP : va_P (dC, dI) vwCl [(m0, .inr (11, [.ref q1, .int 0, .int 0, .ref q2, .ref q3, .ref q4, .ref q5, .ref q6, .int 0, .int 0, .int 0, .int 0, .int 0, .int 0, .int 0, .ref q7, .int 0, .ref q8, .int 0, .ref q9, .ref q10, .ref q11, .int 0, .int 0, .int 0, .int 0, .int 0, .int 0, .ref q12, .ref q13, .ref q14, .ref q15, .null, .int 0, .int 0, .int 0, .null, .null, .null, .null, .null, .null])), (q1, .inl (kA 1, 400, .inl (fun _ => 0))), (q2, .inl (kA 0, 2400, .inl (fun _ => 0))), (q3, .inl (kA 0, 6, .inl (fun _ => 0))), (q4, .inl (kA 0, 360, .inl (fun _ => 0))), (q5, .inl (kA 0, 6, .inl (fun _ => 0))), (q6, .inl (kA 0, 6, .inl (fun _ => 0))), (q7, .inl (kA 0, 400, .inl (fun _ => 0))), (q8, .inl (kA 2, 64, .inr (.inl (fun _ => 0)))), (q9, .inl (kA 2, 11, .inr (.inl (fun _ => 0)))), (q10, .inl (kA 0, 360, .inl (fun _ => 0))), (q11, .inl (kA 0, 360, .inl (fun _ => 0))), (q12, .inl (kA 0, 7, .inl (fun _ => 0))), (q13, .inl (kA 0, 7, .inl (fun _ => 0))), (q14, .inl (kA 0, 7, .inl (fun _ => 0))), (q15, .inl (kA 0, 7, .inl (fun _ => 0))), (q16, .inl (kA 0, 7, .inl (fun _ => 0)))] H := hP
  have hD : va_D A [(m0, .inr (11, [.ref q1, .int 0, .int 0, .ref q2, .ref q3, .ref q4, .ref q5, .ref q6, .int 0, .int 0, .int 0, .int 0, .int 0, .int 0, .int 0, .ref q7, .int 0, .ref q8, .int 0, .ref q9, .ref q10, .ref q11, .int 0, .int 0, .int 0, .int 0, .int 0, .int 0, .ref q12, .ref q13, .ref q14, .ref q15, .null, .int 0, .int 0, .int 0, .null, .null, .null, .null, .null, .null])), (q1, .inl (kA 1, 400, .inl (fun _ => 0))), (q2, .inl (kA 0, 2400, .inl (fun _ => 0))), (q3, .inl (kA 0, 6, .inl (fun _ => 0))), (q4, .inl (kA 0, 360, .inl (fun _ => 0))), (q5, .inl (kA 0, 6, .inl (fun _ => 0))), (q6, .inl (kA 0, 6, .inl (fun _ => 0))), (q7, .inl (kA 0, 400, .inl (fun _ => 0))), (q8, .inl (kA 2, 64, .inr (.inl (fun _ => 0)))), (q9, .inl (kA 2, 11, .inr (.inl (fun _ => 0)))), (q10, .inl (kA 0, 360, .inl (fun _ => 0))), (q11, .inl (kA 0, 360, .inl (fun _ => 0))), (q12, .inl (kA 0, 7, .inl (fun _ => 0))), (q13, .inl (kA 0, 7, .inl (fun _ => 0))), (q14, .inl (kA 0, 7, .inl (fun _ => 0))), (q15, .inl (kA 0, 7, .inl (fun _ => 0))), (q16, .inl (kA 0, 7, .inl (fun _ => 0)))] := hD
  refine va_putF (D := (dC, dI)) (ci := 11) (v := .ref q16) (ty := .array (.int)) (C := RX11) (T := TX11) (N := 42) hx hb hts iX11_init_X11 tyX11 tyX11_ok nmX11 hown hK.1 hP hD hS 0 rfl rfl 32 (by decide) (kX11_init_22 hts) (fun _ h9 => h9) rfl hin rfl (by decide +kernel) rfl rfl (Nat.le_of_ble_eq_true rfl) dX11_init_135 (fun H locs hP hD hS => ?_)
  have hP : va_P (dC, dI) vwCl [(m0, .inr (11, [.ref q1, .int 0, .int 0, .ref q2, .ref q3, .ref q4, .ref q5, .ref q6, .int 0, .int 0, .int 0, .int 0, .int 0, .int 0, .int 0, .ref q7, .int 0, .ref q8, .int 0, .ref q9, .ref q10, .ref q11, .int 0, .int 0, .int 0, .int 0, .int 0, .int 0, .ref q12, .ref q13, .ref q14, .ref q15, .ref q16, .int 0, .int 0, .int 0, .null, .null, .null, .null, .null, .null])), (q1, .inl (kA 1, 400, .inl (fun _ => 0))), (q2, .inl (kA 0, 2400, .inl (fun _ => 0))), (q3, .inl (kA 0, 6, .inl (fun _ => 0))), (q4, .inl (kA 0, 360, .inl (fun _ => 0))), (q5, .inl (kA 0, 6, .inl (fun _ => 0))), (q6, .inl (kA 0, 6, .inl (fun _ => 0))), (q7, .inl (kA 0, 400, .inl (fun _ => 0))), (q8, .inl (kA 2, 64, .inr (.inl (fun _ => 0)))), (q9, .inl (kA 2, 11, .inr (.inl (fun _ => 0)))), (q10, .inl (kA 0, 360, .inl (fun _ => 0))), (q11, .inl (kA 0, 360, .inl (fun _ => 0))), (q12, .inl (kA 0, 7, .inl (fun _ => 0))), (q13, .inl (kA 0, 7, .inl (fun _ => 0))), (q14, .inl (kA 0, 7, .inl (fun _ => 0))), (q15, .inl (kA 0, 7, .inl (fun _ => 0))), (q16, .inl (kA 0, 7, .inl (fun _ => 0)))] H := hP
  have hD : va_D A [(m0, .inr (11, [.ref q1, .int 0, .int 0, .ref q2, .ref q3, .ref q4, .ref q5, .ref q6, .int 0, .int 0, .int 0, .int 0, .int 0, .int 0, .int 0, .ref q7, .int 0, .ref q8, .int 0, .ref q9, .ref q10, .ref q11, .int 0, .int 0, .int 0, .int 0, .int 0, .int 0, .ref q12, .ref q13, .ref q14, .ref q15, .ref q16, .int 0, .int 0, .int 0, .null, .null, .null, .null, .null, .null])), (q1, .inl (kA 1, 400, .inl (fun _ => 0))), (q2, .inl (kA 0, 2400, .inl (fun _ => 0))), (q3, .inl (kA 0, 6, .inl (fun _ => 0))), (q4, .inl (kA 0, 360, .inl (fun _ => 0))), (q5, .inl (kA 0, 6, .inl (fun _ => 0))), (q6, .inl (kA 0, 6, .inl (fun _ => 0))), (q7, .inl (kA 0, 400, .inl (fun _ => 0))), (q8, .inl (kA 2, 64, .inr (.inl (fun _ => 0)))), (q9, .inl (kA 2, 11, .inr (.inl (fun _ => 0)))), (q10, .inl (kA 0, 360, .inl (fun _ => 0))), (q11, .inl (kA 0, 360, .inl (fun _ => 0))), (q12, .inl (kA 0, 7, .inl (fun _ => 0))), (q13, .inl (kA 0, 7, .inl (fun _ => 0))), (q14, .inl (kA 0, 7, .inl (fun _ => 0))), (q15, .inl (kA 0, 7, .inl (fun _ => 0))), (q16, .inl (kA 0, 7, .inl (fun _ => 0)))] := hD
  refine lv_aload_n hx hb dX11_init_138 rfl (lv_at hl 0 rfl) ?_
  refine lv_bipush (v := 6) hx hb dX11_init_139 (by decide) ?_
  refine z_newi hx hb (kX11_init_6 hts) hK hP hD hS hA 6 (by decide) (by decide) (by decide) (Nat.le_of_ble_eq_true rfl) (Nat.le_of_ble_eq_true rfl) dX11_init_141 (fun q17 H hP hD hS => ?_)
  refine W.widen (k := 17) (n := 4414) (Nat.le_of_ble_eq_true rfl) (Nat.le_of_ble_eq_true rfl) ?_
  have hP : va_P (dC, dI) vwCl [(m0, .inr (11, [.ref q1, .int 0, .int 0, .ref q2, .ref q3, .ref q4, .ref q5, .ref q6, .int 0, .int 0, .int 0, .int 0, .int 0, .int 0, .int 0, .ref q7, .int 0, .ref q8, .int 0, .ref q9, .ref q10, .ref q11, .int 0, .int 0, .int 0, .int 0, .int 0, .int 0, .ref q12, .ref q13, .ref q14, .ref q15, .ref q16, .int 0, .int 0, .int 0, .null, .null, .null, .null, .null, .null])), (q1, .inl (kA 1, 400, .inl (fun _ => 0))), (q2, .inl (kA 0, 2400, .inl (fun _ => 0))), (q3, .inl (kA 0, 6, .inl (fun _ => 0))), (q4, .inl (kA 0, 360, .inl (fun _ => 0))), (q5, .inl (kA 0, 6, .inl (fun _ => 0))), (q6, .inl (kA 0, 6, .inl (fun _ => 0))), (q7, .inl (kA 0, 400, .inl (fun _ => 0))), (q8, .inl (kA 2, 64, .inr (.inl (fun _ => 0)))), (q9, .inl (kA 2, 11, .inr (.inl (fun _ => 0)))), (q10, .inl (kA 0, 360, .inl (fun _ => 0))), (q11, .inl (kA 0, 360, .inl (fun _ => 0))), (q12, .inl (kA 0, 7, .inl (fun _ => 0))), (q13, .inl (kA 0, 7, .inl (fun _ => 0))), (q14, .inl (kA 0, 7, .inl (fun _ => 0))), (q15, .inl (kA 0, 7, .inl (fun _ => 0))), (q16, .inl (kA 0, 7, .inl (fun _ => 0))), (q17, .inl (kA 0, 6, .inl (fun _ => 0)))] H := hP
  have hD : va_D A [(m0, .inr (11, [.ref q1, .int 0, .int 0, .ref q2, .ref q3, .ref q4, .ref q5, .ref q6, .int 0, .int 0, .int 0, .int 0, .int 0, .int 0, .int 0, .ref q7, .int 0, .ref q8, .int 0, .ref q9, .ref q10, .ref q11, .int 0, .int 0, .int 0, .int 0, .int 0, .int 0, .ref q12, .ref q13, .ref q14, .ref q15, .ref q16, .int 0, .int 0, .int 0, .null, .null, .null, .null, .null, .null])), (q1, .inl (kA 1, 400, .inl (fun _ => 0))), (q2, .inl (kA 0, 2400, .inl (fun _ => 0))), (q3, .inl (kA 0, 6, .inl (fun _ => 0))), (q4, .inl (kA 0, 360, .inl (fun _ => 0))), (q5, .inl (kA 0, 6, .inl (fun _ => 0))), (q6, .inl (kA 0, 6, .inl (fun _ => 0))), (q7, .inl (kA 0, 400, .inl (fun _ => 0))), (q8, .inl (kA 2, 64, .inr (.inl (fun _ => 0)))), (q9, .inl (kA 2, 11, .inr (.inl (fun _ => 0)))), (q10, .inl (kA 0, 360, .inl (fun _ => 0))), (q11, .inl (kA 0, 360, .inl (fun _ => 0))), (q12, .inl (kA 0, 7, .inl (fun _ => 0))), (q13, .inl (kA 0, 7, .inl (fun _ => 0))), (q14, .inl (kA 0, 7, .inl (fun _ => 0))), (q15, .inl (kA 0, 7, .inl (fun _ => 0))), (q16, .inl (kA 0, 7, .inl (fun _ => 0))), (q17, .inl (kA 0, 6, .inl (fun _ => 0)))] := hD
  refine va_putF (D := (dC, dI)) (ci := 11) (v := .ref q17) (ty := .array (.int)) (C := RX11) (T := TX11) (N := 42) hx hb hts iX11_init_X11 tyX11 tyX11_ok nmX11 hown hK.1 hP hD hS 0 rfl rfl 36 (by decide) (kX11_init_23 hts) (fun _ h9 => h9) rfl hin rfl (by decide +kernel) rfl rfl (Nat.le_of_ble_eq_true rfl) dX11_init_143 (fun H locs hP hD hS => ?_)
  have hP : va_P (dC, dI) vwCl [(m0, .inr (11, [.ref q1, .int 0, .int 0, .ref q2, .ref q3, .ref q4, .ref q5, .ref q6, .int 0, .int 0, .int 0, .int 0, .int 0, .int 0, .int 0, .ref q7, .int 0, .ref q8, .int 0, .ref q9, .ref q10, .ref q11, .int 0, .int 0, .int 0, .int 0, .int 0, .int 0, .ref q12, .ref q13, .ref q14, .ref q15, .ref q16, .int 0, .int 0, .int 0, .ref q17, .null, .null, .null, .null, .null])), (q1, .inl (kA 1, 400, .inl (fun _ => 0))), (q2, .inl (kA 0, 2400, .inl (fun _ => 0))), (q3, .inl (kA 0, 6, .inl (fun _ => 0))), (q4, .inl (kA 0, 360, .inl (fun _ => 0))), (q5, .inl (kA 0, 6, .inl (fun _ => 0))), (q6, .inl (kA 0, 6, .inl (fun _ => 0))), (q7, .inl (kA 0, 400, .inl (fun _ => 0))), (q8, .inl (kA 2, 64, .inr (.inl (fun _ => 0)))), (q9, .inl (kA 2, 11, .inr (.inl (fun _ => 0)))), (q10, .inl (kA 0, 360, .inl (fun _ => 0))), (q11, .inl (kA 0, 360, .inl (fun _ => 0))), (q12, .inl (kA 0, 7, .inl (fun _ => 0))), (q13, .inl (kA 0, 7, .inl (fun _ => 0))), (q14, .inl (kA 0, 7, .inl (fun _ => 0))), (q15, .inl (kA 0, 7, .inl (fun _ => 0))), (q16, .inl (kA 0, 7, .inl (fun _ => 0))), (q17, .inl (kA 0, 6, .inl (fun _ => 0)))] H := hP
  have hD : va_D A [(m0, .inr (11, [.ref q1, .int 0, .int 0, .ref q2, .ref q3, .ref q4, .ref q5, .ref q6, .int 0, .int 0, .int 0, .int 0, .int 0, .int 0, .int 0, .ref q7, .int 0, .ref q8, .int 0, .ref q9, .ref q10, .ref q11, .int 0, .int 0, .int 0, .int 0, .int 0, .int 0, .ref q12, .ref q13, .ref q14, .ref q15, .ref q16, .int 0, .int 0, .int 0, .ref q17, .null, .null, .null, .null, .null])), (q1, .inl (kA 1, 400, .inl (fun _ => 0))), (q2, .inl (kA 0, 2400, .inl (fun _ => 0))), (q3, .inl (kA 0, 6, .inl (fun _ => 0))), (q4, .inl (kA 0, 360, .inl (fun _ => 0))), (q5, .inl (kA 0, 6, .inl (fun _ => 0))), (q6, .inl (kA 0, 6, .inl (fun _ => 0))), (q7, .inl (kA 0, 400, .inl (fun _ => 0))), (q8, .inl (kA 2, 64, .inr (.inl (fun _ => 0)))), (q9, .inl (kA 2, 11, .inr (.inl (fun _ => 0)))), (q10, .inl (kA 0, 360, .inl (fun _ => 0))), (q11, .inl (kA 0, 360, .inl (fun _ => 0))), (q12, .inl (kA 0, 7, .inl (fun _ => 0))), (q13, .inl (kA 0, 7, .inl (fun _ => 0))), (q14, .inl (kA 0, 7, .inl (fun _ => 0))), (q15, .inl (kA 0, 7, .inl (fun _ => 0))), (q16, .inl (kA 0, 7, .inl (fun _ => 0))), (q17, .inl (kA 0, 6, .inl (fun _ => 0)))] := hD
  refine lv_aload_n hx hb dX11_init_146 rfl (lv_at hl 0 rfl) ?_
  refine lv_bipush (v := 12) hx hb dX11_init_147 (by decide) ?_
  refine z_newi hx hb (kX11_init_6 hts) hK hP hD hS hA 12 (by decide) (by decide) (by decide) (Nat.le_of_ble_eq_true rfl) (Nat.le_of_ble_eq_true rfl) dX11_init_149 (fun q18 H hP hD hS => ?_)
  refine W.widen (k := 18) (n := 4426) (Nat.le_of_ble_eq_true rfl) (Nat.le_of_ble_eq_true rfl) ?_
  have hP : va_P (dC, dI) vwCl [(m0, .inr (11, [.ref q1, .int 0, .int 0, .ref q2, .ref q3, .ref q4, .ref q5, .ref q6, .int 0, .int 0, .int 0, .int 0, .int 0, .int 0, .int 0, .ref q7, .int 0, .ref q8, .int 0, .ref q9, .ref q10, .ref q11, .int 0, .int 0, .int 0, .int 0, .int 0, .int 0, .ref q12, .ref q13, .ref q14, .ref q15, .ref q16, .int 0, .int 0, .int 0, .ref q17, .null, .null, .null, .null, .null])), (q1, .inl (kA 1, 400, .inl (fun _ => 0))), (q2, .inl (kA 0, 2400, .inl (fun _ => 0))), (q3, .inl (kA 0, 6, .inl (fun _ => 0))), (q4, .inl (kA 0, 360, .inl (fun _ => 0))), (q5, .inl (kA 0, 6, .inl (fun _ => 0))), (q6, .inl (kA 0, 6, .inl (fun _ => 0))), (q7, .inl (kA 0, 400, .inl (fun _ => 0))), (q8, .inl (kA 2, 64, .inr (.inl (fun _ => 0)))), (q9, .inl (kA 2, 11, .inr (.inl (fun _ => 0)))), (q10, .inl (kA 0, 360, .inl (fun _ => 0))), (q11, .inl (kA 0, 360, .inl (fun _ => 0))), (q12, .inl (kA 0, 7, .inl (fun _ => 0))), (q13, .inl (kA 0, 7, .inl (fun _ => 0))), (q14, .inl (kA 0, 7, .inl (fun _ => 0))), (q15, .inl (kA 0, 7, .inl (fun _ => 0))), (q16, .inl (kA 0, 7, .inl (fun _ => 0))), (q17, .inl (kA 0, 6, .inl (fun _ => 0))), (q18, .inl (kA 0, 12, .inl (fun _ => 0)))] H := hP
  have hD : va_D A [(m0, .inr (11, [.ref q1, .int 0, .int 0, .ref q2, .ref q3, .ref q4, .ref q5, .ref q6, .int 0, .int 0, .int 0, .int 0, .int 0, .int 0, .int 0, .ref q7, .int 0, .ref q8, .int 0, .ref q9, .ref q10, .ref q11, .int 0, .int 0, .int 0, .int 0, .int 0, .int 0, .ref q12, .ref q13, .ref q14, .ref q15, .ref q16, .int 0, .int 0, .int 0, .ref q17, .null, .null, .null, .null, .null])), (q1, .inl (kA 1, 400, .inl (fun _ => 0))), (q2, .inl (kA 0, 2400, .inl (fun _ => 0))), (q3, .inl (kA 0, 6, .inl (fun _ => 0))), (q4, .inl (kA 0, 360, .inl (fun _ => 0))), (q5, .inl (kA 0, 6, .inl (fun _ => 0))), (q6, .inl (kA 0, 6, .inl (fun _ => 0))), (q7, .inl (kA 0, 400, .inl (fun _ => 0))), (q8, .inl (kA 2, 64, .inr (.inl (fun _ => 0)))), (q9, .inl (kA 2, 11, .inr (.inl (fun _ => 0)))), (q10, .inl (kA 0, 360, .inl (fun _ => 0))), (q11, .inl (kA 0, 360, .inl (fun _ => 0))), (q12, .inl (kA 0, 7, .inl (fun _ => 0))), (q13, .inl (kA 0, 7, .inl (fun _ => 0))), (q14, .inl (kA 0, 7, .inl (fun _ => 0))), (q15, .inl (kA 0, 7, .inl (fun _ => 0))), (q16, .inl (kA 0, 7, .inl (fun _ => 0))), (q17, .inl (kA 0, 6, .inl (fun _ => 0))), (q18, .inl (kA 0, 12, .inl (fun _ => 0)))] := hD
  refine va_putF (D := (dC, dI)) (ci := 11) (v := .ref q18) (ty := .array (.int)) (C := RX11) (T := TX11) (N := 42) hx hb hts iX11_init_X11 tyX11 tyX11_ok nmX11 hown hK.1 hP hD hS 0 rfl rfl 37 (by decide) (kX11_init_24 hts) (fun _ h9 => h9) rfl hin rfl (by decide +kernel) rfl rfl (Nat.le_of_ble_eq_true rfl) dX11_init_151 (fun H locs hP hD hS => ?_)
  have hP : va_P (dC, dI) vwCl [(m0, .inr (11, [.ref q1, .int 0, .int 0, .ref q2, .ref q3, .ref q4, .ref q5, .ref q6, .int 0, .int 0, .int 0, .int 0, .int 0, .int 0, .int 0, .ref q7, .int 0, .ref q8, .int 0, .ref q9, .ref q10, .ref q11, .int 0, .int 0, .int 0, .int 0, .int 0, .int 0, .ref q12, .ref q13, .ref q14, .ref q15, .ref q16, .int 0, .int 0, .int 0, .ref q17, .ref q18, .null, .null, .null, .null])), (q1, .inl (kA 1, 400, .inl (fun _ => 0))), (q2, .inl (kA 0, 2400, .inl (fun _ => 0))), (q3, .inl (kA 0, 6, .inl (fun _ => 0))), (q4, .inl (kA 0, 360, .inl (fun _ => 0))), (q5, .inl (kA 0, 6, .inl (fun _ => 0))), (q6, .inl (kA 0, 6, .inl (fun _ => 0))), (q7, .inl (kA 0, 400, .inl (fun _ => 0))), (q8, .inl (kA 2, 64, .inr (.inl (fun _ => 0)))), (q9, .inl (kA 2, 11, .inr (.inl (fun _ => 0)))), (q10, .inl (kA 0, 360, .inl (fun _ => 0))), (q11, .inl (kA 0, 360, .inl (fun _ => 0))), (q12, .inl (kA 0, 7, .inl (fun _ => 0))), (q13, .inl (kA 0, 7, .inl (fun _ => 0))), (q14, .inl (kA 0, 7, .inl (fun _ => 0))), (q15, .inl (kA 0, 7, .inl (fun _ => 0))), (q16, .inl (kA 0, 7, .inl (fun _ => 0))), (q17, .inl (kA 0, 6, .inl (fun _ => 0))), (q18, .inl (kA 0, 12, .inl (fun _ => 0)))] H := hP
  have hD : va_D A [(m0, .inr (11, [.ref q1, .int 0, .int 0, .ref q2, .ref q3, .ref q4, .ref q5, .ref q6, .int 0, .int 0, .int 0, .int 0, .int 0, .int 0, .int 0, .ref q7, .int 0, .ref q8, .int 0, .ref q9, .ref q10, .ref q11, .int 0, .int 0, .int 0, .int 0, .int 0, .int 0, .ref q12, .ref q13, .ref q14, .ref q15, .ref q16, .int 0, .int 0, .int 0, .ref q17, .ref q18, .null, .null, .null, .null])), (q1, .inl (kA 1, 400, .inl (fun _ => 0))), (q2, .inl (kA 0, 2400, .inl (fun _ => 0))), (q3, .inl (kA 0, 6, .inl (fun _ => 0))), (q4, .inl (kA 0, 360, .inl (fun _ => 0))), (q5, .inl (kA 0, 6, .inl (fun _ => 0))), (q6, .inl (kA 0, 6, .inl (fun _ => 0))), (q7, .inl (kA 0, 400, .inl (fun _ => 0))), (q8, .inl (kA 2, 64, .inr (.inl (fun _ => 0)))), (q9, .inl (kA 2, 11, .inr (.inl (fun _ => 0)))), (q10, .inl (kA 0, 360, .inl (fun _ => 0))), (q11, .inl (kA 0, 360, .inl (fun _ => 0))), (q12, .inl (kA 0, 7, .inl (fun _ => 0))), (q13, .inl (kA 0, 7, .inl (fun _ => 0))), (q14, .inl (kA 0, 7, .inl (fun _ => 0))), (q15, .inl (kA 0, 7, .inl (fun _ => 0))), (q16, .inl (kA 0, 7, .inl (fun _ => 0))), (q17, .inl (kA 0, 6, .inl (fun _ => 0))), (q18, .inl (kA 0, 12, .inl (fun _ => 0)))] := hD
  refine lv_aload_n hx hb dX11_init_154 rfl (lv_at hl 0 rfl) ?_
  refine lv_bipush (v := 6) hx hb dX11_init_155 (by decide) ?_
  refine z_newi hx hb (kX11_init_6 hts) hK hP hD hS hA 6 (by decide) (by decide) (by decide) (Nat.le_of_ble_eq_true rfl) (Nat.le_of_ble_eq_true rfl) dX11_init_157 (fun q19 H hP hD hS => ?_)
  refine W.widen (k := 19) (n := 4432) (Nat.le_of_ble_eq_true rfl) (Nat.le_of_ble_eq_true rfl) ?_
  have hP : va_P (dC, dI) vwCl [(m0, .inr (11, [.ref q1, .int 0, .int 0, .ref q2, .ref q3, .ref q4, .ref q5, .ref q6, .int 0, .int 0, .int 0, .int 0, .int 0, .int 0, .int 0, .ref q7, .int 0, .ref q8, .int 0, .ref q9, .ref q10, .ref q11, .int 0, .int 0, .int 0, .int 0, .int 0, .int 0, .ref q12, .ref q13, .ref q14, .ref q15, .ref q16, .int 0, .int 0, .int 0, .ref q17, .ref q18, .null, .null, .null, .null])), (q1, .inl (kA 1, 400, .inl (fun _ => 0))), (q2, .inl (kA 0, 2400, .inl (fun _ => 0))), (q3, .inl (kA 0, 6, .inl (fun _ => 0))), (q4, .inl (kA 0, 360, .inl (fun _ => 0))), (q5, .inl (kA 0, 6, .inl (fun _ => 0))), (q6, .inl (kA 0, 6, .inl (fun _ => 0))), (q7, .inl (kA 0, 400, .inl (fun _ => 0))), (q8, .inl (kA 2, 64, .inr (.inl (fun _ => 0)))), (q9, .inl (kA 2, 11, .inr (.inl (fun _ => 0)))), (q10, .inl (kA 0, 360, .inl (fun _ => 0))), (q11, .inl (kA 0, 360, .inl (fun _ => 0))), (q12, .inl (kA 0, 7, .inl (fun _ => 0))), (q13, .inl (kA 0, 7, .inl (fun _ => 0))), (q14, .inl (kA 0, 7, .inl (fun _ => 0))), (q15, .inl (kA 0, 7, .inl (fun _ => 0))), (q16, .inl (kA 0, 7, .inl (fun _ => 0))), (q17, .inl (kA 0, 6, .inl (fun _ => 0))), (q18, .inl (kA 0, 12, .inl (fun _ => 0))), (q19, .inl (kA 0, 6, .inl (fun _ => 0)))] H := hP
  have hD : va_D A [(m0, .inr (11, [.ref q1, .int 0, .int 0, .ref q2, .ref q3, .ref q4, .ref q5, .ref q6, .int 0, .int 0, .int 0, .int 0, .int 0, .int 0, .int 0, .ref q7, .int 0, .ref q8, .int 0, .ref q9, .ref q10, .ref q11, .int 0, .int 0, .int 0, .int 0, .int 0, .int 0, .ref q12, .ref q13, .ref q14, .ref q15, .ref q16, .int 0, .int 0, .int 0, .ref q17, .ref q18, .null, .null, .null, .null])), (q1, .inl (kA 1, 400, .inl (fun _ => 0))), (q2, .inl (kA 0, 2400, .inl (fun _ => 0))), (q3, .inl (kA 0, 6, .inl (fun _ => 0))), (q4, .inl (kA 0, 360, .inl (fun _ => 0))), (q5, .inl (kA 0, 6, .inl (fun _ => 0))), (q6, .inl (kA 0, 6, .inl (fun _ => 0))), (q7, .inl (kA 0, 400, .inl (fun _ => 0))), (q8, .inl (kA 2, 64, .inr (.inl (fun _ => 0)))), (q9, .inl (kA 2, 11, .inr (.inl (fun _ => 0)))), (q10, .inl (kA 0, 360, .inl (fun _ => 0))), (q11, .inl (kA 0, 360, .inl (fun _ => 0))), (q12, .inl (kA 0, 7, .inl (fun _ => 0))), (q13, .inl (kA 0, 7, .inl (fun _ => 0))), (q14, .inl (kA 0, 7, .inl (fun _ => 0))), (q15, .inl (kA 0, 7, .inl (fun _ => 0))), (q16, .inl (kA 0, 7, .inl (fun _ => 0))), (q17, .inl (kA 0, 6, .inl (fun _ => 0))), (q18, .inl (kA 0, 12, .inl (fun _ => 0))), (q19, .inl (kA 0, 6, .inl (fun _ => 0)))] := hD
  refine va_putF (D := (dC, dI)) (ci := 11) (v := .ref q19) (ty := .array (.int)) (C := RX11) (T := TX11) (N := 42) hx hb hts iX11_init_X11 tyX11 tyX11_ok nmX11 hown hK.1 hP hD hS 0 rfl rfl 38 (by decide) (kX11_init_25 hts) (fun _ h9 => h9) rfl hin rfl (by decide +kernel) rfl rfl (Nat.le_of_ble_eq_true rfl) dX11_init_159 (fun H locs hP hD hS => ?_)
  have hP : va_P (dC, dI) vwCl [(m0, .inr (11, [.ref q1, .int 0, .int 0, .ref q2, .ref q3, .ref q4, .ref q5, .ref q6, .int 0, .int 0, .int 0, .int 0, .int 0, .int 0, .int 0, .ref q7, .int 0, .ref q8, .int 0, .ref q9, .ref q10, .ref q11, .int 0, .int 0, .int 0, .int 0, .int 0, .int 0, .ref q12, .ref q13, .ref q14, .ref q15, .ref q16, .int 0, .int 0, .int 0, .ref q17, .ref q18, .ref q19, .null, .null, .null])), (q1, .inl (kA 1, 400, .inl (fun _ => 0))), (q2, .inl (kA 0, 2400, .inl (fun _ => 0))), (q3, .inl (kA 0, 6, .inl (fun _ => 0))), (q4, .inl (kA 0, 360, .inl (fun _ => 0))), (q5, .inl (kA 0, 6, .inl (fun _ => 0))), (q6, .inl (kA 0, 6, .inl (fun _ => 0))), (q7, .inl (kA 0, 400, .inl (fun _ => 0))), (q8, .inl (kA 2, 64, .inr (.inl (fun _ => 0)))), (q9, .inl (kA 2, 11, .inr (.inl (fun _ => 0)))), (q10, .inl (kA 0, 360, .inl (fun _ => 0))), (q11, .inl (kA 0, 360, .inl (fun _ => 0))), (q12, .inl (kA 0, 7, .inl (fun _ => 0))), (q13, .inl (kA 0, 7, .inl (fun _ => 0))), (q14, .inl (kA 0, 7, .inl (fun _ => 0))), (q15, .inl (kA 0, 7, .inl (fun _ => 0))), (q16, .inl (kA 0, 7, .inl (fun _ => 0))), (q17, .inl (kA 0, 6, .inl (fun _ => 0))), (q18, .inl (kA 0, 12, .inl (fun _ => 0))), (q19, .inl (kA 0, 6, .inl (fun _ => 0)))] H := hP
  have hD : va_D A [(m0, .inr (11, [.ref q1, .int 0, .int 0, .ref q2, .ref q3, .ref q4, .ref q5, .ref q6, .int 0, .int 0, .int 0, .int 0, .int 0, .int 0, .int 0, .ref q7, .int 0, .ref q8, .int 0, .ref q9, .ref q10, .ref q11, .int 0, .int 0, .int 0, .int 0, .int 0, .int 0, .ref q12, .ref q13, .ref q14, .ref q15, .ref q16, .int 0, .int 0, .int 0, .ref q17, .ref q18, .ref q19, .null, .null, .null])), (q1, .inl (kA 1, 400, .inl (fun _ => 0))), (q2, .inl (kA 0, 2400, .inl (fun _ => 0))), (q3, .inl (kA 0, 6, .inl (fun _ => 0))), (q4, .inl (kA 0, 360, .inl (fun _ => 0))), (q5, .inl (kA 0, 6, .inl (fun _ => 0))), (q6, .inl (kA 0, 6, .inl (fun _ => 0))), (q7, .inl (kA 0, 400, .inl (fun _ => 0))), (q8, .inl (kA 2, 64, .inr (.inl (fun _ => 0)))), (q9, .inl (kA 2, 11, .inr (.inl (fun _ => 0)))), (q10, .inl (kA 0, 360, .inl (fun _ => 0))), (q11, .inl (kA 0, 360, .inl (fun _ => 0))), (q12, .inl (kA 0, 7, .inl (fun _ => 0))), (q13, .inl (kA 0, 7, .inl (fun _ => 0))), (q14, .inl (kA 0, 7, .inl (fun _ => 0))), (q15, .inl (kA 0, 7, .inl (fun _ => 0))), (q16, .inl (kA 0, 7, .inl (fun _ => 0))), (q17, .inl (kA 0, 6, .inl (fun _ => 0))), (q18, .inl (kA 0, 12, .inl (fun _ => 0))), (q19, .inl (kA 0, 6, .inl (fun _ => 0)))] := hD
  refine lv_aload_n hx hb dX11_init_162 rfl (lv_at hl 0 rfl) ?_
  refine lv_bipush (v := 6) hx hb dX11_init_163 (by decide) ?_
  refine z_newi hx hb (kX11_init_6 hts) hK hP hD hS hA 6 (by decide) (by decide) (by decide) (Nat.le_of_ble_eq_true rfl) (Nat.le_of_ble_eq_true rfl) dX11_init_165 (fun q20 H hP hD hS => ?_)
  refine W.widen (k := 20) (n := 4438) (Nat.le_of_ble_eq_true rfl) (Nat.le_of_ble_eq_true rfl) ?_
  have hP : va_P (dC, dI) vwCl [(m0, .inr (11, [.ref q1, .int 0, .int 0, .ref q2, .ref q3, .ref q4, .ref q5, .ref q6, .int 0, .int 0, .int 0, .int 0, .int 0, .int 0, .int 0, .ref q7, .int 0, .ref q8, .int 0, .ref q9, .ref q10, .ref q11, .int 0, .int 0, .int 0, .int 0, .int 0, .int 0, .ref q12, .ref q13, .ref q14, .ref q15, .ref q16, .int 0, .int 0, .int 0, .ref q17, .ref q18, .ref q19, .null, .null, .null])), (q1, .inl (kA 1, 400, .inl (fun _ => 0))), (q2, .inl (kA 0, 2400, .inl (fun _ => 0))), (q3, .inl (kA 0, 6, .inl (fun _ => 0))), (q4, .inl (kA 0, 360, .inl (fun _ => 0))), (q5, .inl (kA 0, 6, .inl (fun _ => 0))), (q6, .inl (kA 0, 6, .inl (fun _ => 0))), (q7, .inl (kA 0, 400, .inl (fun _ => 0))), (q8, .inl (kA 2, 64, .inr (.inl (fun _ => 0)))), (q9, .inl (kA 2, 11, .inr (.inl (fun _ => 0)))), (q10, .inl (kA 0, 360, .inl (fun _ => 0))), (q11, .inl (kA 0, 360, .inl (fun _ => 0))), (q12, .inl (kA 0, 7, .inl (fun _ => 0))), (q13, .inl (kA 0, 7, .inl (fun _ => 0))), (q14, .inl (kA 0, 7, .inl (fun _ => 0))), (q15, .inl (kA 0, 7, .inl (fun _ => 0))), (q16, .inl (kA 0, 7, .inl (fun _ => 0))), (q17, .inl (kA 0, 6, .inl (fun _ => 0))), (q18, .inl (kA 0, 12, .inl (fun _ => 0))), (q19, .inl (kA 0, 6, .inl (fun _ => 0))), (q20, .inl (kA 0, 6, .inl (fun _ => 0)))] H := hP
  have hD : va_D A [(m0, .inr (11, [.ref q1, .int 0, .int 0, .ref q2, .ref q3, .ref q4, .ref q5, .ref q6, .int 0, .int 0, .int 0, .int 0, .int 0, .int 0, .int 0, .ref q7, .int 0, .ref q8, .int 0, .ref q9, .ref q10, .ref q11, .int 0, .int 0, .int 0, .int 0, .int 0, .int 0, .ref q12, .ref q13, .ref q14, .ref q15, .ref q16, .int 0, .int 0, .int 0, .ref q17, .ref q18, .ref q19, .null, .null, .null])), (q1, .inl (kA 1, 400, .inl (fun _ => 0))), (q2, .inl (kA 0, 2400, .inl (fun _ => 0))), (q3, .inl (kA 0, 6, .inl (fun _ => 0))), (q4, .inl (kA 0, 360, .inl (fun _ => 0))), (q5, .inl (kA 0, 6, .inl (fun _ => 0))), (q6, .inl (kA 0, 6, .inl (fun _ => 0))), (q7, .inl (kA 0, 400, .inl (fun _ => 0))), (q8, .inl (kA 2, 64, .inr (.inl (fun _ => 0)))), (q9, .inl (kA 2, 11, .inr (.inl (fun _ => 0)))), (q10, .inl (kA 0, 360, .inl (fun _ => 0))), (q11, .inl (kA 0, 360, .inl (fun _ => 0))), (q12, .inl (kA 0, 7, .inl (fun _ => 0))), (q13, .inl (kA 0, 7, .inl (fun _ => 0))), (q14, .inl (kA 0, 7, .inl (fun _ => 0))), (q15, .inl (kA 0, 7, .inl (fun _ => 0))), (q16, .inl (kA 0, 7, .inl (fun _ => 0))), (q17, .inl (kA 0, 6, .inl (fun _ => 0))), (q18, .inl (kA 0, 12, .inl (fun _ => 0))), (q19, .inl (kA 0, 6, .inl (fun _ => 0))), (q20, .inl (kA 0, 6, .inl (fun _ => 0)))] := hD
  refine va_putF (D := (dC, dI)) (ci := 11) (v := .ref q20) (ty := .array (.int)) (C := RX11) (T := TX11) (N := 42) hx hb hts iX11_init_X11 tyX11 tyX11_ok nmX11 hown hK.1 hP hD hS 0 rfl rfl 39 (by decide) (kX11_init_26 hts) (fun _ h9 => h9) rfl hin rfl (by decide +kernel) rfl rfl (Nat.le_of_ble_eq_true rfl) dX11_init_167 (fun H locs hP hD hS => ?_)
  have hP : va_P (dC, dI) vwCl [(m0, .inr (11, [.ref q1, .int 0, .int 0, .ref q2, .ref q3, .ref q4, .ref q5, .ref q6, .int 0, .int 0, .int 0, .int 0, .int 0, .int 0, .int 0, .ref q7, .int 0, .ref q8, .int 0, .ref q9, .ref q10, .ref q11, .int 0, .int 0, .int 0, .int 0, .int 0, .int 0, .ref q12, .ref q13, .ref q14, .ref q15, .ref q16, .int 0, .int 0, .int 0, .ref q17, .ref q18, .ref q19, .ref q20, .null, .null])), (q1, .inl (kA 1, 400, .inl (fun _ => 0))), (q2, .inl (kA 0, 2400, .inl (fun _ => 0))), (q3, .inl (kA 0, 6, .inl (fun _ => 0))), (q4, .inl (kA 0, 360, .inl (fun _ => 0))), (q5, .inl (kA 0, 6, .inl (fun _ => 0))), (q6, .inl (kA 0, 6, .inl (fun _ => 0))), (q7, .inl (kA 0, 400, .inl (fun _ => 0))), (q8, .inl (kA 2, 64, .inr (.inl (fun _ => 0)))), (q9, .inl (kA 2, 11, .inr (.inl (fun _ => 0)))), (q10, .inl (kA 0, 360, .inl (fun _ => 0))), (q11, .inl (kA 0, 360, .inl (fun _ => 0))), (q12, .inl (kA 0, 7, .inl (fun _ => 0))), (q13, .inl (kA 0, 7, .inl (fun _ => 0))), (q14, .inl (kA 0, 7, .inl (fun _ => 0))), (q15, .inl (kA 0, 7, .inl (fun _ => 0))), (q16, .inl (kA 0, 7, .inl (fun _ => 0))), (q17, .inl (kA 0, 6, .inl (fun _ => 0))), (q18, .inl (kA 0, 12, .inl (fun _ => 0))), (q19, .inl (kA 0, 6, .inl (fun _ => 0))), (q20, .inl (kA 0, 6, .inl (fun _ => 0)))] H := hP
  have hD : va_D A [(m0, .inr (11, [.ref q1, .int 0, .int 0, .ref q2, .ref q3, .ref q4, .ref q5, .ref q6, .int 0, .int 0, .int 0, .int 0, .int 0, .int 0, .int 0, .ref q7, .int 0, .ref q8, .int 0, .ref q9, .ref q10, .ref q11, .int 0, .int 0, .int 0, .int 0, .int 0, .int 0, .ref q12, .ref q13, .ref q14, .ref q15, .ref q16, .int 0, .int 0, .int 0, .ref q17, .ref q18, .ref q19, .ref q20, .null, .null])), (q1, .inl (kA 1, 400, .inl (fun _ => 0))), (q2, .inl (kA 0, 2400, .inl (fun _ => 0))), (q3, .inl (kA 0, 6, .inl (fun _ => 0))), (q4, .inl (kA 0, 360, .inl (fun _ => 0))), (q5, .inl (kA 0, 6, .inl (fun _ => 0))), (q6, .inl (kA 0, 6, .inl (fun _ => 0))), (q7, .inl (kA 0, 400, .inl (fun _ => 0))), (q8, .inl (kA 2, 64, .inr (.inl (fun _ => 0)))), (q9, .inl (kA 2, 11, .inr (.inl (fun _ => 0)))), (q10, .inl (kA 0, 360, .inl (fun _ => 0))), (q11, .inl (kA 0, 360, .inl (fun _ => 0))), (q12, .inl (kA 0, 7, .inl (fun _ => 0))), (q13, .inl (kA 0, 7, .inl (fun _ => 0))), (q14, .inl (kA 0, 7, .inl (fun _ => 0))), (q15, .inl (kA 0, 7, .inl (fun _ => 0))), (q16, .inl (kA 0, 7, .inl (fun _ => 0))), (q17, .inl (kA 0, 6, .inl (fun _ => 0))), (q18, .inl (kA 0, 12, .inl (fun _ => 0))), (q19, .inl (kA 0, 6, .inl (fun _ => 0))), (q20, .inl (kA 0, 6, .inl (fun _ => 0)))] := hD
  refine lv_aload_n hx hb dX11_init_170 rfl (lv_at hl 0 rfl) ?_
  refine lv_sipush (v := 1440) hx hb dX11_init_171 (by decide) ?_
  refine z_newi hx hb (kX11_init_6 hts) hK hP hD hS hA 1440 (by decide) (by decide) (by decide) (Nat.le_of_ble_eq_true rfl) (Nat.le_of_ble_eq_true rfl) dX11_init_174 (fun q21 H hP hD hS => ?_)
  refine W.widen (k := 21) (n := 5878) (Nat.le_of_ble_eq_true rfl) (Nat.le_of_ble_eq_true rfl) ?_
  have hP : va_P (dC, dI) vwCl [(m0, .inr (11, [.ref q1, .int 0, .int 0, .ref q2, .ref q3, .ref q4, .ref q5, .ref q6, .int 0, .int 0, .int 0, .int 0, .int 0, .int 0, .int 0, .ref q7, .int 0, .ref q8, .int 0, .ref q9, .ref q10, .ref q11, .int 0, .int 0, .int 0, .int 0, .int 0, .int 0, .ref q12, .ref q13, .ref q14, .ref q15, .ref q16, .int 0, .int 0, .int 0, .ref q17, .ref q18, .ref q19, .ref q20, .null, .null])), (q1, .inl (kA 1, 400, .inl (fun _ => 0))), (q2, .inl (kA 0, 2400, .inl (fun _ => 0))), (q3, .inl (kA 0, 6, .inl (fun _ => 0))), (q4, .inl (kA 0, 360, .inl (fun _ => 0))), (q5, .inl (kA 0, 6, .inl (fun _ => 0))), (q6, .inl (kA 0, 6, .inl (fun _ => 0))), (q7, .inl (kA 0, 400, .inl (fun _ => 0))), (q8, .inl (kA 2, 64, .inr (.inl (fun _ => 0)))), (q9, .inl (kA 2, 11, .inr (.inl (fun _ => 0)))), (q10, .inl (kA 0, 360, .inl (fun _ => 0))), (q11, .inl (kA 0, 360, .inl (fun _ => 0))), (q12, .inl (kA 0, 7, .inl (fun _ => 0))), (q13, .inl (kA 0, 7, .inl (fun _ => 0))), (q14, .inl (kA 0, 7, .inl (fun _ => 0))), (q15, .inl (kA 0, 7, .inl (fun _ => 0))), (q16, .inl (kA 0, 7, .inl (fun _ => 0))), (q17, .inl (kA 0, 6, .inl (fun _ => 0))), (q18, .inl (kA 0, 12, .inl (fun _ => 0))), (q19, .inl (kA 0, 6, .inl (fun _ => 0))), (q20, .inl (kA 0, 6, .inl (fun _ => 0))), (q21, .inl (kA 0, 1440, .inl (fun _ => 0)))] H := hP
  have hD : va_D A [(m0, .inr (11, [.ref q1, .int 0, .int 0, .ref q2, .ref q3, .ref q4, .ref q5, .ref q6, .int 0, .int 0, .int 0, .int 0, .int 0, .int 0, .int 0, .ref q7, .int 0, .ref q8, .int 0, .ref q9, .ref q10, .ref q11, .int 0, .int 0, .int 0, .int 0, .int 0, .int 0, .ref q12, .ref q13, .ref q14, .ref q15, .ref q16, .int 0, .int 0, .int 0, .ref q17, .ref q18, .ref q19, .ref q20, .null, .null])), (q1, .inl (kA 1, 400, .inl (fun _ => 0))), (q2, .inl (kA 0, 2400, .inl (fun _ => 0))), (q3, .inl (kA 0, 6, .inl (fun _ => 0))), (q4, .inl (kA 0, 360, .inl (fun _ => 0))), (q5, .inl (kA 0, 6, .inl (fun _ => 0))), (q6, .inl (kA 0, 6, .inl (fun _ => 0))), (q7, .inl (kA 0, 400, .inl (fun _ => 0))), (q8, .inl (kA 2, 64, .inr (.inl (fun _ => 0)))), (q9, .inl (kA 2, 11, .inr (.inl (fun _ => 0)))), (q10, .inl (kA 0, 360, .inl (fun _ => 0))), (q11, .inl (kA 0, 360, .inl (fun _ => 0))), (q12, .inl (kA 0, 7, .inl (fun _ => 0))), (q13, .inl (kA 0, 7, .inl (fun _ => 0))), (q14, .inl (kA 0, 7, .inl (fun _ => 0))), (q15, .inl (kA 0, 7, .inl (fun _ => 0))), (q16, .inl (kA 0, 7, .inl (fun _ => 0))), (q17, .inl (kA 0, 6, .inl (fun _ => 0))), (q18, .inl (kA 0, 12, .inl (fun _ => 0))), (q19, .inl (kA 0, 6, .inl (fun _ => 0))), (q20, .inl (kA 0, 6, .inl (fun _ => 0))), (q21, .inl (kA 0, 1440, .inl (fun _ => 0)))] := hD
  refine va_putF (D := (dC, dI)) (ci := 11) (v := .ref q21) (ty := .array (.int)) (C := RX11) (T := TX11) (N := 42) hx hb hts iX11_init_X11 tyX11 tyX11_ok nmX11 hown hK.1 hP hD hS 0 rfl rfl 40 (by decide) (kX11_init_27 hts) (fun _ h9 => h9) rfl hin rfl (by decide +kernel) rfl rfl (Nat.le_of_ble_eq_true rfl) dX11_init_176 (fun H locs hP hD hS => ?_)
  have hP : va_P (dC, dI) vwCl [(m0, .inr (11, [.ref q1, .int 0, .int 0, .ref q2, .ref q3, .ref q4, .ref q5, .ref q6, .int 0, .int 0, .int 0, .int 0, .int 0, .int 0, .int 0, .ref q7, .int 0, .ref q8, .int 0, .ref q9, .ref q10, .ref q11, .int 0, .int 0, .int 0, .int 0, .int 0, .int 0, .ref q12, .ref q13, .ref q14, .ref q15, .ref q16, .int 0, .int 0, .int 0, .ref q17, .ref q18, .ref q19, .ref q20, .ref q21, .null])), (q1, .inl (kA 1, 400, .inl (fun _ => 0))), (q2, .inl (kA 0, 2400, .inl (fun _ => 0))), (q3, .inl (kA 0, 6, .inl (fun _ => 0))), (q4, .inl (kA 0, 360, .inl (fun _ => 0))), (q5, .inl (kA 0, 6, .inl (fun _ => 0))), (q6, .inl (kA 0, 6, .inl (fun _ => 0))), (q7, .inl (kA 0, 400, .inl (fun _ => 0))), (q8, .inl (kA 2, 64, .inr (.inl (fun _ => 0)))), (q9, .inl (kA 2, 11, .inr (.inl (fun _ => 0)))), (q10, .inl (kA 0, 360, .inl (fun _ => 0))), (q11, .inl (kA 0, 360, .inl (fun _ => 0))), (q12, .inl (kA 0, 7, .inl (fun _ => 0))), (q13, .inl (kA 0, 7, .inl (fun _ => 0))), (q14, .inl (kA 0, 7, .inl (fun _ => 0))), (q15, .inl (kA 0, 7, .inl (fun _ => 0))), (q16, .inl (kA 0, 7, .inl (fun _ => 0))), (q17, .inl (kA 0, 6, .inl (fun _ => 0))), (q18, .inl (kA 0, 12, .inl (fun _ => 0))), (q19, .inl (kA 0, 6, .inl (fun _ => 0))), (q20, .inl (kA 0, 6, .inl (fun _ => 0))), (q21, .inl (kA 0, 1440, .inl (fun _ => 0)))] H := hP
  have hD : va_D A [(m0, .inr (11, [.ref q1, .int 0, .int 0, .ref q2, .ref q3, .ref q4, .ref q5, .ref q6, .int 0, .int 0, .int 0, .int 0, .int 0, .int 0, .int 0, .ref q7, .int 0, .ref q8, .int 0, .ref q9, .ref q10, .ref q11, .int 0, .int 0, .int 0, .int 0, .int 0, .int 0, .ref q12, .ref q13, .ref q14, .ref q15, .ref q16, .int 0, .int 0, .int 0, .ref q17, .ref q18, .ref q19, .ref q20, .ref q21, .null])), (q1, .inl (kA 1, 400, .inl (fun _ => 0))), (q2, .inl (kA 0, 2400, .inl (fun _ => 0))), (q3, .inl (kA 0, 6, .inl (fun _ => 0))), (q4, .inl (kA 0, 360, .inl (fun _ => 0))), (q5, .inl (kA 0, 6, .inl (fun _ => 0))), (q6, .inl (kA 0, 6, .inl (fun _ => 0))), (q7, .inl (kA 0, 400, .inl (fun _ => 0))), (q8, .inl (kA 2, 64, .inr (.inl (fun _ => 0)))), (q9, .inl (kA 2, 11, .inr (.inl (fun _ => 0)))), (q10, .inl (kA 0, 360, .inl (fun _ => 0))), (q11, .inl (kA 0, 360, .inl (fun _ => 0))), (q12, .inl (kA 0, 7, .inl (fun _ => 0))), (q13, .inl (kA 0, 7, .inl (fun _ => 0))), (q14, .inl (kA 0, 7, .inl (fun _ => 0))), (q15, .inl (kA 0, 7, .inl (fun _ => 0))), (q16, .inl (kA 0, 7, .inl (fun _ => 0))), (q17, .inl (kA 0, 6, .inl (fun _ => 0))), (q18, .inl (kA 0, 12, .inl (fun _ => 0))), (q19, .inl (kA 0, 6, .inl (fun _ => 0))), (q20, .inl (kA 0, 6, .inl (fun _ => 0))), (q21, .inl (kA 0, 1440, .inl (fun _ => 0)))] := hD
  refine lv_aload_n hx hb dX11_init_179 rfl (lv_at hl 0 rfl) ?_
  refine lv_iconst (v := 4) hx hb dX11_init_180 (by decide) ?_
  refine z_newz hx hb (kX11_init_28 hts) hK hP hD hS hA 4 (by decide) (by decide) (by decide) (Nat.le_of_ble_eq_true rfl) (Nat.le_of_ble_eq_true rfl) dX11_init_181 (fun q22 H hP hD hS => ?_)
  refine W.widen (k := 22) (n := 5882) (Nat.le_of_ble_eq_true rfl) (Nat.le_of_ble_eq_true rfl) ?_
  have hP : va_P (dC, dI) vwCl [(m0, .inr (11, [.ref q1, .int 0, .int 0, .ref q2, .ref q3, .ref q4, .ref q5, .ref q6, .int 0, .int 0, .int 0, .int 0, .int 0, .int 0, .int 0, .ref q7, .int 0, .ref q8, .int 0, .ref q9, .ref q10, .ref q11, .int 0, .int 0, .int 0, .int 0, .int 0, .int 0, .ref q12, .ref q13, .ref q14, .ref q15, .ref q16, .int 0, .int 0, .int 0, .ref q17, .ref q18, .ref q19, .ref q20, .ref q21, .null])), (q1, .inl (kA 1, 400, .inl (fun _ => 0))), (q2, .inl (kA 0, 2400, .inl (fun _ => 0))), (q3, .inl (kA 0, 6, .inl (fun _ => 0))), (q4, .inl (kA 0, 360, .inl (fun _ => 0))), (q5, .inl (kA 0, 6, .inl (fun _ => 0))), (q6, .inl (kA 0, 6, .inl (fun _ => 0))), (q7, .inl (kA 0, 400, .inl (fun _ => 0))), (q8, .inl (kA 2, 64, .inr (.inl (fun _ => 0)))), (q9, .inl (kA 2, 11, .inr (.inl (fun _ => 0)))), (q10, .inl (kA 0, 360, .inl (fun _ => 0))), (q11, .inl (kA 0, 360, .inl (fun _ => 0))), (q12, .inl (kA 0, 7, .inl (fun _ => 0))), (q13, .inl (kA 0, 7, .inl (fun _ => 0))), (q14, .inl (kA 0, 7, .inl (fun _ => 0))), (q15, .inl (kA 0, 7, .inl (fun _ => 0))), (q16, .inl (kA 0, 7, .inl (fun _ => 0))), (q17, .inl (kA 0, 6, .inl (fun _ => 0))), (q18, .inl (kA 0, 12, .inl (fun _ => 0))), (q19, .inl (kA 0, 6, .inl (fun _ => 0))), (q20, .inl (kA 0, 6, .inl (fun _ => 0))), (q21, .inl (kA 0, 1440, .inl (fun _ => 0))), (q22, .inl (kA 3, 4, .inl (fun _ => 0)))] H := hP
  have hD : va_D A [(m0, .inr (11, [.ref q1, .int 0, .int 0, .ref q2, .ref q3, .ref q4, .ref q5, .ref q6, .int 0, .int 0, .int 0, .int 0, .int 0, .int 0, .int 0, .ref q7, .int 0, .ref q8, .int 0, .ref q9, .ref q10, .ref q11, .int 0, .int 0, .int 0, .int 0, .int 0, .int 0, .ref q12, .ref q13, .ref q14, .ref q15, .ref q16, .int 0, .int 0, .int 0, .ref q17, .ref q18, .ref q19, .ref q20, .ref q21, .null])), (q1, .inl (kA 1, 400, .inl (fun _ => 0))), (q2, .inl (kA 0, 2400, .inl (fun _ => 0))), (q3, .inl (kA 0, 6, .inl (fun _ => 0))), (q4, .inl (kA 0, 360, .inl (fun _ => 0))), (q5, .inl (kA 0, 6, .inl (fun _ => 0))), (q6, .inl (kA 0, 6, .inl (fun _ => 0))), (q7, .inl (kA 0, 400, .inl (fun _ => 0))), (q8, .inl (kA 2, 64, .inr (.inl (fun _ => 0)))), (q9, .inl (kA 2, 11, .inr (.inl (fun _ => 0)))), (q10, .inl (kA 0, 360, .inl (fun _ => 0))), (q11, .inl (kA 0, 360, .inl (fun _ => 0))), (q12, .inl (kA 0, 7, .inl (fun _ => 0))), (q13, .inl (kA 0, 7, .inl (fun _ => 0))), (q14, .inl (kA 0, 7, .inl (fun _ => 0))), (q15, .inl (kA 0, 7, .inl (fun _ => 0))), (q16, .inl (kA 0, 7, .inl (fun _ => 0))), (q17, .inl (kA 0, 6, .inl (fun _ => 0))), (q18, .inl (kA 0, 12, .inl (fun _ => 0))), (q19, .inl (kA 0, 6, .inl (fun _ => 0))), (q20, .inl (kA 0, 6, .inl (fun _ => 0))), (q21, .inl (kA 0, 1440, .inl (fun _ => 0))), (q22, .inl (kA 3, 4, .inl (fun _ => 0)))] := hD
  refine va_putF (D := (dC, dI)) (ci := 11) (v := .ref q22) (ty := .array (.boolean)) (C := RX11) (T := TX11) (N := 42) hx hb hts iX11_init_X11 tyX11 tyX11_ok nmX11 hown hK.1 hP hD hS 0 rfl rfl 41 (by decide) (kX11_init_29 hts) (fun _ h9 => h9) rfl hin rfl (by decide +kernel) rfl rfl (Nat.le_of_ble_eq_true rfl) dX11_init_183 (fun H locs hP hD hS => ?_)
  have hP : va_P (dC, dI) vwCl [(m0, .inr (11, [.ref q1, .int 0, .int 0, .ref q2, .ref q3, .ref q4, .ref q5, .ref q6, .int 0, .int 0, .int 0, .int 0, .int 0, .int 0, .int 0, .ref q7, .int 0, .ref q8, .int 0, .ref q9, .ref q10, .ref q11, .int 0, .int 0, .int 0, .int 0, .int 0, .int 0, .ref q12, .ref q13, .ref q14, .ref q15, .ref q16, .int 0, .int 0, .int 0, .ref q17, .ref q18, .ref q19, .ref q20, .ref q21, .ref q22])), (q1, .inl (kA 1, 400, .inl (fun _ => 0))), (q2, .inl (kA 0, 2400, .inl (fun _ => 0))), (q3, .inl (kA 0, 6, .inl (fun _ => 0))), (q4, .inl (kA 0, 360, .inl (fun _ => 0))), (q5, .inl (kA 0, 6, .inl (fun _ => 0))), (q6, .inl (kA 0, 6, .inl (fun _ => 0))), (q7, .inl (kA 0, 400, .inl (fun _ => 0))), (q8, .inl (kA 2, 64, .inr (.inl (fun _ => 0)))), (q9, .inl (kA 2, 11, .inr (.inl (fun _ => 0)))), (q10, .inl (kA 0, 360, .inl (fun _ => 0))), (q11, .inl (kA 0, 360, .inl (fun _ => 0))), (q12, .inl (kA 0, 7, .inl (fun _ => 0))), (q13, .inl (kA 0, 7, .inl (fun _ => 0))), (q14, .inl (kA 0, 7, .inl (fun _ => 0))), (q15, .inl (kA 0, 7, .inl (fun _ => 0))), (q16, .inl (kA 0, 7, .inl (fun _ => 0))), (q17, .inl (kA 0, 6, .inl (fun _ => 0))), (q18, .inl (kA 0, 12, .inl (fun _ => 0))), (q19, .inl (kA 0, 6, .inl (fun _ => 0))), (q20, .inl (kA 0, 6, .inl (fun _ => 0))), (q21, .inl (kA 0, 1440, .inl (fun _ => 0))), (q22, .inl (kA 3, 4, .inl (fun _ => 0)))] H := hP
  have hD : va_D A [(m0, .inr (11, [.ref q1, .int 0, .int 0, .ref q2, .ref q3, .ref q4, .ref q5, .ref q6, .int 0, .int 0, .int 0, .int 0, .int 0, .int 0, .int 0, .ref q7, .int 0, .ref q8, .int 0, .ref q9, .ref q10, .ref q11, .int 0, .int 0, .int 0, .int 0, .int 0, .int 0, .ref q12, .ref q13, .ref q14, .ref q15, .ref q16, .int 0, .int 0, .int 0, .ref q17, .ref q18, .ref q19, .ref q20, .ref q21, .ref q22])), (q1, .inl (kA 1, 400, .inl (fun _ => 0))), (q2, .inl (kA 0, 2400, .inl (fun _ => 0))), (q3, .inl (kA 0, 6, .inl (fun _ => 0))), (q4, .inl (kA 0, 360, .inl (fun _ => 0))), (q5, .inl (kA 0, 6, .inl (fun _ => 0))), (q6, .inl (kA 0, 6, .inl (fun _ => 0))), (q7, .inl (kA 0, 400, .inl (fun _ => 0))), (q8, .inl (kA 2, 64, .inr (.inl (fun _ => 0)))), (q9, .inl (kA 2, 11, .inr (.inl (fun _ => 0)))), (q10, .inl (kA 0, 360, .inl (fun _ => 0))), (q11, .inl (kA 0, 360, .inl (fun _ => 0))), (q12, .inl (kA 0, 7, .inl (fun _ => 0))), (q13, .inl (kA 0, 7, .inl (fun _ => 0))), (q14, .inl (kA 0, 7, .inl (fun _ => 0))), (q15, .inl (kA 0, 7, .inl (fun _ => 0))), (q16, .inl (kA 0, 7, .inl (fun _ => 0))), (q17, .inl (kA 0, 6, .inl (fun _ => 0))), (q18, .inl (kA 0, 12, .inl (fun _ => 0))), (q19, .inl (kA 0, 6, .inl (fun _ => 0))), (q20, .inl (kA 0, 6, .inl (fun _ => 0))), (q21, .inl (kA 0, 1440, .inl (fun _ => 0))), (q22, .inl (kA 3, 4, .inl (fun _ => 0)))] := hD
  refine lv_aload_n hx hb dX11_init_186 rfl (lv_at hl 0 rfl) ?_
  refine va_get (D := (dC, dI)) (ci := 11) (v := .ref q10) (C := RX11) (T := TX11) (N := 42) hx hb hts iX11_init_X11 hown hK.1 hP 0 rfl rfl 20 (by decide) (kX11_init_16 hts) (fun _ h9 => h9) rfl dX11_init_187 ?_
  refine lv_bipush (v := 8) hx hb dX11_init_190 (by decide) ?_
  refine lv_iconst (v := (-1)) hx hb dX11_init_192 (by decide) ?_
  refine va_iast hx hb hK.1 hP hD hS 10 0 rfl rfl (vpd (by decide)) dX11_init_193 (fun H locs hP hD hS => ?_)
  have hP : va_P (dC, dI) vwCl [(m0, .inr (11, [.ref q1, .int 0, .int 0, .ref q2, .ref q3, .ref q4, .ref q5, .ref q6, .int 0, .int 0, .int 0, .int 0, .int 0, .int 0, .int 0, .ref q7, .int 0, .ref q8, .int 0, .ref q9, .ref q10, .ref q11, .int 0, .int 0, .int 0, .int 0, .int 0, .int 0, .ref q12, .ref q13, .ref q14, .ref q15, .ref q16, .int 0, .int 0, .int 0, .ref q17, .ref q18, .ref q19, .ref q20, .ref q21, .ref q22])), (q1, .inl (kA 1, 400, .inl (fun _ => 0))), (q2, .inl (kA 0, 2400, .inl (fun _ => 0))), (q3, .inl (kA 0, 6, .inl (fun _ => 0))), (q4, .inl (kA 0, 360, .inl (fun _ => 0))), (q5, .inl (kA 0, 6, .inl (fun _ => 0))), (q6, .inl (kA 0, 6, .inl (fun _ => 0))), (q7, .inl (kA 0, 400, .inl (fun _ => 0))), (q8, .inl (kA 2, 64, .inr (.inl (fun _ => 0)))), (q9, .inl (kA 2, 11, .inr (.inl (fun _ => 0)))), (q10, .inl (kA 0, 360, .inl (upd (fun _ => 0) (8 : Int32).toNatClampNeg (-1)))), (q11, .inl (kA 0, 360, .inl (fun _ => 0))), (q12, .inl (kA 0, 7, .inl (fun _ => 0))), (q13, .inl (kA 0, 7, .inl (fun _ => 0))), (q14, .inl (kA 0, 7, .inl (fun _ => 0))), (q15, .inl (kA 0, 7, .inl (fun _ => 0))), (q16, .inl (kA 0, 7, .inl (fun _ => 0))), (q17, .inl (kA 0, 6, .inl (fun _ => 0))), (q18, .inl (kA 0, 12, .inl (fun _ => 0))), (q19, .inl (kA 0, 6, .inl (fun _ => 0))), (q20, .inl (kA 0, 6, .inl (fun _ => 0))), (q21, .inl (kA 0, 1440, .inl (fun _ => 0))), (q22, .inl (kA 3, 4, .inl (fun _ => 0)))] H := hP
  have hD : va_D A [(m0, .inr (11, [.ref q1, .int 0, .int 0, .ref q2, .ref q3, .ref q4, .ref q5, .ref q6, .int 0, .int 0, .int 0, .int 0, .int 0, .int 0, .int 0, .ref q7, .int 0, .ref q8, .int 0, .ref q9, .ref q10, .ref q11, .int 0, .int 0, .int 0, .int 0, .int 0, .int 0, .ref q12, .ref q13, .ref q14, .ref q15, .ref q16, .int 0, .int 0, .int 0, .ref q17, .ref q18, .ref q19, .ref q20, .ref q21, .ref q22])), (q1, .inl (kA 1, 400, .inl (fun _ => 0))), (q2, .inl (kA 0, 2400, .inl (fun _ => 0))), (q3, .inl (kA 0, 6, .inl (fun _ => 0))), (q4, .inl (kA 0, 360, .inl (fun _ => 0))), (q5, .inl (kA 0, 6, .inl (fun _ => 0))), (q6, .inl (kA 0, 6, .inl (fun _ => 0))), (q7, .inl (kA 0, 400, .inl (fun _ => 0))), (q8, .inl (kA 2, 64, .inr (.inl (fun _ => 0)))), (q9, .inl (kA 2, 11, .inr (.inl (fun _ => 0)))), (q10, .inl (kA 0, 360, .inl (upd (fun _ => 0) (8 : Int32).toNatClampNeg (-1)))), (q11, .inl (kA 0, 360, .inl (fun _ => 0))), (q12, .inl (kA 0, 7, .inl (fun _ => 0))), (q13, .inl (kA 0, 7, .inl (fun _ => 0))), (q14, .inl (kA 0, 7, .inl (fun _ => 0))), (q15, .inl (kA 0, 7, .inl (fun _ => 0))), (q16, .inl (kA 0, 7, .inl (fun _ => 0))), (q17, .inl (kA 0, 6, .inl (fun _ => 0))), (q18, .inl (kA 0, 12, .inl (fun _ => 0))), (q19, .inl (kA 0, 6, .inl (fun _ => 0))), (q20, .inl (kA 0, 6, .inl (fun _ => 0))), (q21, .inl (kA 0, 1440, .inl (fun _ => 0))), (q22, .inl (kA 3, 4, .inl (fun _ => 0)))] := hD
  have hP9 := hP.sub (ws' := [(m0, .inr (11, [.ref q1, .int 0, .int 0, .ref q2, .ref q3, .ref q4, .ref q5, .ref q6, .int 0, .int 0, .int 0, .int 0, .int 0, .int 0, .int 0, .ref q7, .int 0, .ref q8, .int 0, .ref q9, .ref q10, .ref q11, .int 0, .int 0, .int 0, .int 0, .int 0, .int 0, .ref q12, .ref q13, .ref q14, .ref q15, .ref q16, .int 0, .int 0, .int 0, .ref q17, .ref q18, .ref q19, .ref q20, .ref q21, .ref q22])), (q1, .inl (kA 1, 400, .inl (fun _ => 0))), (q3, .inl (kA 0, 6, .inl (fun _ => 0))), (q5, .inl (kA 0, 6, .inl (fun _ => 0))), (q6, .inl (kA 0, 6, .inl (fun _ => 0))), (q10, .inl (kA 0, 360, .inl (upd (fun _ => 0) (8 : Int32).toNatClampNeg (-1)))), (q21, .inl (kA 0, 1440, .inl (fun _ => 0))), (q22, .inl (kA 3, 4, .inl (fun _ => 0)))]) [0, 1, 3, 5, 6, 10, 21, 22] rfl
  have hD9 := hD.sub (ws' := [(m0, .inr (11, [.ref q1, .int 0, .int 0, .ref q2, .ref q3, .ref q4, .ref q5, .ref q6, .int 0, .int 0, .int 0, .int 0, .int 0, .int 0, .int 0, .ref q7, .int 0, .ref q8, .int 0, .ref q9, .ref q10, .ref q11, .int 0, .int 0, .int 0, .int 0, .int 0, .int 0, .ref q12, .ref q13, .ref q14, .ref q15, .ref q16, .int 0, .int 0, .int 0, .ref q17, .ref q18, .ref q19, .ref q20, .ref q21, .ref q22])), (q1, .inl (kA 1, 400, .inl (fun _ => 0))), (q3, .inl (kA 0, 6, .inl (fun _ => 0))), (q5, .inl (kA 0, 6, .inl (fun _ => 0))), (q6, .inl (kA 0, 6, .inl (fun _ => 0))), (q10, .inl (kA 0, 360, .inl (upd (fun _ => 0) (8 : Int32).toNatClampNeg (-1)))), (q21, .inl (kA 0, 1440, .inl (fun _ => 0))), (q22, .inl (kA 3, 4, .inl (fun _ => 0)))]) [0, 1, 3, 5, 6, 10, 21, 22] (by decide) rfl
  refine W.widen (k := 22) (n := 5882) (Nat.le_of_ble_eq_true rfl) (Nat.le_of_ble_eq_true rfl) ?_
  exact W.vret hx hb hr (fun t ht hW => ⟨⟨(q1, q2, q3, q4, q5, q6, q7, q8, q9, q10, q11, q12, q13, q14, q15, q16, q17, q18, q19, q20, q21, q22), rfl, trivial, by rw [ht]; exact hP9, hD9⟩, hS.F ht⟩) hS.2.2 dX11_init_194
end
