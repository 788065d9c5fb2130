section
-- ===== PART A: goes FIRST, ahead of the names: the tables' words, and 'selects' of the private methods out of them =====
/-- a private method of a class that the tables say can be made, by its rows of tables_1 -/
def lw_okq (q : MethodName × Nat) : Prop := (q.1.cls ≠ "java/lang/invoke/MethodHandle" ∧ q.1.cls ≠ "java/lang/invoke/VarHandle") ∧ Cond.instantiable q.1.cls q.2 ∈ tables_1 ∧ Cond.privateMethod q.1 ∈ tables_1 ∧ Cond.instanceMethod q.1 ∈ tables_1
theorem lw_p0 : lw_okq (⟨"WellCourt$Reader", "advance", "()V"⟩, 6) := ⟨⟨by decide +kernel, by decide +kernel⟩, List.mem_of_getElem? (i := 48) (by decide +kernel), List.mem_of_getElem? (i := 368) (by decide +kernel), List.mem_of_getElem? (i := 369) (by decide +kernel)⟩
theorem lw_p1 : lw_okq (⟨"WellCourt$Reader", "readRun", "()V"⟩, 6) := ⟨⟨by decide +kernel, by decide +kernel⟩, List.mem_of_getElem? (i := 48) (by decide +kernel), List.mem_of_getElem? (i := 385) (by decide +kernel), List.mem_of_getElem? (i := 386) (by decide +kernel)⟩
theorem lw_p2 : lw_okq (⟨"WellCourt$Reader", "isRuleWord", "()Z"⟩, 6) := ⟨⟨by decide +kernel, by decide +kernel⟩, List.mem_of_getElem? (i := 48) (by decide +kernel), List.mem_of_getElem? (i := 392) (by decide +kernel), List.mem_of_getElem? (i := 393) (by decide +kernel)⟩
theorem lw_p3 : lw_okq (⟨"WellCourt$Reader", "isWord", "(Ljava/lang/String;)Z"⟩, 6) := ⟨⟨by decide +kernel, by decide +kernel⟩, List.mem_of_getElem? (i := 48) (by decide +kernel), List.mem_of_getElem? (i := 397) (by decide +kernel), List.mem_of_getElem? (i := 398) (by decide +kernel)⟩
theorem lw_p4 : lw_okq (⟨"WellCourt$Reader", "cannotCome", "()Z"⟩, 6) := ⟨⟨by decide +kernel, by decide +kernel⟩, List.mem_of_getElem? (i := 48) (by decide +kernel), List.mem_of_getElem? (i := 453) (by decide +kernel), List.mem_of_getElem? (i := 454) (by decide +kernel)⟩
theorem lw_p5 : lw_okq (⟨"WellCourt$Reader", "fail", "(I)Z"⟩, 6) := ⟨⟨by decide +kernel, by decide +kernel⟩, List.mem_of_getElem? (i := 48) (by decide +kernel), List.mem_of_getElem? (i := 457) (by decide +kernel), List.mem_of_getElem? (i := 458) (by decide +kernel)⟩
theorem lw_p6 : lw_okq (⟨"WellCourt$Reader", "readTurns", "(LWellCourt$Law;)Z"⟩, 6) := ⟨⟨by decide +kernel, by decide +kernel⟩, List.mem_of_getElem? (i := 48) (by decide +kernel), List.mem_of_getElem? (i := 461) (by decide +kernel), List.mem_of_getElem? (i := 462) (by decide +kernel)⟩
theorem lw_p7 : lw_okq (⟨"WellCourt$Reader", "readNumber", "(II)I"⟩, 6) := ⟨⟨by decide +kernel, by decide +kernel⟩, List.mem_of_getElem? (i := 48) (by decide +kernel), List.mem_of_getElem? (i := 465) (by decide +kernel), List.mem_of_getElem? (i := 466) (by decide +kernel)⟩
theorem lw_p8 : lw_okq (⟨"WellCourt$Reader", "readSign", "(C)Z"⟩, 6) := ⟨⟨by decide +kernel, by decide +kernel⟩, List.mem_of_getElem? (i := 48) (by decide +kernel), List.mem_of_getElem? (i := 474) (by decide +kernel), List.mem_of_getElem? (i := 475) (by decide +kernel)⟩
theorem lw_p9 : lw_okq (⟨"WellCourt$Reader", "isSign", "(C)Z"⟩, 6) := ⟨⟨by decide +kernel, by decide +kernel⟩, List.mem_of_getElem? (i := 48) (by decide +kernel), List.mem_of_getElem? (i := 478) (by decide +kernel), List.mem_of_getElem? (i := 479) (by decide +kernel)⟩
theorem lw_p10 : lw_okq (⟨"WellCourt$Reader", "readClan", "(I)I"⟩, 6) := ⟨⟨by decide +kernel, by decide +kernel⟩, List.mem_of_getElem? (i := 48) (by decide +kernel), List.mem_of_getElem? (i := 482) (by decide +kernel), List.mem_of_getElem? (i := 483) (by decide +kernel)⟩
theorem lw_p11 : lw_okq (⟨"WellCourt$Reader", "readGuest", "(LWellCourt$Law;)Z"⟩, 6) := ⟨⟨by decide +kernel, by decide +kernel⟩, List.mem_of_getElem? (i := 48) (by decide +kernel), List.mem_of_getElem? (i := 493) (by decide +kernel), List.mem_of_getElem? (i := 494) (by decide +kernel)⟩
theorem lw_p12 : lw_okq (⟨"WellCourt$Reader", "readWord", "(Ljava/lang/String;)Z"⟩, 6) := ⟨⟨by decide +kernel, by decide +kernel⟩, List.mem_of_getElem? (i := 48) (by decide +kernel), List.mem_of_getElem? (i := 498) (by decide +kernel), List.mem_of_getElem? (i := 499) (by decide +kernel)⟩
theorem lw_p13 : lw_okq (⟨"WellCourt$Reader", "readWed", "(LWellCourt$Law;)Z"⟩, 6) := ⟨⟨by decide +kernel, by decide +kernel⟩, List.mem_of_getElem? (i := 48) (by decide +kernel), List.mem_of_getElem? (i := 507) (by decide +kernel), List.mem_of_getElem? (i := 508) (by decide +kernel)⟩
theorem lw_p14 : lw_okq (⟨"WellCourt$Reader", "readDrought", "(LWellCourt$Law;)Z"⟩, 6) := ⟨⟨by decide +kernel, by decide +kernel⟩, List.mem_of_getElem? (i := 48) (by decide +kernel), List.mem_of_getElem? (i := 515) (by decide +kernel), List.mem_of_getElem? (i := 516) (by decide +kernel)⟩
theorem lw_p15 : lw_okq (⟨"WellCourt$Reader", "readDry", "(LWellCourt$Law;)Z"⟩, 6) := ⟨⟨by decide +kernel, by decide +kernel⟩, List.mem_of_getElem? (i := 48) (by decide +kernel), List.mem_of_getElem? (i := 524) (by decide +kernel), List.mem_of_getElem? (i := 525) (by decide +kernel)⟩
def lw_privs_1 : List (MethodName × Nat) := [(⟨"WellCourt$Reader", "advance", "()V"⟩, 6), (⟨"WellCourt$Reader", "readRun", "()V"⟩, 6), (⟨"WellCourt$Reader", "isRuleWord", "()Z"⟩, 6), (⟨"WellCourt$Reader", "isWord", "(Ljava/lang/String;)Z"⟩, 6), (⟨"WellCourt$Reader", "cannotCome", "()Z"⟩, 6), (⟨"WellCourt$Reader", "fail", "(I)Z"⟩, 6), (⟨"WellCourt$Reader", "readTurns", "(LWellCourt$Law;)Z"⟩, 6), (⟨"WellCourt$Reader", "readNumber", "(II)I"⟩, 6), (⟨"WellCourt$Reader", "readSign", "(C)Z"⟩, 6), (⟨"WellCourt$Reader", "isSign", "(C)Z"⟩, 6), (⟨"WellCourt$Reader", "readClan", "(I)I"⟩, 6), (⟨"WellCourt$Reader", "readGuest", "(LWellCourt$Law;)Z"⟩, 6), (⟨"WellCourt$Reader", "readWord", "(Ljava/lang/String;)Z"⟩, 6), (⟨"WellCourt$Reader", "readWed", "(LWellCourt$Law;)Z"⟩, 6), (⟨"WellCourt$Reader", "readDrought", "(LWellCourt$Law;)Z"⟩, 6), (⟨"WellCourt$Reader", "readDry", "(LWellCourt$Law;)Z"⟩, 6)]
theorem lw_r1 : ∀ q ∈ lw_privs_1, lw_okq q := List.forall_mem_cons.mpr ⟨lw_p0, List.forall_mem_cons.mpr ⟨lw_p1, List.forall_mem_cons.mpr ⟨lw_p2, List.forall_mem_cons.mpr ⟨lw_p3, List.forall_mem_cons.mpr ⟨lw_p4, List.forall_mem_cons.mpr ⟨lw_p5, List.forall_mem_cons.mpr ⟨lw_p6, List.forall_mem_cons.mpr ⟨lw_p7, List.forall_mem_cons.mpr ⟨lw_p8, List.forall_mem_cons.mpr ⟨lw_p9, List.forall_mem_cons.mpr ⟨lw_p10, List.forall_mem_cons.mpr ⟨lw_p11, List.forall_mem_cons.mpr ⟨lw_p12, List.forall_mem_cons.mpr ⟨lw_p13, List.forall_mem_cons.mpr ⟨lw_p14, List.forall_mem_cons.mpr ⟨lw_p15, fun _ h => absurd h List.not_mem_nil⟩⟩⟩⟩⟩⟩⟩⟩⟩⟩⟩⟩⟩⟩⟩⟩
theorem lw_p16 : lw_okq (⟨"WellCourt", "settleToday", "()V"⟩, 12) := ⟨⟨by decide +kernel, by decide +kernel⟩, List.mem_of_getElem? (i := 25) (by decide +kernel), List.mem_of_getElem? (i := 544) (by decide +kernel), List.mem_of_getElem? (i := 545) (by decide +kernel)⟩
theorem lw_p17 : lw_okq (⟨"WellCourt", "isWellThere", "(I)Z"⟩, 12) := ⟨⟨by decide +kernel, by decide +kernel⟩, List.mem_of_getElem? (i := 25) (by decide +kernel), List.mem_of_getElem? (i := 588) (by decide +kernel), List.mem_of_getElem? (i := 589) (by decide +kernel)⟩
theorem lw_p18 : lw_okq (⟨"WellCourt", "standing", "(II)I"⟩, 12) := ⟨⟨by decide +kernel, by decide +kernel⟩, List.mem_of_getElem? (i := 25) (by decide +kernel), List.mem_of_getElem? (i := 602) (by decide +kernel), List.mem_of_getElem? (i := 603) (by decide +kernel)⟩
theorem lw_p19 : lw_okq (⟨"WellCourt", "canBeDrawn", "(III)Z"⟩, 12) := ⟨⟨by decide +kernel, by decide +kernel⟩, List.mem_of_getElem? (i := 25) (by decide +kernel), List.mem_of_getElem? (i := 640) (by decide +kernel), List.mem_of_getElem? (i := 641) (by decide +kernel)⟩
theorem lw_p20 : lw_okq (⟨"WellCourt$Ledger", "isOf", "(IIZ)Z"⟩, 2) := ⟨⟨by decide +kernel, by decide +kernel⟩, List.mem_of_getElem? (i := 135) (by decide +kernel), List.mem_of_getElem? (i := 648) (by decide +kernel), List.mem_of_getElem? (i := 649) (by decide +kernel)⟩
theorem lw_p21 : lw_okq (⟨"WellCourt$Ledger", "isKnown", "(II)Z"⟩, 2) := ⟨⟨by decide +kernel, by decide +kernel⟩, List.mem_of_getElem? (i := 135) (by decide +kernel), List.mem_of_getElem? (i := 681) (by decide +kernel), List.mem_of_getElem? (i := 682) (by decide +kernel)⟩
theorem lw_p22 : lw_okq (⟨"WellCourt", "fine", "(IIII)I"⟩, 12) := ⟨⟨by decide +kernel, by decide +kernel⟩, List.mem_of_getElem? (i := 25) (by decide +kernel), List.mem_of_getElem? (i := 685) (by decide +kernel), List.mem_of_getElem? (i := 686) (by decide +kernel)⟩
theorem lw_p23 : lw_okq (⟨"java/lang/Throwable", "fillInStackTrace", "(I)Ljava/lang/Throwable;"⟩, 6) := ⟨⟨by decide +kernel, by decide +kernel⟩, List.mem_of_getElem? (i := 785) (by decide +kernel), List.mem_of_getElem? (i := 783) (by decide +kernel), List.mem_of_getElem? (i := 784) (by decide +kernel)⟩
theorem lw_p24 : lw_okq (⟨"WellCourt$Planner", "openDay", "(I)V"⟩, 15) := ⟨⟨by decide +kernel, by decide +kernel⟩, List.mem_of_getElem? (i := 234) (by decide +kernel), List.mem_of_getElem? (i := 855) (by decide +kernel), List.mem_of_getElem? (i := 856) (by decide +kernel)⟩
theorem lw_p25 : lw_okq (⟨"WellCourt$Planner", "nextAct", "(I)I"⟩, 15) := ⟨⟨by decide +kernel, by decide +kernel⟩, List.mem_of_getElem? (i := 234) (by decide +kernel), List.mem_of_getElem? (i := 862) (by decide +kernel), List.mem_of_getElem? (i := 863) (by decide +kernel)⟩
theorem lw_p26 : lw_okq (⟨"WellCourt$Planner", "canDo", "(III)Z"⟩, 15) := ⟨⟨by decide +kernel, by decide +kernel⟩, List.mem_of_getElem? (i := 234) (by decide +kernel), List.mem_of_getElem? (i := 870) (by decide +kernel), List.mem_of_getElem? (i := 871) (by decide +kernel)⟩
theorem lw_p27 : lw_okq (⟨"WellCourt$Planner", "undo", "(I)V"⟩, 15) := ⟨⟨by decide +kernel, by decide +kernel⟩, List.mem_of_getElem? (i := 234) (by decide +kernel), List.mem_of_getElem? (i := 875) (by decide +kernel), List.mem_of_getElem? (i := 876) (by decide +kernel)⟩
theorem lw_p28 : lw_okq (⟨"WellCourt$Planner", "perform", "(II)V"⟩, 15) := ⟨⟨by decide +kernel, by decide +kernel⟩, List.mem_of_getElem? (i := 234) (by decide +kernel), List.mem_of_getElem? (i := 879) (by decide +kernel), List.mem_of_getElem? (i := 880) (by decide +kernel)⟩
theorem lw_p29 : lw_okq (⟨"WellCourt$Planner", "isGood", "(I)Z"⟩, 15) := ⟨⟨by decide +kernel, by decide +kernel⟩, List.mem_of_getElem? (i := 234) (by decide +kernel), List.mem_of_getElem? (i := 883) (by decide +kernel), List.mem_of_getElem? (i := 884) (by decide +kernel)⟩
theorem lw_p30 : lw_okq (⟨"WellCourt$Planner", "keepFound", "(I)V"⟩, 15) := ⟨⟨by decide +kernel, by decide +kernel⟩, List.mem_of_getElem? (i := 234) (by decide +kernel), List.mem_of_getElem? (i := 888) (by decide +kernel), List.mem_of_getElem? (i := 889) (by decide +kernel)⟩
theorem lw_p31 : lw_okq (⟨"WellCourtModel", "four", "(I)V"⟩, 59) := ⟨⟨by decide +kernel, by decide +kernel⟩, List.mem_of_getElem? (i := 896) (by decide +kernel), List.mem_of_getElem? (i := 1089) (by decide +kernel), List.mem_of_getElem? (i := 1090) (by decide +kernel)⟩
def lw_privs_2 : List (MethodName × Nat) := [(⟨"WellCourt", "settleToday", "()V"⟩, 12), (⟨"WellCourt", "isWellThere", "(I)Z"⟩, 12), (⟨"WellCourt", "standing", "(II)I"⟩, 12), (⟨"WellCourt", "canBeDrawn", "(III)Z"⟩, 12), (⟨"WellCourt$Ledger", "isOf", "(IIZ)Z"⟩, 2), (⟨"WellCourt$Ledger", "isKnown", "(II)Z"⟩, 2), (⟨"WellCourt", "fine", "(IIII)I"⟩, 12), (⟨"java/lang/Throwable", "fillInStackTrace", "(I)Ljava/lang/Throwable;"⟩, 6), (⟨"WellCourt$Planner", "openDay", "(I)V"⟩, 15), (⟨"WellCourt$Planner", "nextAct", "(I)I"⟩, 15), (⟨"WellCourt$Planner", "canDo", "(III)Z"⟩, 15), (⟨"WellCourt$Planner", "undo", "(I)V"⟩, 15), (⟨"WellCourt$Planner", "perform", "(II)V"⟩, 15), (⟨"WellCourt$Planner", "isGood", "(I)Z"⟩, 15), (⟨"WellCourt$Planner", "keepFound", "(I)V"⟩, 15), (⟨"WellCourtModel", "four", "(I)V"⟩, 59)]
theorem lw_r2 : ∀ q ∈ lw_privs_2, lw_okq q := List.forall_mem_cons.mpr ⟨lw_p16, List.forall_mem_cons.mpr ⟨lw_p17, List.forall_mem_cons.mpr ⟨lw_p18, List.forall_mem_cons.mpr ⟨lw_p19, List.forall_mem_cons.mpr ⟨lw_p20, List.forall_mem_cons.mpr ⟨lw_p21, List.forall_mem_cons.mpr ⟨lw_p22, List.forall_mem_cons.mpr ⟨lw_p23, List.forall_mem_cons.mpr ⟨lw_p24, List.forall_mem_cons.mpr ⟨lw_p25, List.forall_mem_cons.mpr ⟨lw_p26, List.forall_mem_cons.mpr ⟨lw_p27, List.forall_mem_cons.mpr ⟨lw_p28, List.forall_mem_cons.mpr ⟨lw_p29, List.forall_mem_cons.mpr ⟨lw_p30, List.forall_mem_cons.mpr ⟨lw_p31, fun _ h => absurd h List.not_mem_nil⟩⟩⟩⟩⟩⟩⟩⟩⟩⟩⟩⟩⟩⟩⟩⟩
theorem lw_p32 : lw_okq (⟨"WellCourtModel", "next0", "()V"⟩, 59) := ⟨⟨by decide +kernel, by decide +kernel⟩, List.mem_of_getElem? (i := 896) (by decide +kernel), List.mem_of_getElem? (i := 1101) (by decide +kernel), List.mem_of_getElem? (i := 1102) (by decide +kernel)⟩
theorem lw_p33 : lw_okq (⟨"WellCourtModel", "peek", "()I"⟩, 59) := ⟨⟨by decide +kernel, by decide +kernel⟩, List.mem_of_getElem? (i := 896) (by decide +kernel), List.mem_of_getElem? (i := 1105) (by decide +kernel), List.mem_of_getElem? (i := 1106) (by decide +kernel)⟩
theorem lw_p34 : lw_okq (⟨"WellCourtModel", "rule", "()Z"⟩, 59) := ⟨⟨by decide +kernel, by decide +kernel⟩, List.mem_of_getElem? (i := 896) (by decide +kernel), List.mem_of_getElem? (i := 1115) (by decide +kernel), List.mem_of_getElem? (i := 1116) (by decide +kernel)⟩
theorem lw_p35 : lw_okq (⟨"WellCourtModel", "isWord", "(J)Z"⟩, 59) := ⟨⟨by decide +kernel, by decide +kernel⟩, List.mem_of_getElem? (i := 896) (by decide +kernel), List.mem_of_getElem? (i := 1120) (by decide +kernel), List.mem_of_getElem? (i := 1121) (by decide +kernel)⟩
theorem lw_p36 : lw_okq (⟨"WellCourtModel", "cant", "()Z"⟩, 59) := ⟨⟨by decide +kernel, by decide +kernel⟩, List.mem_of_getElem? (i := 896) (by decide +kernel), List.mem_of_getElem? (i := 1128) (by decide +kernel), List.mem_of_getElem? (i := 1129) (by decide +kernel)⟩
theorem lw_p37 : lw_okq (⟨"WellCourtModel", "wrong", "(II)Z"⟩, 59) := ⟨⟨by decide +kernel, by decide +kernel⟩, List.mem_of_getElem? (i := 896) (by decide +kernel), List.mem_of_getElem? (i := 1132) (by decide +kernel), List.mem_of_getElem? (i := 1133) (by decide +kernel)⟩
theorem lw_p38 : lw_okq (⟨"WellCourtModel", "turns", "(I)Z"⟩, 59) := ⟨⟨by decide +kernel, by decide +kernel⟩, List.mem_of_getElem? (i := 896) (by decide +kernel), List.mem_of_getElem? (i := 1136) (by decide +kernel), List.mem_of_getElem? (i := 1137) (by decide +kernel)⟩
theorem lw_p39 : lw_okq (⟨"WellCourtModel", "readNumber", "(II)Z"⟩, 59) := ⟨⟨by decide +kernel, by decide +kernel⟩, List.mem_of_getElem? (i := 896) (by decide +kernel), List.mem_of_getElem? (i := 1140) (by decide +kernel), List.mem_of_getElem? (i := 1141) (by decide +kernel)⟩
theorem lw_p40 : lw_okq (⟨"WellCourtModel", "must", "(I)Z"⟩, 59) := ⟨⟨by decide +kernel, by decide +kernel⟩, List.mem_of_getElem? (i := 896) (by decide +kernel), List.mem_of_getElem? (i := 1144) (by decide +kernel), List.mem_of_getElem? (i := 1145) (by decide +kernel)⟩
theorem lw_p41 : lw_okq (⟨"WellCourtModel", "readClan", "()Z"⟩, 59) := ⟨⟨by decide +kernel, by decide +kernel⟩, List.mem_of_getElem? (i := 896) (by decide +kernel), List.mem_of_getElem? (i := 1148) (by decide +kernel), List.mem_of_getElem? (i := 1149) (by decide +kernel)⟩
theorem lw_p42 : lw_okq (⟨"WellCourtModel", "guest", "(I)Z"⟩, 59) := ⟨⟨by decide +kernel, by decide +kernel⟩, List.mem_of_getElem? (i := 896) (by decide +kernel), List.mem_of_getElem? (i := 1154) (by decide +kernel), List.mem_of_getElem? (i := 1155) (by decide +kernel)⟩
theorem lw_p43 : lw_okq (⟨"WellCourtModel", "mustWord", "(J)Z"⟩, 59) := ⟨⟨by decide +kernel, by decide +kernel⟩, List.mem_of_getElem? (i := 896) (by decide +kernel), List.mem_of_getElem? (i := 1159) (by decide +kernel), List.mem_of_getElem? (i := 1160) (by decide +kernel)⟩
theorem lw_p44 : lw_okq (⟨"WellCourtModel", "wed", "(I)Z"⟩, 59) := ⟨⟨by decide +kernel, by decide +kernel⟩, List.mem_of_getElem? (i := 896) (by decide +kernel), List.mem_of_getElem? (i := 1164) (by decide +kernel), List.mem_of_getElem? (i := 1165) (by decide +kernel)⟩
theorem lw_p45 : lw_okq (⟨"WellCourtModel", "drought", "(I)Z"⟩, 59) := ⟨⟨by decide +kernel, by decide +kernel⟩, List.mem_of_getElem? (i := 896) (by decide +kernel), List.mem_of_getElem? (i := 1168) (by decide +kernel), List.mem_of_getElem? (i := 1169) (by decide +kernel)⟩
theorem lw_p46 : lw_okq (⟨"WellCourtModel", "dry", "(I)Z"⟩, 59) := ⟨⟨by decide +kernel, by decide +kernel⟩, List.mem_of_getElem? (i := 896) (by decide +kernel), List.mem_of_getElem? (i := 1173) (by decide +kernel), List.mem_of_getElem? (i := 1174) (by decide +kernel)⟩
theorem lw_p47 : lw_okq (⟨"WellCourtModel", "byTurns", "(II)I"⟩, 59) := ⟨⟨by decide +kernel, by decide +kernel⟩, List.mem_of_getElem? (i := 896) (by decide +kernel), List.mem_of_getElem? (i := 1178) (by decide +kernel), List.mem_of_getElem? (i := 1179) (by decide +kernel)⟩
def lw_privs_3 : List (MethodName × Nat) := [(⟨"WellCourtModel", "next0", "()V"⟩, 59), (⟨"WellCourtModel", "peek", "()I"⟩, 59), (⟨"WellCourtModel", "rule", "()Z"⟩, 59), (⟨"WellCourtModel", "isWord", "(J)Z"⟩, 59), (⟨"WellCourtModel", "cant", "()Z"⟩, 59), (⟨"WellCourtModel", "wrong", "(II)Z"⟩, 59), (⟨"WellCourtModel", "turns", "(I)Z"⟩, 59), (⟨"WellCourtModel", "readNumber", "(II)Z"⟩, 59), (⟨"WellCourtModel", "must", "(I)Z"⟩, 59), (⟨"WellCourtModel", "readClan", "()Z"⟩, 59), (⟨"WellCourtModel", "guest", "(I)Z"⟩, 59), (⟨"WellCourtModel", "mustWord", "(J)Z"⟩, 59), (⟨"WellCourtModel", "wed", "(I)Z"⟩, 59), (⟨"WellCourtModel", "drought", "(I)Z"⟩, 59), (⟨"WellCourtModel", "dry", "(I)Z"⟩, 59), (⟨"WellCourtModel", "byTurns", "(II)I"⟩, 59)]
theorem lw_r3 : ∀ q ∈ lw_privs_3, lw_okq q := List.forall_mem_cons.mpr ⟨lw_p32, List.forall_mem_cons.mpr ⟨lw_p33, List.forall_mem_cons.mpr ⟨lw_p34, List.forall_mem_cons.mpr ⟨lw_p35, List.forall_mem_cons.mpr ⟨lw_p36, List.forall_mem_cons.mpr ⟨lw_p37, List.forall_mem_cons.mpr ⟨lw_p38, List.forall_mem_cons.mpr ⟨lw_p39, List.forall_mem_cons.mpr ⟨lw_p40, List.forall_mem_cons.mpr ⟨lw_p41, List.forall_mem_cons.mpr ⟨lw_p42, List.forall_mem_cons.mpr ⟨lw_p43, List.forall_mem_cons.mpr ⟨lw_p44, List.forall_mem_cons.mpr ⟨lw_p45, List.forall_mem_cons.mpr ⟨lw_p46, List.forall_mem_cons.mpr ⟨lw_p47, fun _ h => absurd h List.not_mem_nil⟩⟩⟩⟩⟩⟩⟩⟩⟩⟩⟩⟩⟩⟩⟩⟩
theorem lw_p48 : lw_okq (⟨"WellCourtModel", "droughts", "()V"⟩, 59) := ⟨⟨by decide +kernel, by decide +kernel⟩, List.mem_of_getElem? (i := 896) (by decide +kernel), List.mem_of_getElem? (i := 1182) (by decide +kernel), List.mem_of_getElem? (i := 1183) (by decide +kernel)⟩
theorem lw_p49 : lw_okq (⟨"WellCourtModel", "byDrought", "(II)I"⟩, 59) := ⟨⟨by decide +kernel, by decide +kernel⟩, List.mem_of_getElem? (i := 896) (by decide +kernel), List.mem_of_getElem? (i := 1186) (by decide +kernel), List.mem_of_getElem? (i := 1187) (by decide +kernel)⟩
theorem lw_p50 : lw_okq (⟨"WellCourtModel", "hasWell", "(I)Z"⟩, 59) := ⟨⟨by decide +kernel, by decide +kernel⟩, List.mem_of_getElem? (i := 896) (by decide +kernel), List.mem_of_getElem? (i := 1202) (by decide +kernel), List.mem_of_getElem? (i := 1203) (by decide +kernel)⟩
theorem lw_p51 : lw_okq (⟨"WellCourtModel", "isRightNow", "(II)Z"⟩, 59) := ⟨⟨by decide +kernel, by decide +kernel⟩, List.mem_of_getElem? (i := 896) (by decide +kernel), List.mem_of_getElem? (i := 1217) (by decide +kernel), List.mem_of_getElem? (i := 1218) (by decide +kernel)⟩
theorem lw_p52 : lw_okq (⟨"WellCourtModel", "isRight", "(II[III[II)Z"⟩, 59) := ⟨⟨by decide +kernel, by decide +kernel⟩, List.mem_of_getElem? (i := 896) (by decide +kernel), List.mem_of_getElem? (i := 1221) (by decide +kernel), List.mem_of_getElem? (i := 1222) (by decide +kernel)⟩
theorem lw_p53 : lw_okq (⟨"WellCourtModel", "guestRule", "(II)I"⟩, 59) := ⟨⟨by decide +kernel, by decide +kernel⟩, List.mem_of_getElem? (i := 896) (by decide +kernel), List.mem_of_getElem? (i := 1225) (by decide +kernel), List.mem_of_getElem? (i := 1226) (by decide +kernel)⟩
theorem lw_p54 : lw_okq (⟨"WellCourtModel", "cantDraw", "(III)Z"⟩, 59) := ⟨⟨by decide +kernel, by decide +kernel⟩, List.mem_of_getElem? (i := 896) (by decide +kernel), List.mem_of_getElem? (i := 1237) (by decide +kernel), List.mem_of_getElem? (i := 1238) (by decide +kernel)⟩
theorem lw_p55 : lw_okq (⟨"WellCourtModel", "drawn", "(IIIZ)I"⟩, 59) := ⟨⟨by decide +kernel, by decide +kernel⟩, List.mem_of_getElem? (i := 896) (by decide +kernel), List.mem_of_getElem? (i := 1241) (by decide +kernel), List.mem_of_getElem? (i := 1242) (by decide +kernel)⟩
theorem lw_p56 : lw_okq (⟨"WellCourtModel", "dawn", "(II)V"⟩, 59) := ⟨⟨by decide +kernel, by decide +kernel⟩, List.mem_of_getElem? (i := 896) (by decide +kernel), List.mem_of_getElem? (i := 1278) (by decide +kernel), List.mem_of_getElem? (i := 1279) (by decide +kernel)⟩
theorem lw_p57 : lw_okq (⟨"WellCourtModel", "mayDo", "(III)Z"⟩, 59) := ⟨⟨by decide +kernel, by decide +kernel⟩, List.mem_of_getElem? (i := 896) (by decide +kernel), List.mem_of_getElem? (i := 1282) (by decide +kernel), List.mem_of_getElem? (i := 1283) (by decide +kernel)⟩
theorem lw_p58 : lw_okq (⟨"WellCourtModel", "goes", "(IIII)V"⟩, 59) := ⟨⟨by decide +kernel, by decide +kernel⟩, List.mem_of_getElem? (i := 896) (by decide +kernel), List.mem_of_getElem? (i := 1286) (by decide +kernel), List.mem_of_getElem? (i := 1287) (by decide +kernel)⟩
theorem lw_p59 : lw_okq (⟨"WellCourtModel", "isGood", "(II)Z"⟩, 59) := ⟨⟨by decide +kernel, by decide +kernel⟩, List.mem_of_getElem? (i := 896) (by decide +kernel), List.mem_of_getElem? (i := 1290) (by decide +kernel), List.mem_of_getElem? (i := 1291) (by decide +kernel)⟩
def lw_privs_4 : List (MethodName × Nat) := [(⟨"WellCourtModel", "droughts", "()V"⟩, 59), (⟨"WellCourtModel", "byDrought", "(II)I"⟩, 59), (⟨"WellCourtModel", "hasWell", "(I)Z"⟩, 59), (⟨"WellCourtModel", "isRightNow", "(II)Z"⟩, 59), (⟨"WellCourtModel", "isRight", "(II[III[II)Z"⟩, 59), (⟨"WellCourtModel", "guestRule", "(II)I"⟩, 59), (⟨"WellCourtModel", "cantDraw", "(III)Z"⟩, 59), (⟨"WellCourtModel", "drawn", "(IIIZ)I"⟩, 59), (⟨"WellCourtModel", "dawn", "(II)V"⟩, 59), (⟨"WellCourtModel", "mayDo", "(III)Z"⟩, 59), (⟨"WellCourtModel", "goes", "(IIII)V"⟩, 59), (⟨"WellCourtModel", "isGood", "(II)Z"⟩, 59)]
theorem lw_r4 : ∀ q ∈ lw_privs_4, lw_okq q := List.forall_mem_cons.mpr ⟨lw_p48, List.forall_mem_cons.mpr ⟨lw_p49, List.forall_mem_cons.mpr ⟨lw_p50, List.forall_mem_cons.mpr ⟨lw_p51, List.forall_mem_cons.mpr ⟨lw_p52, List.forall_mem_cons.mpr ⟨lw_p53, List.forall_mem_cons.mpr ⟨lw_p54, List.forall_mem_cons.mpr ⟨lw_p55, List.forall_mem_cons.mpr ⟨lw_p56, List.forall_mem_cons.mpr ⟨lw_p57, List.forall_mem_cons.mpr ⟨lw_p58, List.forall_mem_cons.mpr ⟨lw_p59, fun _ h => absurd h List.not_mem_nil⟩⟩⟩⟩⟩⟩⟩⟩⟩⟩⟩⟩
def lw_privs : List (MethodName × Nat) := lw_privs_1 ++ (lw_privs_2 ++ (lw_privs_3 ++ (lw_privs_4)))
def lw_tbl : List Cond := k2_sels lw_privs ++ tables_1
theorem lw_privs_ok : ∀ q ∈ lw_privs, lw_okq q := by
  show ∀ q ∈ lw_privs_1 ++ (lw_privs_2 ++ (lw_privs_3 ++ (lw_privs_4))), lw_okq q
  exact List.forall_mem_append.mpr ⟨lw_r1, List.forall_mem_append.mpr ⟨lw_r2, List.forall_mem_append.mpr ⟨lw_r3, lw_r4⟩⟩⟩
-- ===== end of PART A; then your names; then what follows =====
end
section
/-- 'an array over arrays of ty is there', whatever the arguments are (the printed rows speak of it) -/
def va_AOA (ty : FieldType) (U : State) : Prop := (Cond.arrayOver (.array ty)).before #[] U = true
theorem va_AOA.of {ty : FieldType} {A : Array Value} {U : State} (h : (Cond.arrayOver (.array ty)).before A U = true) : va_AOA ty U := h
theorem va_AOA.use {ty : FieldType} {A : Array Value} {U : State} (h : va_AOA ty U) : (Cond.arrayOver (.array ty)).before A U = true := h
/-! ===== BEGIN words of one list among another's, by their places ===== -/
theorem goodIn_r {big : List Cond} (ws : List Cond) (ps : List Nat) (hp : ws = ps.filterMap (fun i => big[i]?)) (h : ws.all goodWord = true) : GoodIn big ws := by
  intro w hw
  have h1 := List.all_eq_true.mp h w hw
  rw [hp] at hw
  obtain ⟨i, -, hi⟩ := List.mem_filterMap.mp hw
  have hm : w ∈ big := by first | exact List.mem_of_getElem? hi | exact List.getElem?_mem hi
  exact ⟨hm, good_of_word h1⟩
theorem goodIn_app {big a b : List Cond} (ha : GoodIn big a) (hb : GoodIn big b) : GoodIn big (a ++ b) := fun w h => (List.mem_append.mp h).elim (ha w) (hb w)
theorem goodIn_ca {big a b : List Cond} {c : Cond} (ha : GoodIn big (c :: a)) (hb : GoodIn big b) : GoodIn big (c :: (a ++ b)) := fun w h => (List.mem_cons.mp h).elim (fun e => ha w (List.mem_cons.mpr (Or.inl e))) (fun h => (List.mem_append.mp h).elim (fun h => ha w (List.mem_cons.mpr (Or.inr h))) (hb w))
theorem goodIn_sub {big ws : List Cond} (hm : ∀ w ∈ ws, w ∈ big) (h : ws.all goodWord = true) : GoodIn big ws := fun w hw => ⟨hm w hw, good_of_word (List.all_eq_true.mp h w hw)⟩
/-! ===== END ===== -/

/-! ===== BEGIN new T[n][m]: the outer array a place, the inner ones among the pooled ===== -/
/-- f, but v at every address of l -/
def vr_up {α : Type} (f : Nat → α) (l : List Nat) (v : α) : Nat → α := fun a => if a ∈ l then v else f a
theorem vr_up_in {α : Type} {f : Nat → α} {l : List Nat} {v : α} {a : Nat} (h : a ∈ l) : vr_up f l v a = v := if_pos h
theorem vr_up_ne {α : Type} {f : Nat → α} {l : List Nat} {v : α} {a : Nat} (h : a ∉ l) : vr_up f l v a = f a := if_neg h
theorem vr_rows {L l : List Nat} {f : Nat → va_E} {e : va_E} (h : ∀ a, a ∈ l → a ∉ L) : va_pl L f ++ l.map (fun a => (a, e)) = va_pl (L ++ l) (vr_up f l e) := by
  unfold va_pl
  rw [List.map_append]
  congr 1
  · apply List.map_congr_left
    intro a ha
    rw [vr_up_ne (fun q => h a q ha)]
  · apply List.map_congr_left
    intro a ha
    rw [vr_up_in ha]
theorem vr_lay {X rows : va_W} {x : Nat × va_E} {pl : va_W} {D : va_G} {cl : List vw_C} {H : Heap} (hP : va_P D cl (((X ++ pl) ++ [x]) ++ rows) H) : va_P D cl ((X ++ [x]) ++ (pl ++ rows)) H := by
  rw [List.append_assoc (X ++ pl)] at hP
  have h := va_P.swap hP
  rw [← List.append_assoc X] at h
  have h2 := va_P.swap h
  rw [List.append_assoc (X ++ [x])] at h2
  exact h2
theorem vr_layD {X rows : va_W} {x : Nat × va_E} {pl : va_W} {A : Nat → Prop} (hD : va_D A (((X ++ pl) ++ [x]) ++ rows)) : va_D A ((X ++ [x]) ++ (pl ++ rows)) := by
  rw [List.append_assoc (X ++ pl)] at hD
  have h := va_D.swap hD
  rw [← List.append_assoc X] at h
  have h2 := va_D.swap h
  rw [List.append_assoc (X ++ [x])] at h2
  exact h2
theorem vr_outer (c : ClassId) (N h0 : Nat) : ∀ i : Nat, Jvm.Free.Multi.outerC c N h0 i = arrV c N (fun j => va_rf (if j < i then some (h0 + 1 + j) else none))
  | 0 => by
    show ({ cls := c, slots := Array.replicate N .null, vm := .none } : Cell) = _
    rw [arrV_new]
    refine congrArg (arrV c N) (funext fun j => ?_)
    simp [va_rf]
  | i + 1 => by
    show (Jvm.Free.Multi.outerC c N h0 i).setSlot i (.ref (h0 + 1 + i)) = _
    rw [vr_outer c N h0 i, arrV_store]
    refine congrArg (arrV c N) (funext fun j => ?_)
    by_cases e : j = i
    · subst e
      simp [updV, va_rf]
    · by_cases h : j < i
      · simp [updV, e, h, Nat.lt_succ_of_lt h]
      · simp [updV, e, h, show ¬ j < i + 1 by omega]
section VGM
variable {p : Program} {l : Launch} {e : Env} {R : Room} {s : State} {m : MethodId} {args : Array Value} {below : List Frame} {meth : Method} {c : Code} {H : Heap} {locs : List Loc} {cells slots : Nat} {Q : State → Prop}
variable {cc : ByteArray} {pc : Nat} {ls : Array Slot} {rest : List Value} {D : va_G} {cl : List vw_C} {A : Nat → Prop} {a : Nat} {tys : List (ClassId × FieldType)} {ws : va_W} {H0 : Heap}
theorem va_mna {X : va_W} {L : List Nat} {f : Nat → va_E} {cc : ByteArray} (hexec : p.tables.exec = Jvm.exec) (hb : c.code = cc) {own : String} {index : Nat} {ty : FieldType} {cy : ClassId} (hown : s.vm.findClass own = some m.cls) (hclink : (Cond.classLink own index ("[" ++ (FieldType.array ty).toString)).before args s = true) (hover : va_AOA ty s) (harr : (Cond.arrayClass ty).before args s = true) (hcy : s.vm.findClass (FieldType.array ty).toString = some cy)
    (hK : va_K D cl tys s) (hP : va_P D cl (X ++ va_pl L f) H) (hD : va_D A (X ++ va_pl L f)) (hS : va_S A H0 H locs) (hA : ∀ q, H0.size ≤ q → A q) {n k : Int32} {N' K' : Nat} {z : vp_A} (hn : ¬ n < 0) (hk : ¬ k < 0) (hN : n.toNatClampNeg = N') (hM : k.toNatClampNeg = K')
    (hb1 : N' * 4 ≤ 536870912) (hb2 : K' * componentBytes ty ≤ 536870912) (hb3 : K' ≤ 536870912) (hdf : fits ty (defaultValue ty) = true) (hdd : (defaultValue ty).isDefault = true) (hcells : cells + (1 + N') ≤ R.cells) (hslots : slots + (N' + N' * K') ≤ R.slots) (hz : ∀ c : ClassId, Jvm.Free.Multi.innerC c K' (defaultValue ty) = vp_cell c z) (hdg : decode cc pc = .ok (.multianewarray index 2, 4))
    (kk : ∀ (q : Nat) (r : Nat → Nat) (cA : ClassId) (H1 : Heap), (∀ i j : Nat, i < N' → j < N' → r i = r j → i = j) → (∀ i : Nat, i < N' → r i ∉ L) → va_K D cl (tys ++ [(cA, .array ty)]) s →
      va_P D cl ((X ++ [(q, .inl (cA, N', .inr (.inr (.inr (.inr (fun i => if i < N' then some (r i) else none))))))]) ++ va_pl (L ++ (List.range N').map r) (vr_up f ((List.range N').map r) (.inl (cy, z)))) H1 → va_D A ((X ++ [(q, .inl (cA, N', .inr (.inr (.inr (.inr (fun i => if i < N' then some (r i) else none))))))]) ++ va_pl (L ++ (List.range N').map r) (vr_up f ((List.range N').map r) (.inl (cy, z)))) → va_S A H0 H1 locs →
      W p l e R s m args below meth c H1 locs (cells + 1 + N') (slots + N' + N' * K') Q (F0 m (pc + 4) ls (.ref q :: rest))) : W p l e R s m args below meth c H locs cells slots Q (F0 m pc ls (.int k :: .int n :: rest)) := by
  subst hN
  subst hM
  intro T hT Xs
  obtain ⟨vm₁, cA, comp, -, fA, fC, hO, -, X', step⟩ := Xs.multianewarray2F hexec hown hclink (va_AOA.use hover) harr (g := F0 m pc ls (.int k :: .int n :: rest)) rfl (by rw [hb]; exact hdg) rfl hn hk hb1 hb2 hb3 hdf hdd hcells hslots
  have ec : some cy = some comp := hcy.symm.trans fC
  cases ec
  generalize hF : Jvm.Free.Multi.fill (T.setVm vm₁) cA cy n.toNatClampNeg k.toNatClampNeg (defaultValue ty) n.toNatClampNeg = F at X' step
  have hTh : (T.setVm vm₁).heap = H := hT
  obtain ⟨f1, f2, -, -⟩ := Jvm.Free.Multi.fill_facts (T.setVm vm₁) cA cy n.toNatClampNeg k.toNatClampNeg (defaultValue ty) n.toNatClampNeg
  rw [hF, hTh] at f1 f2
  have hold : ∀ x : Nat, x < H.size → F.heap[x]? = H[x]? := fun x hx => by
    have := Jvm.Free.Multi.fill_old (T.setVm vm₁) cA cy n.toNatClampNeg k.toNatClampNeg (defaultValue ty) (a := x) (by rw [hTh]; exact hx) n.toNatClampNeg
    rw [hF, hTh] at this
    exact this
  have hrow : ∀ j : Nat, j < n.toNatClampNeg → F.heap[H.size + 1 + j]? = some (vp_cell cy z) := fun j hj => by
    have := Jvm.Free.Multi.fill_inner (T.setVm vm₁) cA cy n.toNatClampNeg k.toNatClampNeg (defaultValue ty) n.toNatClampNeg j hj
    rw [hF, hTh, hz] at this
    exact this
  have hout : Jvm.Free.Multi.outerC cA n.toNatClampNeg H.size n.toNatClampNeg = vp_cell cA (n.toNatClampNeg, .inr (.inr (.inr (.inr (fun i => if i < n.toNatClampNeg then some (H.size + 1 + i) else none))))) := by
    rw [vp_cell_q]
    exact vr_outer cA n.toNatClampNeg H.size n.toNatClampNeg
  rw [hout] at f2
  have hlt : ∀ a, a ∈ L → a < H.size := fun a ha => by
    obtain ⟨k9, hk9⟩ := va_pl_get (X := X) (f := f) ha
    exact (hP k9 _ hk9).lt
  have hnl : ∀ i : Nat, i < n.toNatClampNeg → H.size + 1 + i ∉ L := fun i _ h => by
    have := hlt _ h
    omega
  have hnm : ∀ a, a ∈ (List.range n.toNatClampNeg).map (fun i => H.size + 1 + i) → a ∉ L := fun a ha h => by
    obtain ⟨i, -, rfl⟩ := List.mem_map.mp ha
    have := hlt _ h
    omega
  have hP0 : va_P D cl (X ++ va_pl L f) F.heap := hP.kept (fun k9 x hx => hold x.1 ((hP k9 x hx).lt))
  have hP1 : va_P D cl ((X ++ va_pl L f) ++ [(H.size, .inl (cA, n.toNatClampNeg, .inr (.inr (.inr (.inr (fun i => if i < n.toNatClampNeg then some (H.size + 1 + i) else none))))))]) F.heap := hP0.app (fun k9 x hx => by
    have h0 : k9 < 1 := (List.getElem?_eq_some_iff.mp hx).1
    rw [show k9 = 0 by omega] at hx
    cases hx
    exact f2)
  have hP2 : va_P D cl (((X ++ va_pl L f) ++ [(H.size, .inl (cA, n.toNatClampNeg, .inr (.inr (.inr (.inr (fun i => if i < n.toNatClampNeg then some (H.size + 1 + i) else none))))))]) ++ ((List.range n.toNatClampNeg).map (fun i => H.size + 1 + i)).map (fun a => (a, .inl (cy, z)))) F.heap := hP1.app (fun k9 x hx => by
    obtain ⟨a, ha, rfl⟩ := List.mem_map.mp (List.mem_of_getElem? hx)
    obtain ⟨i, hi, rfl⟩ := List.mem_map.mp ha
    exact hrow i (List.mem_range.mp hi))
  have hD2 : va_D A (((X ++ va_pl L f) ++ [(H.size, .inl (cA, n.toNatClampNeg, .inr (.inr (.inr (.inr (fun i => if i < n.toNatClampNeg then some (H.size + 1 + i) else none))))))]) ++ ((List.range n.toNatClampNeg).map (fun i => H.size + 1 + i)).map (fun a => (a, .inl (cy, z)))) := by
    have hD1 := hD.push (e := .inl (cA, n.toNatClampNeg, .inr (.inr (.inr (.inr (fun i => if i < n.toNatClampNeg then some (H.size + 1 + i) else none)))))) hP rfl (hA _ hS.1)
    generalize hW1 : (X ++ va_pl L f) ++ [(H.size, .inl (cA, n.toNatClampNeg, .inr (.inr (.inr (.inr (fun i => if i < n.toNatClampNeg then some (H.size + 1 + i) else none))))))] = W1 at hD1 hP1 ⊢
    have hle : ∀ (k9 : Nat) (x : Nat × va_E), W1[k9]? = some x → x.1 ≤ H.size := fun k9 x hx => by
      rw [← hW1] at hx
      by_cases hl : k9 < (X ++ va_pl L f).length
      · rw [List.getElem?_append_left hl] at hx
        exact Nat.le_of_lt ((hP k9 x hx).lt)
      · rw [List.getElem?_append_right (by omega)] at hx
        have h0 : k9 - (X ++ va_pl L f).length < 1 := (List.getElem?_eq_some_iff.mp hx).1
        rw [show k9 - (X ++ va_pl L f).length = 0 by omega] at hx
        cases hx
        exact Nat.le_refl _
    have hr : ∀ (k9 : Nat) (x : Nat × va_E), (((List.range n.toNatClampNeg).map (fun i => H.size + 1 + i)).map (fun a => ((a, .inl (cy, z)) : Nat × va_E)))[k9]? = some x → x.1 = H.size + 1 + k9 := fun k9 x hx => by
      rw [List.getElem?_map, List.getElem?_map] at hx
      by_cases h9 : k9 < n.toNatClampNeg
      · rw [List.getElem?_range h9] at hx
        cases hx
        rfl
      · have hn0 : (List.range n.toNatClampNeg)[k9]? = none := List.getElem?_eq_none (by rw [List.length_range]; omega)
        rw [hn0] at hx
        cases hx
    refine ⟨fun i j x y hi hj hxy => ?_, fun k9 x hx => ?_⟩
    · by_cases h1 : i < W1.length <;> by_cases h2 : j < W1.length
      · rw [List.getElem?_append_left h1] at hi
        rw [List.getElem?_append_left h2] at hj
        exact hD1.1 i j x y hi hj hxy
      · rw [List.getElem?_append_left h1] at hi
        rw [List.getElem?_append_right (by omega)] at hj
        have := hle _ _ hi
        have := hr _ _ hj
        omega
      · rw [List.getElem?_append_right (by omega)] at hi
        rw [List.getElem?_append_left h2] at hj
        have := hle _ _ hj
        have := hr _ _ hi
        omega
      · rw [List.getElem?_append_right (by omega)] at hi hj
        have := hr _ _ hi
        have := hr _ _ hj
        omega
    · by_cases h1 : k9 < W1.length
      · rw [List.getElem?_append_left h1] at hx
        exact hD1.2 k9 x hx
      · rw [List.getElem?_append_right (by omega)] at hx
        have := hr _ _ hx
        exact hA _ (by have := hS.1; omega)
  have hAr : ArrOfT s cA (.array ty) := fun N9 z9 => by
    obtain ⟨-, k9, hk9, cm9, hkk9⟩ := (hO 0 0 0).1
    exact ⟨(fun q hq => by cases hq), k9, hk9, cm9, hkk9⟩
  have hK2 : va_K D cl (tys ++ [(cA, .array ty)]) s := ⟨hK.1, fun k9 x hx => by
    by_cases hl : k9 < tys.length
    · rw [List.getElem?_append_left hl] at hx
      exact hK.2 k9 x hx
    · rw [List.getElem?_append_right (by omega)] at hx
      have h0 : k9 - tys.length < 1 := (List.getElem?_eq_some_iff.mp hx).1
      rw [show k9 - tys.length = 0 by omega] at hx
      cases hx
      exact ⟨hAr, fA⟩⟩
  obtain ⟨t, a1, b1⟩ := kk H.size (fun i => H.size + 1 + i) cA F.heap (fun i j _ _ h => by have h9 : H.size + 1 + i = H.size + 1 + j := h; omega) hnl hK2 (by rw [← vr_rows hnm]; exact vr_lay hP2) (by rw [← vr_rows hnm]; exact vr_layD hD2) ⟨by rw [f1]; have := hS.1; omega, fun x h1 h2 => (hold x (Nat.lt_of_lt_of_le h1 hS.1)).trans (hS.2.1 x h1 h2), hS.2.2⟩ F rfl X'
  refine ⟨t, step t ?_, b1⟩
  have e : T.heap.size = H.size := by rw [hT]
  rw [e]
  exact a1
end VGM
/-! ===== END ===== -/

/-! ===== BEGIN exceptions that leave a method, and their catching by the caller (launches without stack traces) ===== -/
section VXA
/-! The laws vx_back, vx_callV, vx_callS, vx_callSW, vx_throw0, vx_throwS follow proofs of the library, with one case more: JvmDerived/Free/Laws.lean (Back.of_free), Shelf42/LK1.lean (callV, callS), Shelf/KitTraced.lean (throwNew0V, throwNewS). -/

/-- where a method has thrown q: the class by its name, the cell, what was written, the world -/
def vx_T (XC : String → State → State → Prop) (st : State) (q : Addr) (t : State) (mc ms : Nat) (free : Addr → Prop) : Prop :=
  ∃ (E : String) (ce : Cell) (L : List Loc), XC E st t ∧ t.heap[q]? = some ce ∧ ce.vm = .none ∧ st.vm.findClass E = some ce.cls ∧ st.WarmedH t.vm ∧ st.sameButNew ({ t with vm := st.vm } : State) L mc ms ∧ ∀ z ∈ L, free z.base
def vx_Q (Qc : Array Value → State → Outcome → State → Prop) (XC : String → State → State → Prop) (mc ms : Nat) (free : Addr → Prop) : Array Value → State → Outcome → State → Prop := fun a st o t =>
  (Qc a st o t ∧ ∃ L, FrameEnd st o t L mc ms ∧ ∀ q ∈ L, free q.base) ∨ ∃ q, o = .threw q ∧ vx_T XC st q t mc ms free
/-- a callee that returns or throws -/
def vx_Met (l : Launch) (y : MethodName) (ws : List Cond) (rm : Room) (Pc : Array Value → State → Prop) (Qc : Array Value → State → Outcome → State → Prop) (XC : String → State → State → Prop) (mc ms : Nat) (free : Addr → Prop) : Prop :=
  MetFree l y (headSpec ws rm) Pc (fun _ _ _ _ _ => True) (vx_Q Qc XC mc ms free)
def vx_Post (XC : String → State → State → Prop) (mc ms : Nat) (free : Addr → Prop) : Pt → Array Value → Addr → Pt → Prop := fun A a q B =>
  ∃ (g : JFrame) (mk : MethodId) (t : State) (L : List Loc) (E : String) (ce : Cell), B.U.heap = t.heap ∧ B.U.vm = t.vm ∧ XC E (A.U.calling g mk a) t ∧ t.heap[q]? = some ce ∧ ce.vm = .none ∧ A.U.vm.findClass E = some ce.cls ∧ B.locs = A.locs ++ L ∧ (∀ z ∈ L, free z.base) ∧ B.cells = A.cells + mc ∧ B.slots = A.slots + ms
def vx_Back (l : Launch) (R : Room) (p : Program) (e : Env) (below : List Frame) (s : State) (sargs : Array Value) (y : MethodName) (len W9 : Nat)
    (Pre : Pt → Array Value → Prop) (Post : Pt → Array Value → Option Value → Pt → Prop) (PostX : Pt → Array Value → Addr → Pt → Prop) : Prop :=
  ∀ (m : MethodId) (meth : Method) (c : Code) (A : Pt) (g : JFrame) (ig : Instr) (mk : MethodId) (a : Array Value),
    Stand p l e R s m sargs below meth c A.U A.locs A.cells A.slots → g.method = m → g.locals.size = c.maxLocals → decode c.code g.pc = .ok (ig, len) →
    2 * g.monitorRoom + (g.stack.map fun v => v.category).sum ≤ W9 → A.U.methodNamed? y = some mk → Pre A a →
    (∃ (v : Option Value) (B : Pt), Stand p l e R s m sargs below meth c B.U B.locs B.cells B.slots ∧ Post A a v B ∧
      Steps p.tables e below (doInvoke e (A.U.setTop g) [] mk a).1 (B.U.setTop { g with pc := g.pc + len, stack := v.toList ++ g.stack })) ∨
    (∃ (q : Addr) (B : Pt), Stand p l e R s m sargs below meth c B.U B.locs B.cells B.slots ∧ PostX A a q B ∧
      Steps p.tables e below (doInvoke e (A.U.setTop g) [] mk a).1 ((B.U.setTop g).pushFrame (.throwing q)))
section Payer
variable {l : Launch} {R : Room} {p : Program} {e : Env} {below : List Frame} {s : State} {sargs : Array Value} {y : MethodName} {len W9 : Nat}
theorem vx_back {ws : List Cond} {rm : Room} {Pc : Array Value → State → Prop} {Qc : Array Value → State → Outcome → State → Prop} {XC : String → State → State → Prop} {mc ms : Nat} {free : Addr → Prop} {bytes : ByteArray} {maxL : Nat} {ret : Option FieldType}
    (hM : vx_Met l y ws rm Pc Qc XC mc ms free) (hblind : FrameBlind Pc) (hrc : rm.cells = mc) (hrs : rm.slots = ms)
    (hframes : rm.frames + 1 ≤ R.frames) (hlocals : W9 + (maxL + 11) + rm.locals ≤ R.locals)
    (hws : ∀ w ∈ ws, ∀ a' U, s.WarmedH U.vm → w.before a' U = true) (hcode : Cond.code y bytes maxL ret ∈ ws) (hinit : ∀ a' U, s.WarmedH U.vm → (Cond.initialized y.cls).before a' U = true) :
    vx_Back l R p e below s sargs y len W9 (PreOf R mc ms Pc) (PostOf Qc mc ms free) (vx_Post XC mc ms free) := by
  intro m meth c A g ig mk a X hg hsize hdg hW hn hp
  have h1 : (headSpec ws rm).pre.before a A.U = true := atoms_intro fun w hw => hws w hw _ _ X.warmed
  have h2 : (Cond.code y bytes maxL ret).before a A.U = true := hws _ hcode _ _ X.warmed
  have h3 : (Cond.initialized y.cls).before a A.U = true := hinit _ _ X.warmed
  have h4 : A.cells + (headSpec ws rm).room.cells ≤ R.cells := by rw [show (headSpec ws rm).room.cells = mc from hrc]; exact hp.1
  have h5 : A.slots + (headSpec ws rm).room.slots ≤ R.slots := by rw [show (headSpec ws rm).room.slots = ms from hrs]; exact hp.2.1
  have hPc : Pc a (A.U.calling g mk a) := hblind _ _ _ _ hp.2.2
  obtain ⟨U, Ls, c0, s0⟩ := A
  dsimp only [Pt.U, Pt.locs, Pt.cells, Pt.slots] at h1 h2 h3 h4 h5 X hn hPc ⊢
  obtain ⟨methY, cY, hmY, hcY, -, hlY, -, -, -, -⟩ := Cond.code_spec hn h2
  obtain ⟨kY, hkY, -⟩ := className_of_methodNamed hn
  have hinitY : kY.init = .initialized := Cond.initialized_spec (findClass_of_methodNamed hn) hkY h3
  have h : At U g.method c below := by rw [hg]; exact X.here
  have hlocals9 : W9 + (maxL + 11) + (headSpec ws rm).room.locals ≤ R.locals := hlocals
  have happ : (headSpec ws rm).appliesLoose y e.platform (U.calling g mk a) = true :=
    Spec.appliesLoose_calling (g := g) h hdg hn hkY hinitY
      (X.room_calling (g := g) (R' := (headSpec ws rm).room) hsize hmY hcY hframes (by rw [hlY]; omega) h4 h5) h1
  obtain ⟨mid, hmid⟩ := h.above
  have hfr : (U.setTop g).frames = (.java g :: mid) ++ below := by rw [State.frames_setTop' g h.top, hmid]; rfl
  obtain ⟨o, s₂, hsteps, -, hend, hq⟩ := Steps.callFree hM p X.admits X.cas X.clock (acts := []) hfr happ hPc trivial
  have hq' : vx_Q Qc XC mc ms free a (U.calling g mk a) o s₂ := hq
  rw [State.frames_setTop' g h.top] at hend
  obtain ⟨g₀, hg0⟩ := Option.isSome_iff_exists.mp h.top
  obtain ⟨r, hr⟩ := State.topJava?_eq_some.mp hg0
  have hr' : (({ U with heap := s₂.heap, slotsUsed := s₂.slotsUsed } : State).setVm s₂.vm).frames = .java g₀ :: r := hr
  rcases hq' with ⟨hqc, L, hfe, hL⟩ | ⟨q, rfl, E, ce, L, hx, hce, hcv, hcl, hW₂, hsm, hL⟩
  · obtain ⟨⟨v, rfl⟩, hW₂, e2, q2, q3, q4, q5, q6⟩ := id hfe
    have e3 : s₂ = ({ (U.calling g mk a).setFrames s₂.frames with heap := s₂.heap, slotsUsed := s₂.slotsUsed } : State).setVm s₂.vm := by
      have : s₂ = ({ s₂ with vm := (U.calling g mk a).vm } : State).setVm s₂.vm := rfl
      rw [e2] at this
      exact this
    obtain ⟨c₂, i₂, len₂, hc₂, hd₂, hf₂⟩ := hend
    have hW' : U.WarmedH s₂.vm := hW₂
    have hcc : c₂ = c := by
      have h1 : s₂.code? g.method = U.code? g.method := by
        rw [State.code?_eq, State.code?_eq, hW'.alike.method?]
      exact Option.some.inj (hc₂.symm.trans (h1.trans h.code))
    subst hcc
    have hlen : len₂ = len := by rw [hdg] at hd₂; cases hd₂; rfl
    subst hlen
    have hs₂ : s₂ = (({ U with heap := s₂.heap, slotsUsed := s₂.slotsUsed } : State).setVm s₂.vm).setTop { g with pc := g.pc + len₂, stack := v.toList ++ g.stack } := by
      refine e3.trans ?_
      rw [hf₂, State.calling_eq h.top, State.setFrames_setFrames, State.setTop_of_frames _ hr', hr]
      rfl
    have hsame : U.sameButNew ({ U with heap := s₂.heap, slotsUsed := s₂.slotsUsed } : State) L mc ms := by
      refine ⟨?_, q2, q3, q4, q5, q6⟩
      obtain ⟨t, ht, -⟩ := State.frames_cons hr
      show ({ U with heap := s₂.heap, slotsUsed := s₂.slotsUsed } : State) = { U.setFrames U.frames with heap := s₂.heap, slotsUsed := s₂.slotsUsed }
      rw [State.setFrames_self ht]
    subst hg
    refine Or.inl ⟨v, ⟨(({ U with heap := s₂.heap, slotsUsed := s₂.slotsUsed } : State).setVm s₂.vm), Ls ++ L, c0 + mc, s0 + ms⟩,
      ⟨X.admits, X.cas, X.clock, X.frames, X.room, X.hears, X.method, X.code, (X.here.setHeapUsed s₂.heap s₂.slotsUsed).setVm hW'.alike, X.tail, State.WarmedH.trans X.warmed hW', X.limits, X.bytes, X.same.trans (hsame.setVm s.vm)⟩,
      ⟨g, mk, s₂, L, rfl, rfl, hqc, rfl, hL, rfl, rfl⟩, ?_⟩
    show Steps p.tables e below _ ((({ U with heap := s₂.heap, slotsUsed := s₂.slotsUsed } : State).setVm s₂.vm).setTop { g with pc := g.pc + len₂, stack := v.toList ++ g.stack })
    rw [← hs₂]
    exact hsteps
  · obtain ⟨e2, q2, q3, q4, q5, q6⟩ := id hsm
    have e3 : s₂ = ({ (U.calling g mk a).setFrames s₂.frames with heap := s₂.heap, slotsUsed := s₂.slotsUsed } : State).setVm s₂.vm := by
      have : s₂ = ({ s₂ with vm := (U.calling g mk a).vm } : State).setVm s₂.vm := rfl
      rw [e2] at this
      exact this
    have hf₂ : s₂.frames = .throwing q :: .java g :: U.frames.tail := hend
    have hW' : U.WarmedH s₂.vm := hW₂
    have hs₂ : s₂ = ((({ U with heap := s₂.heap, slotsUsed := s₂.slotsUsed } : State).setVm s₂.vm).setTop g).pushFrame (.throwing q) := by
      refine e3.trans ?_
      rw [hf₂, State.calling_eq h.top, State.setFrames_setFrames, State.pushFrame, State.frames_setTop _ hr', State.setTop_of_frames _ hr', State.setFrames_setFrames, hr]
      rfl
    have hsame : U.sameButNew ({ U with heap := s₂.heap, slotsUsed := s₂.slotsUsed } : State) L mc ms := by
      refine ⟨?_, q2, q3, q4, q5, q6⟩
      obtain ⟨t, ht, -⟩ := State.frames_cons hr
      show ({ U with heap := s₂.heap, slotsUsed := s₂.slotsUsed } : State) = { U.setFrames U.frames with heap := s₂.heap, slotsUsed := s₂.slotsUsed }
      rw [State.setFrames_self ht]
    subst hg
    refine Or.inr ⟨q, ⟨(({ U with heap := s₂.heap, slotsUsed := s₂.slotsUsed } : State).setVm s₂.vm), Ls ++ L, c0 + mc, s0 + ms⟩,
      ⟨X.admits, X.cas, X.clock, X.frames, X.room, X.hears, X.method, X.code, (X.here.setHeapUsed s₂.heap s₂.slotsUsed).setVm hW'.alike, X.tail, State.WarmedH.trans X.warmed hW', X.limits, X.bytes, X.same.trans (hsame.setVm s.vm)⟩,
      ⟨g, mk, s₂, L, E, ce, rfl, rfl, hx, hce, hcv, hcl, rfl, hL, rfl, rfl⟩, ?_⟩
    show Steps p.tables e below _ (((({ U with heap := s₂.heap, slotsUsed := s₂.slotsUsed } : State).setVm s₂.vm).setTop g).pushFrame (.throwing q))
    rw [← hs₂]
    exact hsteps
end Payer
section Calls
variable {p : Program} {l : Launch} {e : Env} {R : Room} {s : State} {m : MethodId} {args : Array Value} {below : List Frame} {meth : Method} {c : Code} {T : State} {locs : List Loc} {cells slots : Nat}
theorem vx_callV (X : Stand p l e R s m args below meth c T locs cells slots) (hexec : p.tables.exec = Jvm.exec) {own C : String} {index : Nat} {y : MethodName} {bytes : ByteArray} {maxL : Nat} {ret : Option FieldType}
    (hown : s.vm.findClass own = some m.cls) (hlink : (Cond.methodLink own index y).before args s = true) (hinst : (Cond.instanceMethod y).before args s = true) (hsel : (Cond.selects C y y).before args s = true)
    (hcode : (Cond.code y bytes maxL ret).before args s = true) (hy : y.cls ≠ "java/lang/invoke/MethodHandle" ∧ y.cls ≠ "java/lang/invoke/VarHandle")
    {W9 : Nat} {Pre : Pt → Array Value → Prop} {Post : Pt → Array Value → Option Value → Pt → Prop} {PostX : Pt → Array Value → Addr → Pt → Prop} (hK : vx_Back l R p e below s args y 3 W9 Pre Post PostX)
    {b : Addr} {cellB : Cell} (hcell : T.heap[b]? = some cellB) (hobj : cellB.vm.isStatics = false) (hcls : s.vm.findClass C = some cellB.cls)
    {g : JFrame} (hg : g.method = m) (hsize : g.locals.size = c.maxLocals) {argsL rest : List Value} (hlen : ∀ sig, parseMethodDescriptor y.desc = some sig → argsL.length = sig.parameters.length)
    (hstack : g.stack = argsL.reverse ++ .ref b :: rest) (hW : 2 * g.monitorRoom + (rest.map fun v => v.category).sum ≤ W9) (hdg : decode c.code g.pc = .ok (.invokevirtual index, 3))
    (hpre : ∀ vm₁, s.WarmedH vm₁ → Pre ⟨T.setVm vm₁, locs, cells, slots⟩ (Value.ref b :: argsL).toArray) :
    (∃ (v : Option Value) (vm₁ : Vm) (B : Pt), s.WarmedH vm₁ ∧ Stand p l e R s m args below meth c B.U B.locs B.cells B.slots ∧ Post ⟨T.setVm vm₁, locs, cells, slots⟩ (Value.ref b :: argsL).toArray v B ∧
      ∀ target, Steps p.tables e below (B.U.setTop { g with pc := g.pc + 3, stack := v.toList ++ rest }) target → Steps p.tables e below (T.setTop g) target) ∨
    (∃ (q : Addr) (vm₁ : Vm) (B : Pt), s.WarmedH vm₁ ∧ Stand p l e R s m args below meth c B.U B.locs B.cells B.slots ∧ PostX ⟨T.setVm vm₁, locs, cells, slots⟩ (Value.ref b :: argsL).toArray q B ∧
      Steps p.tables e below (T.setTop g) ((B.U.setTop { g with stack := rest }).pushFrame (.throwing q))) := by
  obtain ⟨mk, methM, hnamed, hmethM, hstM, habM⟩ := Cond.instanceMethod_spec hinst
  obtain ⟨methM', cM, hmethM', -, -, -, -, -, -, hsigM⟩ := Cond.code_spec hnamed hcode
  cases hmethM.symm.trans hmethM'
  obtain ⟨c2, r2, m2, q1, q2, q3, q4, kP, hkP, hkPi⟩ := Cond.selects_spec hsel
  cases hcls.symm.trans q1
  cases (State.methodFound?_of_named hnamed hy).symm.trans q2
  cases hnamed.symm.trans q3
  have hselP : selectMethod e.platform s.vm cellB.cls mk = .method mk := by rw [Launch.admits_selectMethod X.admits]; exact q4
  obtain ⟨vm₁, X₁, hstep₁⟩ := X.invokevirtual hexec hown hlink hnamed hmethM hstM hkP hkPi hy (a := b) (cell := cellB) hcell
    (fun z h => by rw [h] at hobj; cases hobj) hselP hmethM habM hkP hkPi (g := g) hg (argsL := argsL) (rest := rest) (hlen _ hsigM) hstack hdg
  rcases hK m meth c ⟨T.setVm vm₁, locs, cells, slots⟩ { g with stack := rest } (.invokevirtual index) mk (Value.ref b :: argsL).toArray X₁ hg hsize hdg hW (X₁.named hnamed) (hpre vm₁ X₁.warmed) with ⟨v, B, X', hpost, hsteps⟩ | ⟨q, B, X', hpost, hsteps⟩
  · exact Or.inl ⟨v, vm₁, B, X₁.warmed, X', hpost, fun target h => hstep₁ _ fun acts => by rw [doInvoke_state]; exact hsteps.trans h⟩
  · exact Or.inr ⟨q, vm₁, B, X₁.warmed, X', hpost, hstep₁ _ fun acts => by rw [doInvoke_state]; exact hsteps⟩
theorem vx_callS (X : Stand p l e R s m args below meth c T locs cells slots) (hexec : p.tables.exec = Jvm.exec) {own : String} {index : Nat} {y : MethodName} {bytes : ByteArray} {maxL : Nat} {ret : Option FieldType}
    (hown : s.vm.findClass own = some m.cls) (hlink : (Cond.methodLink own index y).before args s = true) (hstat : (Cond.static y).before args s = true) (hinit : (Cond.initialized y.cls).before args s = true)
    (hcode : (Cond.code y bytes maxL ret).before args s = true) (hy : y.cls ≠ "java/lang/invoke/MethodHandle" ∧ y.cls ≠ "java/lang/invoke/VarHandle")
    {W9 : Nat} {Pre : Pt → Array Value → Prop} {Post : Pt → Array Value → Option Value → Pt → Prop} {PostX : Pt → Array Value → Addr → Pt → Prop} (hK : vx_Back l R p e below s args y 3 W9 Pre Post PostX)
    {g : JFrame} (hg : g.method = m) (hsize : g.locals.size = c.maxLocals) {argsL rest : List Value} (hlen : ∀ sig, parseMethodDescriptor y.desc = some sig → argsL.length = sig.parameters.length)
    (hstack : g.stack = argsL.reverse ++ rest) (hW : 2 * g.monitorRoom + (rest.map fun v => v.category).sum ≤ W9) (hdg : decode c.code g.pc = .ok (.invokestatic index, 3))
    (hpre : ∀ vm₁, s.WarmedH vm₁ → Pre ⟨T.setVm vm₁, locs, cells, slots⟩ argsL.toArray) :
    (∃ (v : Option Value) (vm₁ : Vm) (B : Pt), s.WarmedH vm₁ ∧ Stand p l e R s m args below meth c B.U B.locs B.cells B.slots ∧ Post ⟨T.setVm vm₁, locs, cells, slots⟩ argsL.toArray v B ∧
      ∀ target, Steps p.tables e below (B.U.setTop { g with pc := g.pc + 3, stack := v.toList ++ rest }) target → Steps p.tables e below (T.setTop g) target) ∨
    (∃ (q : Addr) (vm₁ : Vm) (B : Pt), s.WarmedH vm₁ ∧ Stand p l e R s m args below meth c B.U B.locs B.cells B.slots ∧ PostX ⟨T.setVm vm₁, locs, cells, slots⟩ argsL.toArray q B ∧
      Steps p.tables e below (T.setTop g) ((B.U.setTop { g with stack := rest }).pushFrame (.throwing q))) := by
  obtain ⟨mk, hnamed⟩ := Cond.code_named hcode
  obtain ⟨methM, cM, hmethM, -, -, -, -, -, -, hsigM⟩ := Cond.code_spec hnamed hcode
  have hstatic : methM.isStatic = true := Cond.static_spec hnamed hmethM hstat
  obtain ⟨kP, hkP, -⟩ := className_of_methodNamed hnamed
  have hinitP : kP.init = .initialized := Cond.initialized_spec (findClass_of_methodNamed hnamed) hkP hinit
  obtain ⟨vm₁, X₁, hstep₁⟩ := X.invokestatic hexec hown hlink hnamed hmethM hstatic hkP hinitP hy (g := g) hg (argsL := argsL) (rest := rest) (hlen _ hsigM) hstack hdg
  rcases hK m meth c ⟨T.setVm vm₁, locs, cells, slots⟩ { g with stack := rest } (.invokestatic index) mk argsL.toArray X₁ hg hsize hdg hW (X₁.named hnamed) (hpre vm₁ X₁.warmed) with ⟨v, B, X', hpost, hsteps⟩ | ⟨q, B, X', hpost, hsteps⟩
  · exact Or.inl ⟨v, vm₁, B, X₁.warmed, X', hpost, fun target h => hstep₁ _ fun acts => by rw [doInvoke_state]; exact hsteps.trans h⟩
  · exact Or.inr ⟨q, vm₁, B, X₁.warmed, X', hpost, hstep₁ _ fun acts => by rw [doInvoke_state]; exact hsteps⟩
end Calls
theorem vx_cls {s : State} {T : State} {vm₁ : Vm} {E : String} {k : ClassId} (hW : s.WarmedH vm₁) (h : (T.setVm vm₁).vm.findClass E = some k) : s.vm.findClass E = some k := by
  have h1 : vm₁.findClass E = some k := h
  rw [hW.alike.findClass] at h1
  exact h1
/-- the method's frame g, with q thrown over it -/
def vx_W (p : Program) (l : Launch) (e : Env) (R : Room) (s : State) (m : MethodId) (args : Array Value) (below : List Frame) (meth : Method) (c : Code) (H : Heap) (locs : List Loc) (cells slots : Nat) (Q : State → Prop) (g : JFrame) (q : Addr) : Prop :=
  ∀ T : State, T.heap = H → Stand p l e R s m args below meth c T locs cells slots → ∃ t, Steps p.tables e below ((T.setTop g).pushFrame (.throwing q)) t ∧ Q t
def vx_Run (p : Program) (l : Launch) (e : Env) (R : Room) (s : State) (m : MethodId) (args : Array Value) (below : List Frame) (meth : Method) (c : Code) (H : Heap) (locs : List Loc) (cells slots mc ms : Nat) (g : JFrame) (rest : List Value) (Qa : State → Outcome → State → Prop) (XC : String → State → State → Prop) (free : Addr → Prop) : Prop :=
  ∀ T : State, T.heap = H → Stand p l e R s m args below meth c T locs cells slots →
    (∃ (v : Option Value) (st₀ t T' : State) (L : List Loc), st₀.heap = H ∧ Stand p l e R s m args below meth c T' (locs ++ L) (cells + mc) (slots + ms) ∧ (∀ q ∈ L, free q.base) ∧ T'.heap = t.heap ∧ T'.vm = t.vm ∧ Qa st₀ (.returned v) t ∧
      Goes p e below T g T' { g with pc := g.pc + 3, stack := v.toList ++ rest }) ∨
    (∃ (q : Addr) (st₀ t T' : State) (L : List Loc) (E : String) (ce : Cell), st₀.heap = H ∧ Stand p l e R s m args below meth c T' (locs ++ L) (cells + mc) (slots + ms) ∧ (∀ z ∈ L, free z.base) ∧ T'.heap = t.heap ∧ T'.vm = t.vm ∧ XC E st₀ t ∧ t.heap[q]? = some ce ∧ ce.vm = .none ∧ s.vm.findClass E = some ce.cls ∧
      Steps p.tables e below (T.setTop g) ((T'.setTop { g with stack := rest }).pushFrame (.throwing q)))
def vx_X {S : Type} (px : S → Prop) (B : String → S → State → Prop) (A : Nat → Prop) : String → State → State → Prop := fun E st t => ∃ u : S, px u ∧ B E u t ∧ va_F A st t
section Runs
variable {p : Program} {l : Launch} {e : Env} {R : Room} {s : State} {m : MethodId} {args : Array Value} {below : List Frame} {meth : Method} {c : Code} {H : Heap} {locs : List Loc} {cells slots : Nat}
variable {y : MethodName} {bytes cc : ByteArray} {maxL nL mc ms n index : Nat} {ret : Option FieldType} {ws : List Cond} {rm : Room} {Pc : Array Value → State → Prop} {Qc : Array Value → State → Outcome → State → Prop} {XC : String → State → State → Prop} {free : Addr → Prop} {Ts : List Cond} {own C : String} {b : Addr} {As rest : List Value} {g : JFrame}
theorem vx_callBack (cb : CallB R s args own index y bytes maxL ret ws rm mc ms n) (hM : vx_Met l y ws rm Pc Qc XC mc ms free) (hbl : FrameBlind Pc) : vx_Back l R p e below s args y 3 8 (PreOf R mc ms Pc) (PostOf Qc mc ms free) (vx_Post XC mc ms free) := by
  obtain ⟨hrc, hrs, hfr, hlo, hws, hcw, -, hini, -⟩ := cb
  exact vx_back (bytes := bytes) (maxL := maxL) (ret := ret) hM hbl hrc hrs hfr hlo hws hcw (fun a' U hW => word_at hW (Or.inl (by first | rfl | simp [Cond.onTables, Cond.keeps, Cond.steady])) hini)
theorem vx_runV (S : CallFix p m c cc nL s args Ts own) (hM : vx_Met l y ws rm Pc Qc XC mc ms free) (cw : CallW R s args own C index y bytes maxL ret ws rm mc ms n) (hp : PreV s H C b Pc As)
    (hg : g.method = m) (hn : As.length = n) (hsize : g.locals.size = nL) (hstack : g.stack = As.reverse ++ .ref b :: rest) (hW : 2 * g.monitorRoom + (rest.map fun v => v.category).sum ≤ 8) (hdg : decode cc g.pc = .ok (.invokevirtual index, 3)) (hf : cells + mc ≤ R.cells ∧ slots + ms ≤ R.slots) :
    vx_Run p l e R s m args below meth c H locs cells slots mc ms g rest (Qc (Value.ref b :: As).toArray) XC free := by
  have hK : vx_Back l R p e below s args y 3 8 (PreOf R mc ms Pc) (PostOf Qc mc ms free) (vx_Post XC mc ms free) := vx_callBack cw.1 hM hp.1
  obtain ⟨⟨-, -, -, -, -, -, hcode, -, hy, hlen, hl⟩, hin, hse⟩ := cw
  obtain ⟨hx, hb, hml, ho, -⟩ := S
  obtain ⟨-, ⟨cellB, hcB, hoB, hclB⟩, hPc⟩ := hp
  intro T hT X
  rcases vx_callV X hx (C := C) (bytes := bytes) (maxL := maxL) (ret := ret) ho hl hin hse hcode hy hK (by rw [hT]; exact hcB) hoB hclB hg (hsize.trans hml.symm) (argsL := As) (rest := rest) (fun sig h => hn.trans (hlen sig h)) hstack hW (by rw [hb]; exact hdg)
    (fun vm₁ hW₁ => ⟨hf.1, hf.2, hPc (T.setVm vm₁) hT hW₁⟩) with ⟨v, vm₁, ⟨U', l2, c2, s2⟩, hW₁, X', ⟨g', mk, t, L, e1, e2, hq, h1, hL, h2, h3⟩, st⟩ | ⟨q, vm₁, ⟨U', l2, c2, s2⟩, hW₁, X', ⟨g', mk, t, L, E, ce, e1, e2, hq, hce, hcv, hcl, h1, hL, h2, h3⟩, st⟩
  · dsimp only [Pt.U, Pt.locs, Pt.cells, Pt.slots] at X' e1 e2 h1 h2 h3 st
    subst h1; subst h2; subst h3
    exact Or.inl ⟨v, (T.setVm vm₁).calling g' mk (Value.ref b :: As).toArray, t, U', L, hT, X', hL, e1, e2, hq, st⟩
  · dsimp only [Pt.U, Pt.locs, Pt.cells, Pt.slots] at X' e1 e2 h1 h2 h3 st hcl
    subst h1; subst h2; subst h3
    exact Or.inr ⟨q, (T.setVm vm₁).calling g' mk (Value.ref b :: As).toArray, t, U', L, E, ce, hT, X', hL, e1, e2, hq, hce, hcv, vx_cls hW₁ hcl, st⟩
theorem vx_runS (S : CallFix p m c cc nL s args Ts own) (hM : vx_Met l y ws rm Pc Qc XC mc ms free) (cw : CallB R s args own index y bytes maxL ret ws rm mc ms n ∧ (Cond.static y).before args s = true) (hp : PreS s H Pc As)
    (hg : g.method = m) (hn : As.length = n) (hsize : g.locals.size = nL) (hstack : g.stack = As.reverse ++ rest) (hW : 2 * g.monitorRoom + (rest.map fun v => v.category).sum ≤ 8) (hdg : decode cc g.pc = .ok (.invokestatic index, 3)) (hf : cells + mc ≤ R.cells ∧ slots + ms ≤ R.slots) :
    vx_Run p l e R s m args below meth c H locs cells slots mc ms g rest (Qc As.toArray) XC free := by
  have hK : vx_Back l R p e below s args y 3 8 (PreOf R mc ms Pc) (PostOf Qc mc ms free) (vx_Post XC mc ms free) := vx_callBack cw.1 hM hp.1
  obtain ⟨⟨-, -, -, -, -, -, hcode, hini, hy, hlen, hl⟩, hstt⟩ := cw
  obtain ⟨hx, hb, hml, ho, -⟩ := S
  intro T hT X
  rcases vx_callS X hx (bytes := bytes) (maxL := maxL) (ret := ret) ho hl hstt hini hcode hy hK hg (hsize.trans hml.symm) (argsL := As) (rest := rest) (fun sig h => hn.trans (hlen sig h)) hstack hW (by rw [hb]; exact hdg)
    (fun vm₁ hW₁ => ⟨hf.1, hf.2, hp.2 (T.setVm vm₁) hT hW₁⟩) with ⟨v, vm₁, ⟨U', l2, c2, s2⟩, hW₁, X', ⟨g', mk, t, L, e1, e2, hq, h1, hL, h2, h3⟩, st⟩ | ⟨q, vm₁, ⟨U', l2, c2, s2⟩, hW₁, X', ⟨g', mk, t, L, E, ce, e1, e2, hq, hce, hcv, hcl, h1, hL, h2, h3⟩, st⟩
  · dsimp only [Pt.U, Pt.locs, Pt.cells, Pt.slots] at X' e1 e2 h1 h2 h3 st
    subst h1; subst h2; subst h3
    exact Or.inl ⟨v, (T.setVm vm₁).calling g' mk As.toArray, t, U', L, hT, X', hL, e1, e2, hq, st⟩
  · dsimp only [Pt.U, Pt.locs, Pt.cells, Pt.slots] at X' e1 e2 h1 h2 h3 st hcl
    subst h1; subst h2; subst h3
    exact Or.inr ⟨q, (T.setVm vm₁).calling g' mk As.toArray, t, U', L, E, ce, hT, X', hL, e1, e2, hq, hce, hcv, vx_cls hW₁ hcl, st⟩
end Runs
section Rows
variable {p : Program} {l : Launch} {e : Env} {R : Room} {s : State} {m : MethodId} {args : Array Value} {below : List Frame} {meth : Method} {c : Code} {H : Heap} {locs : List Loc} {cells slots : Nat} {Q : State → Prop}
variable {mc ms : Nat} {free : Addr → Prop} {A0 A1 : Nat → Prop} {H0 : Heap} {a : Array Value} {pc : Nat} {ls : Array Slot} {st0 rest : List Value}
theorem vx_keep {st₀ t T' : State} {L : List Loc} (h0 : st₀.heap = H) (e1 : T'.heap = t.heap) (hS : va_S A0 H0 H locs) (hA : ∀ q, q < H.size → A1 q → A0 q) (hf : ∀ q, free q → A0 q) (hL : ∀ q ∈ L, free q.base) (hF : va_F A1 st₀ t) :
    H.size ≤ T'.heap.size ∧ (∀ q : Nat, q < H.size → ¬ A1 q → T'.heap[q]? = H[q]?) ∧ va_S A0 H0 T'.heap (locs ++ L) := by
  obtain ⟨hz, hk⟩ := hF
  rw [h0] at hz hk
  exact ⟨by rw [e1]; exact hz, fun q h1 h2 => by rw [e1]; exact hk q h1 h2,
    ⟨Nat.le_trans hS.1 (by rw [e1]; exact hz), fun q h1 h2 => by rw [e1, hk q (Nat.lt_of_lt_of_le h1 hS.1) (fun z => h2 (hA q (Nat.lt_of_lt_of_le h1 hS.1) z))]; exact hS.2.1 q h1 h2, fun q hq => by
      rcases List.mem_append.mp hq with h | h
      · exact hS.2.2 q h
      · exact hf _ (hL q h)⟩⟩
theorem vx_calli {S SX : Type} {post : Int32 → S → Prop} {px : SX → Prop} {B : S → State → Prop} {BX : String → SX → State → Prop} {AX : Nat → Prop} (hr : vx_Run p l e R s m args below meth c H locs cells slots mc ms (F0 m pc ls st0) rest (va_Qi post B A1 a) (vx_X px BX AX) free) (hS : va_S A0 H0 H locs) (hA : ∀ q, q < H.size → A1 q → A0 q) (hf : ∀ q, free q → A0 q) (hAX : ∀ q, q < H.size → AX q → A0 q)
    (kx : ∀ (E : String) (ce : Cell) (q9 : Addr) (u : SX) (t : State) (H1 : Heap) (locs1 : List Loc), t.heap = H1 → s.vm.Alike t.vm → px u → BX E u t → H.size ≤ H1.size → (∀ q : Nat, q < H.size → ¬ AX q → H1[q]? = H[q]?) → va_S A0 H0 H1 locs1 → H1[q9]? = some ce → ce.vm = .none → s.vm.findClass E = some ce.cls → vx_W p l e R s m args below meth c H1 locs1 (cells + mc) (slots + ms) Q (F0 m pc ls rest) q9)
    (kk : ∀ (r : Int32) (u : S) (t : State) (H1 : Heap) (locs1 : List Loc), t.heap = H1 → s.vm.Alike t.vm → post r u → B u t → H.size ≤ H1.size → (∀ q : Nat, q < H.size → ¬ A1 q → H1[q]? = H[q]?) → va_S A0 H0 H1 locs1 → W p l e R s m args below meth c H1 locs1 (cells + mc) (slots + ms) Q (F0 m (pc + 3) ls (.int r :: rest))) : W p l e R s m args below meth c H locs cells slots Q (F0 m pc ls st0) := by
  intro T hT X
  rcases hr T hT X with ⟨v, st₀, t, T', L, h0, X', hL, e1, e2, ⟨⟨r, u, hv, hp, hb⟩, hF⟩, st⟩ | ⟨q, st₀, t, T', L, E, ce, h0, X', hL, e1, e2, ⟨u, hp, hb, hF⟩, hce, hcv, hcl, st⟩
  · cases hv
    obtain ⟨k1, k2, k3⟩ := vx_keep h0 e1 hS hA hf hL hF
    obtain ⟨t2, a1, b1⟩ := kk r u t T'.heap (locs ++ L) e1.symm (by rw [← e2]; exact X'.warmed.alike) hp hb k1 k2 k3 T' rfl X'
    exact ⟨t2, st t2 a1, b1⟩
  · obtain ⟨k1, k2, k3⟩ := vx_keep h0 e1 hS hAX hf hL hF
    obtain ⟨t2, a1, b1⟩ := kx E ce q u t T'.heap (locs ++ L) e1.symm (by rw [← e2]; exact X'.warmed.alike) hp hb k1 k2 k3 (by rw [e1]; exact hce) hcv hcl T' rfl X'
    exact ⟨t2, st.trans a1, b1⟩
theorem vx_calll {S SX : Type} {post : Int64 → S → Prop} {px : SX → Prop} {B : S → State → Prop} {BX : String → SX → State → Prop} {AX : Nat → Prop} (hr : vx_Run p l e R s m args below meth c H locs cells slots mc ms (F0 m pc ls st0) rest (va_Ql post B A1 a) (vx_X px BX AX) free) (hS : va_S A0 H0 H locs) (hA : ∀ q, q < H.size → A1 q → A0 q) (hf : ∀ q, free q → A0 q) (hAX : ∀ q, q < H.size → AX q → A0 q)
    (kx : ∀ (E : String) (ce : Cell) (q9 : Addr) (u : SX) (t : State) (H1 : Heap) (locs1 : List Loc), t.heap = H1 → s.vm.Alike t.vm → px u → BX E u t → H.size ≤ H1.size → (∀ q : Nat, q < H.size → ¬ AX q → H1[q]? = H[q]?) → va_S A0 H0 H1 locs1 → H1[q9]? = some ce → ce.vm = .none → s.vm.findClass E = some ce.cls → vx_W p l e R s m args below meth c H1 locs1 (cells + mc) (slots + ms) Q (F0 m pc ls rest) q9)
    (kk : ∀ (r : Int64) (u : S) (t : State) (H1 : Heap) (locs1 : List Loc), t.heap = H1 → s.vm.Alike t.vm → post r u → B u t → H.size ≤ H1.size → (∀ q : Nat, q < H.size → ¬ A1 q → H1[q]? = H[q]?) → va_S A0 H0 H1 locs1 → W p l e R s m args below meth c H1 locs1 (cells + mc) (slots + ms) Q (F0 m (pc + 3) ls (.long r :: rest))) : W p l e R s m args below meth c H locs cells slots Q (F0 m pc ls st0) := by
  intro T hT X
  rcases hr T hT X with ⟨v, st₀, t, T', L, h0, X', hL, e1, e2, ⟨⟨r, u, hv, hp, hb⟩, hF⟩, st⟩ | ⟨q, st₀, t, T', L, E, ce, h0, X', hL, e1, e2, ⟨u, hp, hb, hF⟩, hce, hcv, hcl, st⟩
  · cases hv
    obtain ⟨k1, k2, k3⟩ := vx_keep h0 e1 hS hA hf hL hF
    obtain ⟨t2, a1, b1⟩ := kk r u t T'.heap (locs ++ L) e1.symm (by rw [← e2]; exact X'.warmed.alike) hp hb k1 k2 k3 T' rfl X'
    exact ⟨t2, st t2 a1, b1⟩
  · obtain ⟨k1, k2, k3⟩ := vx_keep h0 e1 hS hAX hf hL hF
    obtain ⟨t2, a1, b1⟩ := kx E ce q u t T'.heap (locs ++ L) e1.symm (by rw [← e2]; exact X'.warmed.alike) hp hb k1 k2 k3 (by rw [e1]; exact hce) hcv hcl T' rfl X'
    exact ⟨t2, st.trans a1, b1⟩
theorem vx_callf {S SX : Type} {post : UInt32 → S → Prop} {px : SX → Prop} {B : S → State → Prop} {BX : String → SX → State → Prop} {AX : Nat → Prop} (hr : vx_Run p l e R s m args below meth c H locs cells slots mc ms (F0 m pc ls st0) rest (va_Qf post B A1 a) (vx_X px BX AX) free) (hS : va_S A0 H0 H locs) (hA : ∀ q, q < H.size → A1 q → A0 q) (hf : ∀ q, free q → A0 q) (hAX : ∀ q, q < H.size → AX q → A0 q)
    (kx : ∀ (E : String) (ce : Cell) (q9 : Addr) (u : SX) (t : State) (H1 : Heap) (locs1 : List Loc), t.heap = H1 → s.vm.Alike t.vm → px u → BX E u t → H.size ≤ H1.size → (∀ q : Nat, q < H.size → ¬ AX q → H1[q]? = H[q]?) → va_S A0 H0 H1 locs1 → H1[q9]? = some ce → ce.vm = .none → s.vm.findClass E = some ce.cls → vx_W p l e R s m args below meth c H1 locs1 (cells + mc) (slots + ms) Q (F0 m pc ls rest) q9)
    (kk : ∀ (r : UInt32) (u : S) (t : State) (H1 : Heap) (locs1 : List Loc), t.heap = H1 → s.vm.Alike t.vm → post r u → B u t → H.size ≤ H1.size → (∀ q : Nat, q < H.size → ¬ A1 q → H1[q]? = H[q]?) → va_S A0 H0 H1 locs1 → W p l e R s m args below meth c H1 locs1 (cells + mc) (slots + ms) Q (F0 m (pc + 3) ls (.float r :: rest))) : W p l e R s m args below meth c H locs cells slots Q (F0 m pc ls st0) := by
  intro T hT X
  rcases hr T hT X with ⟨v, st₀, t, T', L, h0, X', hL, e1, e2, ⟨⟨r, u, hv, hp, hb⟩, hF⟩, st⟩ | ⟨q, st₀, t, T', L, E, ce, h0, X', hL, e1, e2, ⟨u, hp, hb, hF⟩, hce, hcv, hcl, st⟩
  · cases hv
    obtain ⟨k1, k2, k3⟩ := vx_keep h0 e1 hS hA hf hL hF
    obtain ⟨t2, a1, b1⟩ := kk r u t T'.heap (locs ++ L) e1.symm (by rw [← e2]; exact X'.warmed.alike) hp hb k1 k2 k3 T' rfl X'
    exact ⟨t2, st t2 a1, b1⟩
  · obtain ⟨k1, k2, k3⟩ := vx_keep h0 e1 hS hAX hf hL hF
    obtain ⟨t2, a1, b1⟩ := kx E ce q u t T'.heap (locs ++ L) e1.symm (by rw [← e2]; exact X'.warmed.alike) hp hb k1 k2 k3 (by rw [e1]; exact hce) hcv hcl T' rfl X'
    exact ⟨t2, st.trans a1, b1⟩
theorem vx_calld {S SX : Type} {post : UInt64 → S → Prop} {px : SX → Prop} {B : S → State → Prop} {BX : String → SX → State → Prop} {AX : Nat → Prop} (hr : vx_Run p l e R s m args below meth c H locs cells slots mc ms (F0 m pc ls st0) rest (va_Qd post B A1 a) (vx_X px BX AX) free) (hS : va_S A0 H0 H locs) (hA : ∀ q, q < H.size → A1 q → A0 q) (hf : ∀ q, free q → A0 q) (hAX : ∀ q, q < H.size → AX q → A0 q)
    (kx : ∀ (E : String) (ce : Cell) (q9 : Addr) (u : SX) (t : State) (H1 : Heap) (locs1 : List Loc), t.heap = H1 → s.vm.Alike t.vm → px u → BX E u t → H.size ≤ H1.size → (∀ q : Nat, q < H.size → ¬ AX q → H1[q]? = H[q]?) → va_S A0 H0 H1 locs1 → H1[q9]? = some ce → ce.vm = .none → s.vm.findClass E = some ce.cls → vx_W p l e R s m args below meth c H1 locs1 (cells + mc) (slots + ms) Q (F0 m pc ls rest) q9)
    (kk : ∀ (r : UInt64) (u : S) (t : State) (H1 : Heap) (locs1 : List Loc), t.heap = H1 → s.vm.Alike t.vm → post r u → B u t → H.size ≤ H1.size → (∀ q : Nat, q < H.size → ¬ A1 q → H1[q]? = H[q]?) → va_S A0 H0 H1 locs1 → W p l e R s m args below meth c H1 locs1 (cells + mc) (slots + ms) Q (F0 m (pc + 3) ls (.double r :: rest))) : W p l e R s m args below meth c H locs cells slots Q (F0 m pc ls st0) := by
  intro T hT X
  rcases hr T hT X with ⟨v, st₀, t, T', L, h0, X', hL, e1, e2, ⟨⟨r, u, hv, hp, hb⟩, hF⟩, st⟩ | ⟨q, st₀, t, T', L, E, ce, h0, X', hL, e1, e2, ⟨u, hp, hb, hF⟩, hce, hcv, hcl, st⟩
  · cases hv
    obtain ⟨k1, k2, k3⟩ := vx_keep h0 e1 hS hA hf hL hF
    obtain ⟨t2, a1, b1⟩ := kk r u t T'.heap (locs ++ L) e1.symm (by rw [← e2]; exact X'.warmed.alike) hp hb k1 k2 k3 T' rfl X'
    exact ⟨t2, st t2 a1, b1⟩
  · obtain ⟨k1, k2, k3⟩ := vx_keep h0 e1 hS hAX hf hL hF
    obtain ⟨t2, a1, b1⟩ := kx E ce q u t T'.heap (locs ++ L) e1.symm (by rw [← e2]; exact X'.warmed.alike) hp hb k1 k2 k3 (by rw [e1]; exact hce) hcv hcl T' rfl X'
    exact ⟨t2, st.trans a1, b1⟩
theorem vx_callv {S SX : Type} {post : S → Prop} {px : SX → Prop} {B : S → State → Prop} {BX : String → SX → State → Prop} {AX : Nat → Prop} (hr : vx_Run p l e R s m args below meth c H locs cells slots mc ms (F0 m pc ls st0) rest (va_Qv post B A1 a) (vx_X px BX AX) free) (hS : va_S A0 H0 H locs) (hA : ∀ q, q < H.size → A1 q → A0 q) (hf : ∀ q, free q → A0 q) (hAX : ∀ q, q < H.size → AX q → A0 q)
    (kx : ∀ (E : String) (ce : Cell) (q9 : Addr) (u : SX) (t : State) (H1 : Heap) (locs1 : List Loc), t.heap = H1 → s.vm.Alike t.vm → px u → BX E u t → H.size ≤ H1.size → (∀ q : Nat, q < H.size → ¬ AX q → H1[q]? = H[q]?) → va_S A0 H0 H1 locs1 → H1[q9]? = some ce → ce.vm = .none → s.vm.findClass E = some ce.cls → vx_W p l e R s m args below meth c H1 locs1 (cells + mc) (slots + ms) Q (F0 m pc ls rest) q9)
    (kk : ∀ (u : S) (t : State) (H1 : Heap) (locs1 : List Loc), t.heap = H1 → s.vm.Alike t.vm → post u → B u t → H.size ≤ H1.size → (∀ q : Nat, q < H.size → ¬ A1 q → H1[q]? = H[q]?) → va_S A0 H0 H1 locs1 → W p l e R s m args below meth c H1 locs1 (cells + mc) (slots + ms) Q (F0 m (pc + 3) ls (rest))) : W p l e R s m args below meth c H locs cells slots Q (F0 m pc ls st0) := by
  intro T hT X
  rcases hr T hT X with ⟨v, st₀, t, T', L, h0, X', hL, e1, e2, ⟨⟨u, hv, hp, hb⟩, hF⟩, st⟩ | ⟨q, st₀, t, T', L, E, ce, h0, X', hL, e1, e2, ⟨u, hp, hb, hF⟩, hce, hcv, hcl, st⟩
  · cases hv
    obtain ⟨k1, k2, k3⟩ := vx_keep h0 e1 hS hA hf hL hF
    obtain ⟨t2, a1, b1⟩ := kk u t T'.heap (locs ++ L) e1.symm (by rw [← e2]; exact X'.warmed.alike) hp hb k1 k2 k3 T' rfl X'
    exact ⟨t2, st t2 a1, b1⟩
  · obtain ⟨k1, k2, k3⟩ := vx_keep h0 e1 hS hAX hf hL hF
    obtain ⟨t2, a1, b1⟩ := kx E ce q u t T'.heap (locs ++ L) e1.symm (by rw [← e2]; exact X'.warmed.alike) hp hb k1 k2 k3 (by rw [e1]; exact hce) hcv hcl T' rfl X'
    exact ⟨t2, st.trans a1, b1⟩
/-- caught by the row x of this method's table; the rows ahead don't take it -/
theorem vx_catch {own name : String} {E : String} {ce : Cell} {q : Addr} (hown : s.vm.findClass own = some m.cls) (pre : List ExceptionTableEntry) (x : ExceptionTableEntry) (suf : List ExceptionTableEntry) (hsplit : c.exceptionTable.toList = pre ++ x :: suf)
    (hpass : ∀ z ∈ pre, covers z pc = false ∨ (z.catchType ≠ 0 ∧ ∃ nm : String, (Cond.classLink own z.catchType nm).before args s = true ∧ va_Nc E nm s)) (hx : covers x pc = true) (h0 : x.catchType ≠ 0)
    (hlink : (Cond.classLink own x.catchType name).before args s = true) (hcast : (Cond.castable E name).before args s = true) (hcell : H[q]? = some ce) (hv : ce.vm = .none) (hcl : s.vm.findClass E = some ce.cls)
    (kk : W p l e R s m args below meth c H locs cells slots Q (F0 m x.handlerPc ls [.ref q])) : vx_W p l e R s m args below meth c H locs cells slots Q (F0 m pc ls rest) q := by
  intro T hT X
  have hpl : e.platform.magicAccessors = ({} : Platform).magicAccessors := by rw [X.admits.platform]
  obtain ⟨c3, c4, hc3, hc4, hasg⟩ := Cond.castable_spec hcast
  cases Option.some.inj (hc3.symm.trans hcl)
  obtain ⟨c5, hc5, hcl5⟩ := Cond.classLink_spec hown hlink e.platform hpl
  cases Option.some.inj (hc4.symm.trans hc5)
  obtain ⟨vm', X', st⟩ := X.thenCaughtThrough q (g := F0 m pc ls rest) rfl (Steps.refl _) (by rw [hT]; exact hcell) (by rw [hv]; rfl) (by obtain ⟨k9, h9, -⟩ := Vm.findClass_spec hcl; exact ⟨k9, h9⟩) pre x suf hsplit
    (fun z hz => by
      rcases hpass z hz with h | ⟨hz0, nm, hl1, hn1⟩
      · exact Or.inl h
      · obtain ⟨c6, hc6, hcl6⟩ := Cond.classLink_spec hown hl1 e.platform hpl
        obtain ⟨a8, b8, h1, h2, h3⟩ := hn1
        cases Option.some.inj (h1.symm.trans hcl)
        cases Option.some.inj (h2.symm.trans hc6)
        exact Or.inr ⟨hz0, _, hcl6, h3⟩) hx (Or.inr ⟨h0, c4, hcl5, hasg⟩)
  obtain ⟨t, a1, b1⟩ := kk (T.setVm vm') hT X'
  exact ⟨t, st.trans a1, b1⟩
end Rows
section Ends
variable {p : Program} {l : Launch} {e : Env} {R : Room} {s : State} {m : MethodId} {args : Array Value} {below : List Frame} {meth : Method} {c : Code} {H : Heap} {locs : List Loc} {cells slots : Nat} {Q : State → Prop}
variable {mc ms : Nat} {free : Addr → Prop} {A0 A1 : Nat → Prop} {H0 : Heap} {a : Array Value} {ls : Array Slot} {st0 rest : List Value}
variable {Qc : Array Value → State → Outcome → State → Prop} {XC : String → State → State → Prop}
/-- what a body that may throw owes at its end -/
def vx_MQ (below : List Frame) (Qc : Array Value → State → Outcome → State → Prop) (XC : String → State → State → Prop) (a : Array Value) (s : State) (mc ms : Nat) (free : Addr → Prop) : State → Prop := fun t =>
  ∃ o, t.status = .running ∧ Ended t below o ∧ vx_Q Qc XC mc ms free a s o t
theorem vx_ret {g : JFrame} {mc ms : Nat} (k : W p l e R s m args below meth c H locs cells slots (MQ below Qc args s mc ms free) g) : W p l e R s m args below meth c H locs cells slots (vx_MQ below Qc XC args s mc ms free) g := by
  intro T hT X
  obtain ⟨t, a1, o, b1, b2, b3, b4⟩ := k T hT X
  exact ⟨t, a1, o, b1, b2, Or.inl ⟨b3, b4⟩⟩
/-- not caught here: it goes on to the caller -/
theorem vx_widen {g : JFrame} {q : Addr} {k n : Nat} (h1 : cells ≤ k) (h2 : slots ≤ n) (kk : vx_W p l e R s m args below meth c H locs k n Q g q) : vx_W p l e R s m args below meth c H locs cells slots Q g q := fun T hT X => kk T hT (stand_widen X h1 h2)
theorem vx_out {pc : Nat} {E : String} {ce : Cell} {q : Addr} {mc ms : Nat} (hout : ∀ x ∈ c.exceptionTable.toList, covers x pc = false) (hlocks : meth.locks = false) (hcell : H[q]? = some ce) (hv : ce.vm = .none) (hcl : s.vm.findClass E = some ce.cls)
    (hx : ∀ t : State, t.heap = H → s.vm.Alike t.vm → XC E s t) (hf : ∀ z ∈ locs, free z.base) (hc : cells ≤ mc) (hs : slots ≤ ms) :
    vx_W p l e R s m args below meth c H locs cells slots (vx_MQ below Qc XC args s mc ms free) (F0 m pc ls rest) q := by
  intro T hT X
  obtain ⟨st1, hrun, hend, hW, hsm⟩ := X.leaveThrown q (g := F0 m pc ls rest) rfl rfl rfl hout hlocks
  have hcell9 : (T.setFrames (.throwing q :: below)).heap[q]? = some ce := by
    show T.heap[q]? = some ce
    rw [hT]; exact hcell
  exact ⟨_, st1, .threw q, hrun, hend, Or.inr ⟨q, rfl, E, ce, locs, hx _ hT hW.alike, hcell9, hv, hcl, hW, hsm.mono hc hs, hf⟩⟩
theorem vx_frame {U : State} {k n : Nat} (h : s.sameButNew ({ U with vm := s.vm } : State) locs k n) : s.heap.size ≤ U.heap.size ∧ ∀ q : Nat, q < s.heap.size → (∀ z ∈ locs, z.base ≠ q) → U.heap[q]? = s.heap[q]? := by
  obtain ⟨-, h2, -, -, -, h6⟩ := h
  refine ⟨h2, fun q hq hz => ?_⟩
  obtain ⟨c9, e1, e2, e3, e4⟩ := h6 q _ (Array.getElem?_eq_getElem hq)
  have hs : c9.slots = (s.heap[q]).slots := Array.ext_getElem? fun i => e4 i fun hm => hz _ hm rfl
  have h9 : c9 = s.heap[q] := by
    rw [hs] at e2
    exact e2
  have e5 : U.heap[q]? = some c9 := e1
  rw [e5, h9, Array.getElem?_eq_getElem hq]
/-- the words of a throw but the four that speak of the heap -/
def vx_no (w : Cond) : Bool := decide (w ≠ .isRef (.static Bundle.tN "UNASSIGNED_STACK" Bundle.steD)) && decide (w ≠ .isRef (.static Bundle.tN "SUPPRESSED_SENTINEL" Bundle.listD)) && decide (w ≠ .laysStatic Bundle.tN "UNASSIGNED_STACK" Bundle.steD) && decide (w ≠ .laysStatic Bundle.tN "SUPPRESSED_SENTINEL" Bundle.listD)
def vx_at0 (own : String) (ic : Nat) (X : String) (names : List String) : List Cond := (Bundle.ownAtoms0 own ic X names).filter vx_no
def vx_atS (own : String) (ic : Nat) (X : String) (names : List String) : List Cond := (Bundle.ownAtoms own ic X names).filter vx_no
/-- a word that the tables alone decide, or a good one -/
def vx_ot (w : Cond) : Bool := w.onTables || goodWord w
theorem vx_ot_at {args a' : Array Value} {s U : State} {w : Cond} (hW : s.WarmedH U.vm) (hvm : s.vm = U.vm) (hg : vx_ot w = true) (h : w.before args s = true) : w.before a' U = true := by
  simp only [vx_ot, Bool.or_eq_true] at hg
  rcases hg with hg | hg
  · exact va_tabs hg hvm h
  · exact word_at hW (good_of_word hg) h
/-- a list's words: the good ones out of the method's own list, the others by premises of their own -/
theorem vx_hat {args : Array Value} {s : State} {L B : List Cond} (h1 : ∀ w ∈ L.filter goodWord, w.before args s = true) (h2 : ∀ w ∈ L.filter (fun w => !goodWord w), w ∈ B) (h3 : ∀ w ∈ B, w.before args s = true) : ∀ w ∈ L, w.before args s = true := by
  intro w hw
  by_cases g : goodWord w = true
  · exact h1 w (List.mem_filter.mpr ⟨hw, g⟩)
  · refine h3 w (h2 w (List.mem_filter.mpr ⟨hw, ?_⟩))
    show (!goodWord w) = true
    cases hgw : goodWord w
    · rfl
    · exact absurd hgw g
theorem vx_c {args : Array Value} {s : State} {w : Cond} {B : List Cond} (h : w.before args s = true) (t : ∀ w ∈ B, w.before args s = true) : ∀ w' ∈ w :: B, w'.before args s = true := fun w' h' => (List.mem_cons.mp h').elim (fun e => by rw [e]; exact h) (t w')
theorem vx_n {args : Array Value} {s : State} : ∀ w ∈ ([] : List Cond), w.before args s = true := fun _ h => nomatch h
theorem vx_own {args : Array Value} {s : State} {L : List Cond} (h1 : ∀ w ∈ L.filter vx_no, w.before args s = true)
    (hU : (Cond.isRef (.static Bundle.tN "UNASSIGNED_STACK" Bundle.steD)).before args s = true) (hN : (Cond.isRef (.static Bundle.tN "SUPPRESSED_SENTINEL" Bundle.listD)).before args s = true)
    (lU : (Cond.laysStatic Bundle.tN "UNASSIGNED_STACK" Bundle.steD).before args s = true) (lN : (Cond.laysStatic Bundle.tN "SUPPRESSED_SENTINEL" Bundle.listD).before args s = true) : ∀ w ∈ L, w.before args s = true := by
  intro w hw
  by_cases e1 : w = .isRef (.static Bundle.tN "UNASSIGNED_STACK" Bundle.steD)
  · rw [e1]; exact hU
  · by_cases e2 : w = .isRef (.static Bundle.tN "SUPPRESSED_SENTINEL" Bundle.listD)
    · rw [e2]; exact hN
    · by_cases e3 : w = .laysStatic Bundle.tN "UNASSIGNED_STACK" Bundle.steD
      · rw [e3]; exact lU
      · by_cases e4 : w = .laysStatic Bundle.tN "SUPPRESSED_SENTINEL" Bundle.listD
        · rw [e4]; exact lN
        · exact h1 w (List.mem_filter.mpr ⟨hw, by unfold vx_no; rw [decide_eq_true e1, decide_eq_true e2, decide_eq_true e3, decide_eq_true e4]; rfl⟩)
/-- where a static field lies, its class's statics cell in H -/
def vx_L (C n d : String) (A : Nat → Prop) (U : State) (H : Heap) : Prop := ∃ (c : ClassId) (k : Class) (i : Nat) (f : Field) (a : Nat) (cell : Cell), U.vm.findClass C = some c ∧ U.fieldFound? C n d = some (c, k, i, f) ∧ f.isStatic = true ∧ k.statics = some a ∧ H[a]? = some cell ∧ cell.vm.isStatics = true ∧ cell.cls = c ∧ f.slot < cell.slots.size ∧ k.staticTypes[f.slot]? = some f.type ∧ ¬ A a
theorem vx_L.moved {C n d : String} {A : Nat → Prop} {u U : State} {H : Heap} (hvm : u.vm.Alike U.vm) (h : vx_L C n d A u H) : vx_L C n d A U H := by
  obtain ⟨c, k, i, f, a, cell, h1, h2, h3, h4, h5, h6, h7, h8, h9, h10⟩ := h
  obtain ⟨k', hi', he⟩ := State.fieldFound?_setVm hvm h2
  exact ⟨c, k', i, f, a, cell, by rw [hvm.findClass]; exact h1, hi', h3, by rw [he]; exact h4, h5, h6, h7, h8, by rw [he]; exact h9, h10⟩
theorem vx_L.kept {C n d : String} {A : Nat → Prop} {U : State} {H H1 : Heap} (h : vx_L C n d A U H) (hq : ∀ a : Nat, a < H.size → ¬ A a → H1[a]? = H[a]?) : vx_L C n d A U H1 := by
  obtain ⟨c, k, i, f, a, cell, h1, h2, h3, h4, h5, h6, h7, h8, h9, h10⟩ := h
  exact ⟨c, k, i, f, a, cell, h1, h2, h3, h4, by rw [hq a (Array.getElem?_eq_some_iff.mp h5).1 h10]; exact h5, h6, h7, h8, h9, h10⟩
theorem vx_L.narrow {C n d : String} {A B : Nat → Prop} {U : State} {H : Heap} (h : vx_L C n d A U H) (hAB : ∀ q, B q → A q) : vx_L C n d B U H := by
  obtain ⟨c, k, i, f, a, cell, h1, h2, h3, h4, h5, h6, h7, h8, h9, h10⟩ := h
  exact ⟨c, k, i, f, a, cell, h1, h2, h3, h4, h5, h6, h7, h8, h9, fun z => h10 (hAB _ z)⟩
theorem vx_L.word {C n d : String} {A : Nat → Prop} {s : State} {args : Array Value} (h : vx_L C n d A s s.heap) : (Cond.laysStatic C n d).before args s = true := by
  obtain ⟨c, k, i, f, a, cell, h1, h2, h3, h4, h5, h6, h7, h8, h9, -⟩ := h
  show (Cond.laysStatic C n d).holds args s none s [] = true
  exact Cond.laysStatic_of h1 h2 h3 h4 h5 h6 h7 h8 h9
/-- .. and what it holds: null or some reference -/
def vx_Zq (C n d : String) (A : Nat → Prop) (U : State) (H : Heap) : Prop := va_Zq C n d A U H ∧ vx_L C n d A U H
theorem vx_Zq.moved {C n d : String} {A : Nat → Prop} {u U : State} {H : Heap} (hvm : u.vm.Alike U.vm) (h : vx_Zq C n d A u H) : vx_Zq C n d A U H := ⟨va_Zq.moved hvm h.1, vx_L.moved hvm h.2⟩
theorem vx_Zq.kept {C n d : String} {A : Nat → Prop} {U : State} {H H1 : Heap} (h : vx_Zq C n d A U H) (hq : ∀ a : Nat, a < H.size → ¬ A a → H1[a]? = H[a]?) : vx_Zq C n d A U H1 := ⟨va_Zq.kept h.1 hq, vx_L.kept h.2 hq⟩
theorem vx_Zq.narrow {C n d : String} {A B : Nat → Prop} {U : State} {H : Heap} (h : vx_Zq C n d A U H) (hAB : ∀ q, B q → A q) : vx_Zq C n d B U H := ⟨va_Zq.narrow h.1 hAB, vx_L.narrow h.2 hAB⟩
theorem vx_Zqof {args : Array Value} {s : State} {C n d : String} {A : Nat → Prop} (hl : (Cond.laysStatic C n d).before args s = true) (hini : (Cond.initialized C).before args s = true) (h : (Cond.isRef (.static C n d)).before args s = true) (hA : ∀ a : Nat, a < s.heap.size → ¬ A a) : vx_Zq C n d A s s.heap := by
  refine ⟨va_Zqof hl hini h hA, ?_⟩
  obtain ⟨c, k, i, f, a, cell, h1, h2, h3, h4, h5, h6, h7, h8, h9⟩ := Cond.laysStatic_spec hl
  exact ⟨c, k, i, f, a, cell, h1, h2, h3, h4, h5, h6, h7, h8, h9, hA a (Array.getElem?_eq_some_iff.mp h5).1⟩
theorem vx_isRef {C n d : String} {v : Value} {A : Nat → Prop} {s : State} {args : Array Value} (h : va_Z C n d v A s s.heap) (hv : v.isRef = true) : (Cond.isRef (.static C n d)).before args s = true := by
  obtain ⟨cf, kf, fi, f, a, cell, h1, h2, h3, h4, h5, h6, h7, -⟩ := h
  have he : (Term.static C n d).eval args s none [] s = some v := by
    simp [Term.eval, State.fieldNamed?, h1, h2, h4, h5, h6, h7]
  simp only [Cond.before, Cond.holds, Cond.value, he]
  cases v <;> simp_all [Value.isRef]
theorem vx_isRefq {C n d : String} {A : Nat → Prop} {s : State} {args : Array Value} (h : va_Zq C n d A s s.heap) : (Cond.isRef (.static C n d)).before args s = true := by
  rcases h with h | ⟨t, h⟩
  · exact vx_isRef h rfl
  · exact vx_isRef h rfl
/-- the same frame, seen from here: as if the method were called anew in this heap -/
theorem vx_rebase {T : State} (X : Stand p l e R s m args below meth c T locs cells slots) {R' : Room} (hf : R'.frames ≤ R.frames) (hl : R'.locals ≤ R.locals) (hc : cells + R'.cells ≤ R.cells) (hs : slots + R'.slots ≤ R.slots) :
    Stand p l e R' ((T.setVm s.vm).setFrames (.invoking m args :: below)) m args below meth c T [] 0 0 := by
  have htop : (T.setVm s.vm).topJava?.isSome := X.here.top
  have hF : ((T.setVm s.vm).setFrames (.invoking m args :: below)).frames = .invoking m args :: below := State.frames_setFrames _ (State.cur_lt_of_top htop)
  obtain ⟨g₀, hg0⟩ := Option.isSome_iff_exists.mp htop
  obtain ⟨r, hr⟩ := State.topJava?_eq_some.mp hg0
  have hl9 : e.platform.stackLimits (T.setVm s.vm).me = e.platform.stackLimits s.me := X.limits
  have hb9 : (T.setVm s.vm).me.stackBytes = s.me.stackBytes := X.bytes
  refine ⟨X.admits, X.cas, X.clock, hF, ?_, X.hears, X.method, X.code, X.here, X.tail, X.warmed, ?_, ?_, ?_⟩
  · have h := X.room
    have hU : ((T.setVm s.vm).setFrames (.invoking m args :: below)).localsInUse = s.localsInUse := by
      rw [State.localsInUse_invoking hF (meth := meth) (c := c) X.method X.code, State.localsInUse_invoking X.frames X.method X.code]
    simp only [State.hasRoom, Bool.and_eq_true, decide_eq_true_eq] at h ⊢
    obtain ⟨⟨⟨⟨h1, h2, h3, h4, h5, h6⟩, h7⟩, h8⟩, h9⟩ := h
    rw [X.frames, List.length_cons] at h2 h3
    have q1 := X.heapSize
    have q2 := X.used
    simp only [hF, hU, List.length_cons, State.stackLimits_setFrames, State.stackBytes_setFrames, hl9, hb9]
    refine ⟨⟨⟨⟨by omega, by omega, by omega, by omega, by omega, h6⟩, ?_⟩, ?_⟩, X.book⟩
    · show T.heap.size + R'.cells ≤ e.platform.maxCells
      omega
    · show T.slotsUsed + R'.slots ≤ e.platform.maxSlots
      omega
  · rw [State.stackLimits_setFrames]; rfl
  · rw [State.stackBytes_setFrames]; rfl
  · refine ⟨?_, Nat.le_refl _, Nat.le_refl _, ?_, ?_, fun a c9 h9 => ⟨c9, h9, rfl, rfl, fun _ _ => rfl⟩⟩
    · obtain ⟨t, ht, -⟩ := State.frames_cons hr
      show T.setVm s.vm = { ((T.setVm s.vm).setFrames (.invoking m args :: below)).setFrames (T.setVm s.vm).frames with heap := T.heap, slotsUsed := T.slotsUsed }
      rw [State.setFrames_setFrames, State.setFrames_self ht]
      rfl
    · show T.slotsUsed = T.slotsUsed + ((T.heap.toList.drop T.heap.size).map (·.slots.size)).sum
      rw [List.drop_eq_nil_of_le (Nat.le_of_eq Array.length_toList)]
      rfl
    · show ((T.heap.toList.drop T.heap.size).map (·.slots.size)).sum ≤ 0
      rw [List.drop_eq_nil_of_le (Nat.le_of_eq Array.length_toList)]
      exact Nat.le_refl _
/-- 'throw new E()': new; dup; invokespecial; athrow -/
theorem vx_throw0 {cc : ByteArray} {pc : Nat} (hexec : p.tables.exec = Jvm.exec) (hb : c.code = cc) (hl : l.stackTraces = false) {own cls : String} {names : List String} {ik ic mc ms : Nat} {A : Nat → Prop}
    (hown : s.vm.findClass own = some m.cls) (hcls : Bundle.fit cls = true) (hnames : ∀ n ∈ names, Bundle.fit n = true)
    (hk : (Cond.classLink own ik cls).before args s = true) (hini : (Cond.initialized cls).before args s = true) (hat : ∀ w ∈ vx_at0 own ic cls names, w.before args s = true)
    (hgood : ∀ w ∈ Cond.classLink own ik cls :: Cond.initialized cls :: vx_at0 own ic cls names, vx_ot w = true)
    (hU : vx_Zq Bundle.tN "UNASSIGNED_STACK" Bundle.steD A s s.heap) (hN : vx_Zq Bundle.tN "SUPPRESSED_SENTINEL" Bundle.listD A s s.heap) (hS : va_S A s.heap H locs) (hsize : ls.size = c.maxLocals)
    (d0 : decode cc pc = .ok (.new ik, 3)) (d3 : decode cc (pc + 3) = .ok (.dup, 1)) (d4 : decode cc (pc + 4) = .ok (.invokespecial ic, 3)) (d7 : decode cc (pc + 7) = .ok (.athrow, 1))
    (hout : ∀ x ∈ c.exceptionTable.toList, covers x (pc + 7) = false)
    (hRframes : names.length + 3 < R.frames) (hRlocals : (rest.map fun v => v.category).sum + (13 * (names.length + 1) + 42) ≤ R.locals) (hRcells : cells + 1 ≤ R.cells) (hRslots : slots + 6 ≤ R.slots) (hlocks : meth.locks = false)
    (hx : ∀ t : State, s.vm.Alike t.vm → H.size ≤ t.heap.size → (∀ q : Nat, q < H.size → t.heap[q]? = H[q]?) → XC cls s t)
    (hf : ∀ z ∈ locs, free z.base) (hc : cells + 1 ≤ mc) (hs : slots + 6 ≤ ms) :
    W p l e R s m args below meth c H locs cells slots (vx_MQ below Qc XC args s mc ms free) (F0 m pc ls rest) := by
  intro T hT X
  have htr : e.platform.stackTraces = false := (show e.platform.stackTraces = l.stackTraces by rw [X.admits.platform]).trans hl
  have Y := vx_rebase X (R' := { frames := R.frames, locals := R.locals, cells := 1, slots := 6 }) (Nat.le_refl _) (Nat.le_refl _) hRcells hRslots
  obtain ⟨s', hA⟩ : ∃ z, z = (T.setVm s.vm).setFrames (.invoking m args :: below) := ⟨_, rfl⟩
  rw [← hA] at Y
  have hvm : s'.vm = s.vm := by rw [hA]; rfl
  have hhp : s'.heap = H := by rw [hA]; exact hT
  have hW0 : s.WarmedH s'.vm := by rw [hvm]; exact State.WarmedH.refl s
  have hat' : ∀ w ∈ vx_at0 own ic cls names, w.before args s' = true := fun w hw => vx_ot_at hW0 hvm.symm (hgood w (List.mem_cons_of_mem _ (List.mem_cons_of_mem _ hw))) (hat w hw)
  have hk' : (Cond.classLink own ik cls).before args s' = true := vx_ot_at hW0 hvm.symm (hgood _ List.mem_cons_self) hk
  have hini' : (Cond.initialized cls).before args s' = true := vx_ot_at hW0 hvm.symm (hgood _ (List.mem_cons_of_mem _ List.mem_cons_self)) hini
  have hU' : vx_Zq Bundle.tN "UNASSIGNED_STACK" Bundle.steD A s' s'.heap := by rw [hhp]; exact vx_Zq.moved hW0.alike (hU.kept hS.2.1)
  have hN' : vx_Zq Bundle.tN "SUPPRESSED_SENTINEL" Bundle.listD A s' s'.heap := by rw [hhp]; exact vx_Zq.moved hW0.alike (hN.kept hS.2.1)
  have h : ∀ w ∈ Bundle.ownAtoms0 own ic cls names, w.before args s' = true := vx_own hat' (vx_isRefq hU'.1) (vx_isRefq hN'.1) hU'.2.word hN'.2.word
  have hown' : s'.vm.findClass own = some m.cls := by rw [hvm]; exact hown
  have hins : (Cond.instantiable cls 6).before args s' = true := h _ (by simp [Bundle.ownAtoms0])
  obtain ⟨vm₁, cX, kX, hfX, hkX, -, -, X₁, st1⟩ := Y.newCold hexec (own := own) (C := cls) (index := ik) (n := 6) hown' hk' hins hini'
    (g := F0 m pc ls rest) rfl (by rw [hb]; exact d0) (Nat.le_refl _) (Nat.le_refl _)
  generalize hT1 : (T.setVm vm₁).pushCell { cls := cX, slots := kX.instanceTypes.map defaultValue, vm := .none } = T1 at X₁ st1
  have hcat : (Value.ref T.heap.size).category = 1 := rfl
  have hcellA : T1.heap[T.heap.size]? = some (freshCell cX kX) := by rw [← hT1]; exact State.heap_pushCell_size _ _
  have d3' : decode c.code (pc + 3) = .ok (.dup, 1) := by rw [hb]; exact d3
  obtain ⟨U, hsteps, hrun, hend, hW, hsame, ce, hce, hO⟩ := X₁.ctorThrow0 hexec htr (own := own) (cls := cls) (names := names) (ic := ic) hown' hcls hnames h (fun x hx => nomatch hx) hfX hkX hcellA (by rw [hhp, hT]; exact Nat.le_refl _)
    (g := { method := m, pc := pc + 4, locals := ls, stack := .ref T.heap.size :: .ref T.heap.size :: rest, locked := none }) rfl hsize rfl rfl (rest := rest) rfl
    (by rw [hb]; exact d4) (by rw [hb]; exact d7) hout hRframes (by simp only [List.map_cons, List.sum_cons, hcat]; omega) hlocks
  obtain ⟨f1, f2⟩ := vx_frame hsame
  rw [hhp] at f1 f2
  have hWs : s.WarmedH U.vm := State.WarmedH.trans hW0 hW
  have hcl : s.vm.findClass cls = some ce.cls := by
    have h9 := hO.cls
    rw [hvm] at h9
    exact h9
  have hall : s.sameButNew ({ U with vm := s.vm } : State) locs mc ms := by
    subst hA
    obtain ⟨e1, e2⟩ := hsame
    rw [State.setFrames_setFrames] at e1
    have h2 : (T.setVm s.vm).sameButNew ({ U with vm := s.vm } : State) [] (0 + 1) (0 + 6) := ⟨e1, e2⟩
    have h3 := X.same.trans h2
    rw [List.append_nil] at h3
    exact h3.mono hc hs
  refine ⟨U, ?_, .threw T.heap.size, hrun, hend, Or.inr ⟨T.heap.size, rfl, cls, ce, locs, hx U hWs.alike f1 (fun q hq => f2 q hq (fun z hz => nomatch hz)), hce, hO.vm, hcl, hWs, hall, hf⟩⟩
  refine st1 _ ?_
  show Steps p.tables e below (T1.setTop { method := m, pc := pc + 3, locals := ls, stack := .ref T.heap.size :: rest, locked := none }) _
  jvm_step X₁.here [X₁.here.top, hexec, d3', Value.category]
  exact hsteps
/-- 'throw new E("text")': new; dup; ldc; invokespecial; athrow -/
theorem vx_throwS {cc : ByteArray} {pc : Nat} (hexec : p.tables.exec = Jvm.exec) (hb : c.code = cc) (hl : l.stackTraces = false) {own cls text : String} {names : List String} {ik is ic mc ms sa : Nat} {A : Nat → Prop}
    (hown : s.vm.findClass own = some m.cls) (hcls : Bundle.fit cls = true) (hnames : ∀ n ∈ names, Bundle.fit n = true)
    (hk : (Cond.classLink own ik cls).before args s = true) (hini : (Cond.initialized cls).before args s = true) (hstr : vk_R own is text sa s) (hat : ∀ w ∈ vx_atS own ic cls names, w.before args s = true)
    (hgood : ∀ w ∈ Cond.classLink own ik cls :: Cond.initialized cls :: vx_atS own ic cls names, vx_ot w = true)
    (hU : vx_Zq Bundle.tN "UNASSIGNED_STACK" Bundle.steD A s s.heap) (hN : vx_Zq Bundle.tN "SUPPRESSED_SENTINEL" Bundle.listD A s s.heap) (hS : va_S A s.heap H locs) (hsize : ls.size = c.maxLocals)
    (d0 : decode cc pc = .ok (.new ik, 3)) (d3 : decode cc (pc + 3) = .ok (.dup, 1)) (d4 : decode cc (pc + 4) = .ok (.ldc is, 2)) (d6 : decode cc (pc + 6) = .ok (.invokespecial ic, 3)) (d9 : decode cc (pc + 9) = .ok (.athrow, 1))
    (hout : ∀ x ∈ c.exceptionTable.toList, covers x (pc + 9) = false)
    (hRframes : names.length + 3 < R.frames) (hRlocals : (rest.map fun v => v.category).sum + (13 * (names.length + 1) + 43) ≤ R.locals) (hRcells : cells + 1 ≤ R.cells) (hRslots : slots + 6 ≤ R.slots) (hlocks : meth.locks = false)
    (hx : ∀ t : State, s.vm.Alike t.vm → H.size ≤ t.heap.size → (∀ q : Nat, q < H.size → t.heap[q]? = H[q]?) → XC cls s t)
    (hf : ∀ z ∈ locs, free z.base) (hc : cells + 1 ≤ mc) (hs : slots + 6 ≤ ms) :
    W p l e R s m args below meth c H locs cells slots (vx_MQ below Qc XC args s mc ms free) (F0 m pc ls rest) := by
  intro T hT X
  have htr : e.platform.stackTraces = false := (show e.platform.stackTraces = l.stackTraces by rw [X.admits.platform]).trans hl
  have Y := vx_rebase X (R' := { frames := R.frames, locals := R.locals, cells := 1, slots := 6 }) (Nat.le_refl _) (Nat.le_refl _) hRcells hRslots
  obtain ⟨s', hA⟩ : ∃ z, z = (T.setVm s.vm).setFrames (.invoking m args :: below) := ⟨_, rfl⟩
  rw [← hA] at Y
  have hvm : s'.vm = s.vm := by rw [hA]; rfl
  have hhp : s'.heap = H := by rw [hA]; exact hT
  have hW0 : s.WarmedH s'.vm := by rw [hvm]; exact State.WarmedH.refl s
  have hat' : ∀ w ∈ vx_atS own ic cls names, w.before args s' = true := fun w hw => vx_ot_at hW0 hvm.symm (hgood w (List.mem_cons_of_mem _ (List.mem_cons_of_mem _ hw))) (hat w hw)
  have hk' : (Cond.classLink own ik cls).before args s' = true := vx_ot_at hW0 hvm.symm (hgood _ List.mem_cons_self) hk
  have hini' : (Cond.initialized cls).before args s' = true := vx_ot_at hW0 hvm.symm (hgood _ (List.mem_cons_of_mem _ List.mem_cons_self)) hini
  have hU' : vx_Zq Bundle.tN "UNASSIGNED_STACK" Bundle.steD A s' s'.heap := by rw [hhp]; exact vx_Zq.moved hW0.alike (hU.kept hS.2.1)
  have hN' : vx_Zq Bundle.tN "SUPPRESSED_SENTINEL" Bundle.listD A s' s'.heap := by rw [hhp]; exact vx_Zq.moved hW0.alike (hN.kept hS.2.1)
  have h : ∀ w ∈ Bundle.ownAtoms own ic cls names, w.before args s' = true := vx_own hat' (vx_isRefq hU'.1) (vx_isRefq hN'.1) hU'.2.word hN'.2.word
  have hown' : s'.vm.findClass own = some m.cls := by rw [hvm]; exact hown
  have hins : (Cond.instantiable cls 6).before args s' = true := h _ (by simp [Bundle.ownAtoms])
  obtain ⟨vm₁, cX, kX, hfX, hkX, -, -, X₁, st1⟩ := Y.newCold hexec (own := own) (C := cls) (index := ik) (n := 6) hown' hk' hins hini'
    (g := F0 m pc ls rest) rfl (by rw [hb]; exact d0) (Nat.le_refl _) (Nat.le_refl _)
  generalize hT1 : (T.setVm vm₁).pushCell { cls := cX, slots := kX.instanceTypes.map defaultValue, vm := .none } = T1 at X₁ st1
  have hcat : (Value.ref T.heap.size).category = 1 := rfl
  have hcellA : T1.heap[T.heap.size]? = some (freshCell cX kX) := by rw [← hT1]; exact State.heap_pushCell_size _ _
  have d3' : decode c.code (pc + 3) = .ok (.dup, 1) := by rw [hb]; exact d3
  have d4' : decode c.code (pc + 4) = .ok (.ldc is, 2) := by rw [hb]; exact d4
  have hstr' : vk_R own is text sa s' := vk_R.warm hW0 hstr
  obtain ⟨U, hsteps, hrun, hend, hW, hsame, ce, hce, hO⟩ := X₁.ctorThrowS hexec htr (own := own) (cls := cls) (names := names) (ic := ic) hown' hcls hnames h (fun x hx => nomatch hx) hfX hkX hcellA (by rw [hhp, hT]; exact Nat.le_refl _) (msg := .ref sa) rfl
    (g := { method := m, pc := pc + 6, locals := ls, stack := .ref sa :: .ref T.heap.size :: .ref T.heap.size :: rest, locked := none }) rfl hsize rfl rfl (rest := rest) rfl
    (by rw [hb]; exact d6) (by rw [hb]; exact d9) hout hRframes (by simp only [List.map_cons, List.sum_cons, hcat]; omega) hlocks
  obtain ⟨f1, f2⟩ := vx_frame hsame
  rw [hhp] at f1 f2
  have hWs : s.WarmedH U.vm := State.WarmedH.trans hW0 hW
  have hcl : s.vm.findClass cls = some ce.cls := by
    have h9 := hO.cls
    rw [hvm] at h9
    exact h9
  have hall : s.sameButNew ({ U with vm := s.vm } : State) locs mc ms := by
    subst hA
    obtain ⟨e1, e2⟩ := hsame
    rw [State.setFrames_setFrames] at e1
    have h2 : (T.setVm s.vm).sameButNew ({ U with vm := s.vm } : State) [] (0 + 1) (0 + 6) := ⟨e1, e2⟩
    have h3 := X.same.trans h2
    rw [List.append_nil] at h3
    exact h3.mono hc hs
  refine ⟨U, ?_, .threw T.heap.size, hrun, hend, Or.inr ⟨T.heap.size, rfl, cls, ce, locs, hx U hWs.alike f1 (fun q hq => f2 q hq (fun z hz => nomatch hz)), hce, hO.vm, hcl, hWs, hall, hf⟩⟩
  refine st1 _ ?_
  show Steps p.tables e below (T1.setTop { method := m, pc := pc + 3, locals := ls, stack := .ref T.heap.size :: rest, locked := none }) _
  jvm_step X₁.here [X₁.here.top, hexec, d3', Value.category]
  exact X₁.ldcString hexec (own := own) (text := text) (index := is) (a := sa) hown' hstr'.1 hstr'.2
    (g := { method := m, pc := pc + 4, locals := ls, stack := .ref T.heap.size :: .ref T.heap.size :: rest, locked := none }) rfl d4' _ hsteps
/-- 'throw new E("text")', the text by a wide index -/
theorem vx_throwSW {cc : ByteArray} {pc : Nat} (hexec : p.tables.exec = Jvm.exec) (hb : c.code = cc) (hl : l.stackTraces = false) {own cls text : String} {names : List String} {ik is ic mc ms sa : Nat} {A : Nat → Prop}
    (hown : s.vm.findClass own = some m.cls) (hcls : Bundle.fit cls = true) (hnames : ∀ n ∈ names, Bundle.fit n = true)
    (hk : (Cond.classLink own ik cls).before args s = true) (hini : (Cond.initialized cls).before args s = true) (hstr : vk_R own is text sa s) (hat : ∀ w ∈ vx_atS own ic cls names, w.before args s = true)
    (hgood : ∀ w ∈ Cond.classLink own ik cls :: Cond.initialized cls :: vx_atS own ic cls names, vx_ot w = true)
    (hU : vx_Zq Bundle.tN "UNASSIGNED_STACK" Bundle.steD A s s.heap) (hN : vx_Zq Bundle.tN "SUPPRESSED_SENTINEL" Bundle.listD A s s.heap) (hS : va_S A s.heap H locs) (hsize : ls.size = c.maxLocals)
    (d0 : decode cc pc = .ok (.new ik, 3)) (d3 : decode cc (pc + 3) = .ok (.dup, 1)) (d4 : decode cc (pc + 4) = .ok (.ldc_w is, 3)) (d7 : decode cc (pc + 7) = .ok (.invokespecial ic, 3)) (d10 : decode cc (pc + 10) = .ok (.athrow, 1))
    (hout : ∀ x ∈ c.exceptionTable.toList, covers x (pc + 10) = false)
    (hRframes : names.length + 3 < R.frames) (hRlocals : (rest.map fun v => v.category).sum + (13 * (names.length + 1) + 43) ≤ R.locals) (hRcells : cells + 1 ≤ R.cells) (hRslots : slots + 6 ≤ R.slots) (hlocks : meth.locks = false)
    (hx : ∀ t : State, s.vm.Alike t.vm → H.size ≤ t.heap.size → (∀ q : Nat, q < H.size → t.heap[q]? = H[q]?) → XC cls s t)
    (hf : ∀ z ∈ locs, free z.base) (hc : cells + 1 ≤ mc) (hs : slots + 6 ≤ ms) :
    W p l e R s m args below meth c H locs cells slots (vx_MQ below Qc XC args s mc ms free) (F0 m pc ls rest) := by
  intro T hT X
  have htr : e.platform.stackTraces = false := (show e.platform.stackTraces = l.stackTraces by rw [X.admits.platform]).trans hl
  have Y := vx_rebase X (R' := { frames := R.frames, locals := R.locals, cells := 1, slots := 6 }) (Nat.le_refl _) (Nat.le_refl _) hRcells hRslots
  obtain ⟨s', hA⟩ : ∃ z, z = (T.setVm s.vm).setFrames (.invoking m args :: below) := ⟨_, rfl⟩
  rw [← hA] at Y
  have hvm : s'.vm = s.vm := by rw [hA]; rfl
  have hhp : s'.heap = H := by rw [hA]; exact hT
  have hW0 : s.WarmedH s'.vm := by rw [hvm]; exact State.WarmedH.refl s
  have hat' : ∀ w ∈ vx_atS own ic cls names, w.before args s' = true := fun w hw => vx_ot_at hW0 hvm.symm (hgood w (List.mem_cons_of_mem _ (List.mem_cons_of_mem _ hw))) (hat w hw)
  have hk' : (Cond.classLink own ik cls).before args s' = true := vx_ot_at hW0 hvm.symm (hgood _ List.mem_cons_self) hk
  have hini' : (Cond.initialized cls).before args s' = true := vx_ot_at hW0 hvm.symm (hgood _ (List.mem_cons_of_mem _ List.mem_cons_self)) hini
  have hU' : vx_Zq Bundle.tN "UNASSIGNED_STACK" Bundle.steD A s' s'.heap := by rw [hhp]; exact vx_Zq.moved hW0.alike (hU.kept hS.2.1)
  have hN' : vx_Zq Bundle.tN "SUPPRESSED_SENTINEL" Bundle.listD A s' s'.heap := by rw [hhp]; exact vx_Zq.moved hW0.alike (hN.kept hS.2.1)
  have h : ∀ w ∈ Bundle.ownAtoms own ic cls names, w.before args s' = true := vx_own hat' (vx_isRefq hU'.1) (vx_isRefq hN'.1) hU'.2.word hN'.2.word
  have hown' : s'.vm.findClass own = some m.cls := by rw [hvm]; exact hown
  have hins : (Cond.instantiable cls 6).before args s' = true := h _ (by simp [Bundle.ownAtoms])
  obtain ⟨vm₁, cX, kX, hfX, hkX, -, -, X₁, st1⟩ := Y.newCold hexec (own := own) (C := cls) (index := ik) (n := 6) hown' hk' hins hini'
    (g := F0 m pc ls rest) rfl (by rw [hb]; exact d0) (Nat.le_refl _) (Nat.le_refl _)
  generalize hT1 : (T.setVm vm₁).pushCell { cls := cX, slots := kX.instanceTypes.map defaultValue, vm := .none } = T1 at X₁ st1
  have hcat : (Value.ref T.heap.size).category = 1 := rfl
  have hcellA : T1.heap[T.heap.size]? = some (freshCell cX kX) := by rw [← hT1]; exact State.heap_pushCell_size _ _
  have d3' : decode c.code (pc + 3) = .ok (.dup, 1) := by rw [hb]; exact d3
  have d4' : decode c.code (pc + 4) = .ok (.ldc_w is, 3) := by rw [hb]; exact d4
  have hstr' : vk_R own is text sa s' := vk_R.warm hW0 hstr
  obtain ⟨U, hsteps, hrun, hend, hW, hsame, ce, hce, hO⟩ := X₁.ctorThrowS hexec htr (own := own) (cls := cls) (names := names) (ic := ic) hown' hcls hnames h (fun x hx => nomatch hx) hfX hkX hcellA (by rw [hhp, hT]; exact Nat.le_refl _) (msg := .ref sa) rfl
    (g := { method := m, pc := pc + 7, locals := ls, stack := .ref sa :: .ref T.heap.size :: .ref T.heap.size :: rest, locked := none }) rfl hsize rfl rfl (rest := rest) rfl
    (by rw [hb]; exact d7) (by rw [hb]; exact d10) hout hRframes (by simp only [List.map_cons, List.sum_cons, hcat]; omega) hlocks
  obtain ⟨f1, f2⟩ := vx_frame hsame
  rw [hhp] at f1 f2
  have hWs : s.WarmedH U.vm := State.WarmedH.trans hW0 hW
  have hcl : s.vm.findClass cls = some ce.cls := by
    have h9 := hO.cls
    rw [hvm] at h9
    exact h9
  have hall : s.sameButNew ({ U with vm := s.vm } : State) locs mc ms := by
    subst hA
    obtain ⟨e1, e2⟩ := hsame
    rw [State.setFrames_setFrames] at e1
    have h2 : (T.setVm s.vm).sameButNew ({ U with vm := s.vm } : State) [] (0 + 1) (0 + 6) := ⟨e1, e2⟩
    have h3 := X.same.trans h2
    rw [List.append_nil] at h3
    exact h3.mono hc hs
  refine ⟨U, ?_, .threw T.heap.size, hrun, hend, Or.inr ⟨T.heap.size, rfl, cls, ce, locs, hx U hWs.alike f1 (fun q hq => f2 q hq (fun z hz => nomatch hz)), hce, hO.vm, hcl, hWs, hall, hf⟩⟩
  refine st1 _ ?_
  show Steps p.tables e below (T1.setTop { method := m, pc := pc + 3, locals := ls, stack := .ref T.heap.size :: rest, locked := none }) _
  jvm_step X₁.here [X₁.here.top, hexec, d3', Value.category]
  exact X₁.ldcStringW hexec (own := own) (text := text) (index := is) (a := sa) hown' hstr'.1 hstr'.2
    (g := { method := m, pc := pc + 4, locals := ls, stack := .ref T.heap.size :: .ref T.heap.size :: rest, locked := none }) rfl d4' _ hsteps
end Ends
section Bodies
variable {l : Launch}
theorem vx_ofW {y : MethodName} {ws ws' : List Cond} {rm : Room} {Pc : Array Value → State → Prop} {Qc : Array Value → State → Outcome → State → Prop} {XC : String → State → State → Prop} {mc ms : Nat} {free : Addr → Prop} {cc : ByteArray} {maxL : Nat} {ret : Option FieldType}
    (hy : plainName y.cls = true) (hw : ws = Cond.code y cc maxL ret :: ws')
    (body : ∀ p e s m args below meth c s₁, BodyLoose p l y (headSpec ws rm) cc maxL ret e s m args below meth c s₁ → c.maxLocals = maxL → (∀ x ∈ c.exceptionTable.toList, False) → Pc args s →
      W p l e (headSpec ws rm).room s m args below meth c s.heap [] 0 0 (vx_MQ below Qc XC args s mc ms free) (entryFrame m args maxL)) : vx_Met l y ws rm Pc Qc XC mc ms free := by
  refine MetFree.of_bodyS (code := cc) (maxLocals := maxL) (ret := ret) hy ?_ ?_
  · intro args s m h hn
    obtain ⟨meth, c, h1, h2, h3, h4, h5, h6, -, -⟩ := Cond.code_spec hn (atoms_spec (ws := ws) h _ (by rw [hw]; exact List.mem_cons_self))
    exact ⟨meth, c, h1, h2, h3, h4, h5, h6⟩
  · intro p e s m args below meth c s₁ B hml hP _
    have hh0 : s₁.heap = s.heap := by rw [B.state]; rfl
    have ht : ∀ x ∈ c.exceptionTable.toList, False := by
      obtain ⟨meth9, c9, h1, h2, -, -, -, -, h7, -⟩ := Cond.code_spec B.named (atoms_spec (ws := ws) B.pre _ (by rw [hw]; exact List.mem_cons_self))
      cases Option.some.inj (h1.symm.trans B.method)
      cases Option.some.inj (h2.symm.trans (Stand.of_body B).code)
      intro x hx
      rw [Array.isEmpty_iff.mp h7] at hx
      cases hx
    obtain ⟨t, a1, o, b1, b2, b3⟩ := body p e s m args below meth c s₁ B hml ht hP s₁ hh0 (Stand.of_body B)
    exact ⟨t, o, a1, b1, b2, b3⟩
/-- the table of a body with handlers -/
theorem vx_table {p : Program} {x y : MethodName} {S : Spec} {cc bytes : ByteArray} {maxL maxL' : Nat} {ret ret' : Option FieldType} {e : Env} {s s₁ : State} {m : MethodId} {args : Array Value} {below : List Frame} {meth : Method} {c : Code} {hh : List (Nat × Nat × Nat × Nat)}
    (B : BodyLoose p l y S cc maxL ret e s m args below meth c s₁) (h : (Cond.codeWith y bytes maxL' ret' hh).before args s = true) : c.exceptionTable.toList = tableOf hh := by
  obtain ⟨m9, meth9, c9, hn9, h1, h2, -, -, h6, -⟩ := Cond.codeWith_spec h
  cases Option.some.inj (hn9.symm.trans B.named)
  cases Option.some.inj (h1.symm.trans B.method)
  cases Option.some.inj (h2.symm.trans (Stand.of_body B).code)
  rw [← h6, table_eq]
end Bodies
end VXA
/-! ===== END ===== -/
/-! ===== BEGIN a static call of a method with an exception table ===== -/
section VXS
variable {p : Program} {l : Launch} {e : Env} {R : Room} {s : State} {m : MethodId} {args : Array Value} {below : List Frame} {meth : Method} {c : Code} {T : State} {H : Heap} {locs : List Loc} {cells slots : Nat}
abbrev vx_CSW (R : Room) (s : State) (args : Array Value) (own : String) (index : Nat) (y : MethodName) (bytes : ByteArray) (maxL : Nat) (ret : Option FieldType) (hh : List (Nat × Nat × Nat × Nat)) (ws : List Cond) (rm : Room) (mc ms n : Nat) : Prop :=
  (rm.cells = mc ∧ rm.slots = ms ∧ rm.frames + 1 ≤ R.frames ∧ 8 + (maxL + 11) + rm.locals ≤ R.locals ∧ (∀ w ∈ ws, ∀ (a' : Array Value) (U : State), s.WarmedH U.vm → w.before a' U = true) ∧ Cond.codeWith y bytes maxL ret hh ∈ ws) ∧
  (Cond.codeWith y bytes maxL ret hh).before args s = true ∧ (Cond.initialized y.cls).before args s = true ∧ (y.cls ≠ "java/lang/invoke/MethodHandle" ∧ y.cls ≠ "java/lang/invoke/VarHandle") ∧
  (∀ sig, parseMethodDescriptor y.desc = some sig → n = sig.parameters.length) ∧ (Cond.methodLink own index y).before args s = true ∧ (Cond.static y).before args s = true
theorem vx_cwSW {own : String} {index maxL mc ms : Nat} {y : MethodName} {bytes : ByteArray} {ret : Option FieldType} {hh : List (Nat × Nat × Nat × Nat)} {Ts ws ws' : List Cond} {rm : Room} (n : Nat) (ht : ∀ w ∈ Ts, w.before args s = true) (hT : GoodIn Ts (va_wsS own index y ws)) (hw : ws = Cond.codeWith y bytes maxL ret hh :: ws') (hrc : rm.cells = mc) (hrs : rm.slots = ms)
    (hd : y.cls ≠ "java/lang/invoke/MethodHandle" ∧ y.cls ≠ "java/lang/invoke/VarHandle" ∧ (parseMethodDescriptor y.desc).map (fun d => d.parameters.length) = some n) (hR : rm.frames + 1 ≤ R.frames ∧ 8 + (maxL + 11) + rm.locals ≤ R.locals) :
    vx_CSW R s args own index y bytes maxL ret hh ws rm mc ms n := by
  have ok : ∀ w ∈ va_wsS own index y ws, w.before args s = true := fun w h => ht w (hT w h).1
  have hG : GoodIn Ts ws := fun w h => hT w (by unfold va_wsS; exact List.mem_append_right _ h)
  have hc : Cond.codeWith y bytes maxL ret hh ∈ ws := by rw [hw]; exact List.mem_cons_self
  refine ⟨⟨hrc, hrs, hR.1, hR.2, pay_in ht hG, hc⟩, ht _ (hG _ hc).1, ok _ (by simp [va_wsS]), ⟨hd.1, hd.2.1⟩, fun sig h => ?_, ok _ (by simp [va_wsS]), ok _ (by simp [va_wsS])⟩
  have h2 := hd.2.2
  rw [h] at h2
  exact (Option.some.inj h2).symm
theorem vx_callSW (X : Stand p l e R s m args below meth c T locs cells slots) (hexec : p.tables.exec = Jvm.exec) {own : String} {index : Nat} {y : MethodName} {bytes : ByteArray} {maxL : Nat} {ret : Option FieldType} {hh : List (Nat × Nat × Nat × Nat)}
    (hown : s.vm.findClass own = some m.cls) (hlink : (Cond.methodLink own index y).before args s = true) (hstat : (Cond.static y).before args s = true) (hinit : (Cond.initialized y.cls).before args s = true)
    (hcode : (Cond.codeWith y bytes maxL ret hh).before args s = true) (hy : y.cls ≠ "java/lang/invoke/MethodHandle" ∧ y.cls ≠ "java/lang/invoke/VarHandle")
    {W9 : Nat} {Pre : Pt → Array Value → Prop} {Post : Pt → Array Value → Option Value → Pt → Prop} (hK : Back l R p e below s args y 3 W9 Pre Post)
    {g : JFrame} (hg : g.method = m) (hsize : g.locals.size = c.maxLocals) {argsL rest : List Value} (hlen : ∀ sig, parseMethodDescriptor y.desc = some sig → argsL.length = sig.parameters.length)
    (hstack : g.stack = argsL.reverse ++ rest) (hW : 2 * g.monitorRoom + (rest.map fun v => v.category).sum ≤ W9) (hdg : decode c.code g.pc = .ok (.invokestatic index, 3))
    (hpre : ∀ vm₁, s.WarmedH vm₁ → Pre ⟨T.setVm vm₁, locs, cells, slots⟩ argsL.toArray) :
    ∃ (v : Option Value) (vm₁ : Vm) (B : Pt), s.WarmedH vm₁ ∧ Stand p l e R s m args below meth c B.U B.locs B.cells B.slots ∧ Post ⟨T.setVm vm₁, locs, cells, slots⟩ argsL.toArray v B ∧
      ∀ target, Steps p.tables e below (B.U.setTop { g with pc := g.pc + 3, stack := v.toList ++ rest }) target → Steps p.tables e below (T.setTop g) target := by
  obtain ⟨mk, methM, cM, hnamed, hmethM, -, -, -, -, -, -, hsigM⟩ := Cond.codeWith_spec hcode
  have hstatic : methM.isStatic = true := Cond.static_spec hnamed hmethM hstat
  obtain ⟨kP, hkP, -⟩ := className_of_methodNamed hnamed
  have hinitP : kP.init = .initialized := Cond.initialized_spec (findClass_of_methodNamed hnamed) hkP hinit
  obtain ⟨vm₁, X₁, hstep₁⟩ := X.invokestatic hexec hown hlink hnamed hmethM hstatic hkP hinitP hy (g := g) hg (argsL := argsL) (rest := rest) (hlen _ hsigM) hstack hdg
  obtain ⟨v, B, X', hpost, hsteps⟩ := hK m meth c ⟨T.setVm vm₁, locs, cells, slots⟩ { g with stack := rest } (.invokestatic index) mk argsL.toArray X₁ hg hsize hdg hW (X₁.named hnamed) (hpre vm₁ X₁.warmed)
  exact ⟨v, vm₁, B, X₁.warmed, X', hpost, fun target h => hstep₁ _ fun acts => by rw [doInvoke_state]; exact hsteps.trans h⟩
theorem vx_runSW {y : MethodName} {bytes cc : ByteArray} {maxL nL mc ms n index : Nat} {ret : Option FieldType} {hh : List (Nat × Nat × Nat × Nat)} {ws : List Cond} {rm : Room} {Pc : Array Value → State → Prop} {Qc : Array Value → State → Outcome → State → Prop} {free : Addr → Prop} {Ts : List Cond} {own : String} {As rest : List Value} {g : JFrame}
    (S : CallFix p m c cc nL s args Ts own) (hM : Met l y ws rm Pc Qc mc ms free) (cw : vx_CSW R s args own index y bytes maxL ret hh ws rm mc ms n) (hp : PreS s H Pc As)
    (hg : g.method = m) (hn : As.length = n) (hsize : g.locals.size = nL) (hstack : g.stack = As.reverse ++ rest) (hW : 2 * g.monitorRoom + (rest.map fun v => v.category).sum ≤ 8) (hdg : decode cc g.pc = .ok (.invokestatic index, 3)) (hf : cells + mc ≤ R.cells ∧ slots + ms ≤ R.slots) :
    va_Run p l e R s m args below meth c H locs cells slots mc ms g rest (Qc As.toArray) (free) := by
  obtain ⟨⟨hrc, hrs, hfr, hlo, hws, hcw⟩, hcode, hini, hy, hlen, hl, hstt⟩ := cw
  have hK : Back l R p e below s args y 3 8 (PreOf R mc ms Pc) (PostOf Qc mc ms free) := va_backW (hh := hh) (bytes := bytes) (maxL := maxL) (ret := ret) hM hp.1 hrc hrs hfr hlo hws hcw (fun a' U hW => word_at hW (Or.inl (by first | rfl | simp [Cond.onTables, Cond.keeps, Cond.steady])) hini)
  obtain ⟨hx, hb, hml, ho, -⟩ := S
  intro T hT X
  obtain ⟨v, vm₁, ⟨U', l2, c2, s2⟩, hW₁, X', ⟨g', mk, t, L, e1, e2, hq, h1, hL, h2, h3⟩, st⟩ := vx_callSW X hx (hh := hh) (bytes := bytes) (maxL := maxL) (ret := ret) ho hl hstt hini hcode hy hK hg (hsize.trans hml.symm) (argsL := As) (rest := rest) (fun sig h => hn.trans (hlen sig h)) hstack hW (by rw [hb]; exact hdg)
    (fun vm₁ hW₁ => ⟨hf.1, hf.2, hp.2 (T.setVm vm₁) hT hW₁⟩)
  dsimp only [Pt.U, Pt.locs, Pt.cells, Pt.slots] at X' e1 e2 h1 h2 h3 st
  subst h1; subst h2; subst h3
  exact ⟨v, (T.setVm vm₁).calling g' mk As.toArray, t, U', L, hT, X', hL, e1, e2, hq, st⟩
/-- not caught here, past rows that name other classes: it goes on to the caller -/
theorem vx_outP {p : Program} {l : Launch} {e : Env} {R : Room} {s : State} {m : MethodId} {args : Array Value} {below : List Frame} {meth : Method} {c : Code} {H : Heap} {locs : List Loc} {cells slots : Nat} {free : Addr → Prop} {ls : Array Slot} {rest : List Value} {Qc : Array Value → State → Outcome → State → Prop} {XC : String → State → State → Prop}
    {pc : Nat} {own E : String} {ce : Cell} {q : Addr} {mc ms : Nat} (hown : s.vm.findClass own = some m.cls) (hlocks : meth.locks = false)
    (hpass : ∀ z ∈ c.exceptionTable.toList, covers z pc = false ∨ (z.catchType ≠ 0 ∧ ∃ nm : String, (Cond.classLink own z.catchType nm).before args s = true ∧ va_Nc E nm s)) (hcell : H[q]? = some ce) (hv : ce.vm = .none) (hcl : s.vm.findClass E = some ce.cls)
    (hx : ∀ t : State, t.heap = H → s.vm.Alike t.vm → XC E s t) (hf : ∀ z ∈ locs, free z.base) (hc : cells ≤ mc) (hs : slots ≤ ms) :
    vx_W p l e R s m args below meth c H locs cells slots (vx_MQ below Qc XC args s mc ms free) (F0 m pc ls rest) q := by
  intro T hT X
  have hpl : e.platform.magicAccessors = ({} : Platform).magicAccessors := by rw [X.admits.platform]
  obtain ⟨vm', hW', X', st⟩ := X.outThrough hlocks q (g := F0 m pc ls rest) rfl rfl rfl (cell := ce) (by rw [hT]; exact hcell) (by rw [hv]; rfl)
    (by obtain ⟨k9, h9, -⟩ := Vm.findClass_spec hcl; exact ⟨k9, h9⟩) (fun z hz => by
      rcases hpass z hz with h | ⟨hz0, nm, hl1, hn1⟩
      · exact Or.inl h
      · obtain ⟨c6, hc6, hcl6⟩ := Cond.classLink_spec hown hl1 e.platform hpl
        obtain ⟨a8, b8, h1, h2, h3⟩ := hn1
        cases Option.some.inj (h1.symm.trans hcl)
        cases Option.some.inj (h2.symm.trans hc6)
        exact Or.inr ⟨hz0, _, hcl6, h3⟩)
  obtain ⟨g₀, hfr⟩ := X'.frames_eq
  have hcell9 : ((T.setVm vm').setFrames (.throwing q :: below)).heap[q]? = some ce := by
    show T.heap[q]? = some ce
    rw [hT]; exact hcell
  have hend : Ended ((T.setVm vm').setFrames (.throwing q :: below)) below (.threw q) := State.frames_setFrames _ (State.cur_lt_of_frames hfr)
  refine ⟨(T.setVm vm').setFrames (.throwing q :: below), ?_, .threw q, X'.here.running, hend, Or.inr ⟨q, rfl, E, ce, locs, hx _ hT (X'.ends _).1.alike, hcell9, hv, hcl, (X'.ends _).1, (X'.ends _).2.mono hc hs, hf⟩⟩
  rw [X.pushThrowing_eq]
  exact st
/-- a thing of a world lies in the heap -/
theorem vx_lt {D : va_G} {cl : List vw_C} {ws : va_W} {H1 : Heap} (h : va_P D cl ws H1) {k : Nat} {q : Nat × va_E} (hk : ws[k]? = some q) : q.1 < H1.size := (h k q hk).lt
end VXS
/-! ===== END ===== -/
/-! ===== BEGIN methods with a table of their own: called by a name, returning or throwing ===== -/
section VXH
/-! vx_backW, vx_callVX, vx_callSX, vx_callVW, vx_runVW, vx_runVX, vx_runSX, vx_ofWH follow the same proofs as their sisters above (Free/Laws.lean, Shelf42/LK1.lean); vx_outP calls Shelf42/NT130.lean (outThrough). -/
section
variable {l : Launch} {R : Room} {p : Program} {e : Env} {below : List Frame} {s : State} {sargs : Array Value} {y : MethodName} {len W9 : Nat}
theorem vx_backW {ws : List Cond} {rm : Room} {Pc : Array Value → State → Prop} {Qc : Array Value → State → Outcome → State → Prop} {XC : String → State → State → Prop} {mc ms : Nat} {free : Addr → Prop} {bytes : ByteArray} {maxL : Nat} {ret : Option FieldType} {hh : List (Nat × Nat × Nat × Nat)}
    (hM : vx_Met l y ws rm Pc Qc XC mc ms free) (hblind : FrameBlind Pc) (hrc : rm.cells = mc) (hrs : rm.slots = ms)
    (hframes : rm.frames + 1 ≤ R.frames) (hlocals : W9 + (maxL + 11) + rm.locals ≤ R.locals)
    (hws : ∀ w ∈ ws, ∀ a' U, s.WarmedH U.vm → w.before a' U = true) (hcode : Cond.codeWith y bytes maxL ret hh ∈ ws) (hinit : ∀ a' U, s.WarmedH U.vm → (Cond.initialized y.cls).before a' U = true) :
    vx_Back l R p e below s sargs y len W9 (PreOf R mc ms Pc) (PostOf Qc mc ms free) (vx_Post XC mc ms free) := by
  intro m meth c A g ig mk a X hg hsize hdg hW hn hp
  have h1 : (headSpec ws rm).pre.before a A.U = true := atoms_intro fun w hw => hws w hw _ _ X.warmed
  have h2 : (Cond.codeWith y bytes maxL ret hh).before a A.U = true := hws _ hcode _ _ X.warmed
  have h3 : (Cond.initialized y.cls).before a A.U = true := hinit _ _ X.warmed
  have h4 : A.cells + (headSpec ws rm).room.cells ≤ R.cells := by rw [show (headSpec ws rm).room.cells = mc from hrc]; exact hp.1
  have h5 : A.slots + (headSpec ws rm).room.slots ≤ R.slots := by rw [show (headSpec ws rm).room.slots = ms from hrs]; exact hp.2.1
  have hPc : Pc a (A.U.calling g mk a) := hblind _ _ _ _ hp.2.2
  obtain ⟨U, Ls, c0, s0⟩ := A
  dsimp only [Pt.U, Pt.locs, Pt.cells, Pt.slots] at h1 h2 h3 h4 h5 X hn hPc ⊢
  obtain ⟨m9, methY, cY, hn9, hmY, hcY, -, hlY, -⟩ := Cond.codeWith_spec h2
  cases Option.some.inj (hn9.symm.trans hn)
  obtain ⟨kY, hkY, -⟩ := className_of_methodNamed hn
  have hinitY : kY.init = .initialized := Cond.initialized_spec (findClass_of_methodNamed hn) hkY h3
  have h : At U g.method c below := by rw [hg]; exact X.here
  have hlocals9 : W9 + (maxL + 11) + (headSpec ws rm).room.locals ≤ R.locals := hlocals
  have happ : (headSpec ws rm).appliesLoose y e.platform (U.calling g mk a) = true :=
    Spec.appliesLoose_calling (g := g) h hdg hn hkY hinitY
      (X.room_calling (g := g) (R' := (headSpec ws rm).room) hsize hmY hcY hframes (by rw [hlY]; omega) h4 h5) h1
  obtain ⟨mid, hmid⟩ := h.above
  have hfr : (U.setTop g).frames = (.java g :: mid) ++ below := by rw [State.frames_setTop' g h.top, hmid]; rfl
  obtain ⟨o, s₂, hsteps, -, hend, hq⟩ := Steps.callFree hM p X.admits X.cas X.clock (acts := []) hfr happ hPc trivial
  have hq' : vx_Q Qc XC mc ms free a (U.calling g mk a) o s₂ := hq
  rw [State.frames_setTop' g h.top] at hend
  obtain ⟨g₀, hg0⟩ := Option.isSome_iff_exists.mp h.top
  obtain ⟨r, hr⟩ := State.topJava?_eq_some.mp hg0
  have hr' : (({ U with heap := s₂.heap, slotsUsed := s₂.slotsUsed } : State).setVm s₂.vm).frames = .java g₀ :: r := hr
  rcases hq' with ⟨hqc, L, hfe, hL⟩ | ⟨q, rfl, E, ce, L, hx, hce, hcv, hcl, hW₂, hsm, hL⟩
  · obtain ⟨⟨v, rfl⟩, hW₂, e2, q2, q3, q4, q5, q6⟩ := id hfe
    have e3 : s₂ = ({ (U.calling g mk a).setFrames s₂.frames with heap := s₂.heap, slotsUsed := s₂.slotsUsed } : State).setVm s₂.vm := by
      have : s₂ = ({ s₂ with vm := (U.calling g mk a).vm } : State).setVm s₂.vm := rfl
      rw [e2] at this
      exact this
    obtain ⟨c₂, i₂, len₂, hc₂, hd₂, hf₂⟩ := hend
    have hW' : U.WarmedH s₂.vm := hW₂
    have hcc : c₂ = c := by
      have h1 : s₂.code? g.method = U.code? g.method := by
        rw [State.code?_eq, State.code?_eq, hW'.alike.method?]
      exact Option.some.inj (hc₂.symm.trans (h1.trans h.code))
    subst hcc
    have hlen : len₂ = len := by rw [hdg] at hd₂; cases hd₂; rfl
    subst hlen
    have hs₂ : s₂ = (({ U with heap := s₂.heap, slotsUsed := s₂.slotsUsed } : State).setVm s₂.vm).setTop { g with pc := g.pc + len₂, stack := v.toList ++ g.stack } := by
      refine e3.trans ?_
      rw [hf₂, State.calling_eq h.top, State.setFrames_setFrames, State.setTop_of_frames _ hr', hr]
      rfl
    have hsame : U.sameButNew ({ U with heap := s₂.heap, slotsUsed := s₂.slotsUsed } : State) L mc ms := by
      refine ⟨?_, q2, q3, q4, q5, q6⟩
      obtain ⟨t, ht, -⟩ := State.frames_cons hr
      show ({ U with heap := s₂.heap, slotsUsed := s₂.slotsUsed } : State) = { U.setFrames U.frames with heap := s₂.heap, slotsUsed := s₂.slotsUsed }
      rw [State.setFrames_self ht]
    subst hg
    refine Or.inl ⟨v, ⟨(({ U with heap := s₂.heap, slotsUsed := s₂.slotsUsed } : State).setVm s₂.vm), Ls ++ L, c0 + mc, s0 + ms⟩,
      ⟨X.admits, X.cas, X.clock, X.frames, X.room, X.hears, X.method, X.code, (X.here.setHeapUsed s₂.heap s₂.slotsUsed).setVm hW'.alike, X.tail, State.WarmedH.trans X.warmed hW', X.limits, X.bytes, X.same.trans (hsame.setVm s.vm)⟩,
      ⟨g, mk, s₂, L, rfl, rfl, hqc, rfl, hL, rfl, rfl⟩, ?_⟩
    show Steps p.tables e below _ ((({ U with heap := s₂.heap, slotsUsed := s₂.slotsUsed } : State).setVm s₂.vm).setTop { g with pc := g.pc + len₂, stack := v.toList ++ g.stack })
    rw [← hs₂]
    exact hsteps
  · obtain ⟨e2, q2, q3, q4, q5, q6⟩ := id hsm
    have e3 : s₂ = ({ (U.calling g mk a).setFrames s₂.frames with heap := s₂.heap, slotsUsed := s₂.slotsUsed } : State).setVm s₂.vm := by
      have : s₂ = ({ s₂ with vm := (U.calling g mk a).vm } : State).setVm s₂.vm := rfl
      rw [e2] at this
      exact this
    have hf₂ : s₂.frames = .throwing q :: .java g :: U.frames.tail := hend
    have hW' : U.WarmedH s₂.vm := hW₂
    have hs₂ : s₂ = ((({ U with heap := s₂.heap, slotsUsed := s₂.slotsUsed } : State).setVm s₂.vm).setTop g).pushFrame (.throwing q) := by
      refine e3.trans ?_
      rw [hf₂, State.calling_eq h.top, State.setFrames_setFrames, State.pushFrame, State.frames_setTop _ hr', State.setTop_of_frames _ hr', State.setFrames_setFrames, hr]
      rfl
    have hsame : U.sameButNew ({ U with heap := s₂.heap, slotsUsed := s₂.slotsUsed } : State) L mc ms := by
      refine ⟨?_, q2, q3, q4, q5, q6⟩
      obtain ⟨t, ht, -⟩ := State.frames_cons hr
      show ({ U with heap := s₂.heap, slotsUsed := s₂.slotsUsed } : State) = { U.setFrames U.frames with heap := s₂.heap, slotsUsed := s₂.slotsUsed }
      rw [State.setFrames_self ht]
    subst hg
    refine Or.inr ⟨q, ⟨(({ U with heap := s₂.heap, slotsUsed := s₂.slotsUsed } : State).setVm s₂.vm), Ls ++ L, c0 + mc, s0 + ms⟩,
      ⟨X.admits, X.cas, X.clock, X.frames, X.room, X.hears, X.method, X.code, (X.here.setHeapUsed s₂.heap s₂.slotsUsed).setVm hW'.alike, X.tail, State.WarmedH.trans X.warmed hW', X.limits, X.bytes, X.same.trans (hsame.setVm s.vm)⟩,
      ⟨g, mk, s₂, L, E, ce, rfl, rfl, hx, hce, hcv, hcl, rfl, hL, rfl, rfl⟩, ?_⟩
    show Steps p.tables e below _ (((({ U with heap := s₂.heap, slotsUsed := s₂.slotsUsed } : State).setVm s₂.vm).setTop g).pushFrame (.throwing q))
    rw [← hs₂]
    exact hsteps
end
variable {p : Program} {l : Launch} {e : Env} {R : Room} {s : State} {m : MethodId} {args : Array Value} {below : List Frame} {meth : Method} {c : Code} {T : State} {H : Heap} {locs : List Loc} {cells slots : Nat}
theorem vx_callVX (X : Stand p l e R s m args below meth c T locs cells slots) (hexec : p.tables.exec = Jvm.exec) {own C : String} {index : Nat} {y : MethodName} {bytes : ByteArray} {maxL : Nat} {ret : Option FieldType} {hh : List (Nat × Nat × Nat × Nat)}
    (hown : s.vm.findClass own = some m.cls) (hlink : (Cond.methodLink own index y).before args s = true) (hinst : (Cond.instanceMethod y).before args s = true) (hsel : (Cond.selects C y y).before args s = true)
    (hcode : (Cond.codeWith y bytes maxL ret hh).before args s = true) (hy : y.cls ≠ "java/lang/invoke/MethodHandle" ∧ y.cls ≠ "java/lang/invoke/VarHandle")
    {W9 : Nat} {Pre : Pt → Array Value → Prop} {Post : Pt → Array Value → Option Value → Pt → Prop} {PostX : Pt → Array Value → Addr → Pt → Prop} (hK : vx_Back l R p e below s args y 3 W9 Pre Post PostX)
    {b : Addr} {cellB : Cell} (hcell : T.heap[b]? = some cellB) (hobj : cellB.vm.isStatics = false) (hcls : s.vm.findClass C = some cellB.cls)
    {g : JFrame} (hg : g.method = m) (hsize : g.locals.size = c.maxLocals) {argsL rest : List Value} (hlen : ∀ sig, parseMethodDescriptor y.desc = some sig → argsL.length = sig.parameters.length)
    (hstack : g.stack = argsL.reverse ++ .ref b :: rest) (hW : 2 * g.monitorRoom + (rest.map fun v => v.category).sum ≤ W9) (hdg : decode c.code g.pc = .ok (.invokevirtual index, 3))
    (hpre : ∀ vm₁, s.WarmedH vm₁ → Pre ⟨T.setVm vm₁, locs, cells, slots⟩ (Value.ref b :: argsL).toArray) :
    (∃ (v : Option Value) (vm₁ : Vm) (B : Pt), s.WarmedH vm₁ ∧ Stand p l e R s m args below meth c B.U B.locs B.cells B.slots ∧ Post ⟨T.setVm vm₁, locs, cells, slots⟩ (Value.ref b :: argsL).toArray v B ∧
      ∀ target, Steps p.tables e below (B.U.setTop { g with pc := g.pc + 3, stack := v.toList ++ rest }) target → Steps p.tables e below (T.setTop g) target) ∨
    (∃ (q : Addr) (vm₁ : Vm) (B : Pt), s.WarmedH vm₁ ∧ Stand p l e R s m args below meth c B.U B.locs B.cells B.slots ∧ PostX ⟨T.setVm vm₁, locs, cells, slots⟩ (Value.ref b :: argsL).toArray q B ∧
      Steps p.tables e below (T.setTop g) ((B.U.setTop { g with stack := rest }).pushFrame (.throwing q))) := by
  obtain ⟨mk, methM, hnamed, hmethM, hstM, habM⟩ := Cond.instanceMethod_spec hinst
  obtain ⟨m8, methM', cM, hn8, hmethM', -, -, -, -, -, -, hsigM⟩ := Cond.codeWith_spec hcode
  cases Option.some.inj (hn8.symm.trans hnamed)
  cases hmethM.symm.trans hmethM'
  obtain ⟨c2, r2, m2, q1, q2, q3, q4, kP, hkP, hkPi⟩ := Cond.selects_spec hsel
  cases hcls.symm.trans q1
  cases (State.methodFound?_of_named hnamed hy).symm.trans q2
  cases hnamed.symm.trans q3
  have hselP : selectMethod e.platform s.vm cellB.cls mk = .method mk := by rw [Launch.admits_selectMethod X.admits]; exact q4
  obtain ⟨vm₁, X₁, hstep₁⟩ := X.invokevirtual hexec hown hlink hnamed hmethM hstM hkP hkPi hy (a := b) (cell := cellB) hcell
    (fun z h => by rw [h] at hobj; cases hobj) hselP hmethM habM hkP hkPi (g := g) hg (argsL := argsL) (rest := rest) (hlen _ hsigM) hstack hdg
  rcases hK m meth c ⟨T.setVm vm₁, locs, cells, slots⟩ { g with stack := rest } (.invokevirtual index) mk (Value.ref b :: argsL).toArray X₁ hg hsize hdg hW (X₁.named hnamed) (hpre vm₁ X₁.warmed) with ⟨v, B, X', hpost, hsteps⟩ | ⟨q, B, X', hpost, hsteps⟩
  · exact Or.inl ⟨v, vm₁, B, X₁.warmed, X', hpost, fun target h => hstep₁ _ fun acts => by rw [doInvoke_state]; exact hsteps.trans h⟩
  · exact Or.inr ⟨q, vm₁, B, X₁.warmed, X', hpost, hstep₁ _ fun acts => by rw [doInvoke_state]; exact hsteps⟩
theorem vx_callSX (X : Stand p l e R s m args below meth c T locs cells slots) (hexec : p.tables.exec = Jvm.exec) {own : String} {index : Nat} {y : MethodName} {bytes : ByteArray} {maxL : Nat} {ret : Option FieldType} {hh : List (Nat × Nat × Nat × Nat)}
    (hown : s.vm.findClass own = some m.cls) (hlink : (Cond.methodLink own index y).before args s = true) (hstat : (Cond.static y).before args s = true) (hinit : (Cond.initialized y.cls).before args s = true)
    (hcode : (Cond.codeWith y bytes maxL ret hh).before args s = true) (hy : y.cls ≠ "java/lang/invoke/MethodHandle" ∧ y.cls ≠ "java/lang/invoke/VarHandle")
    {W9 : Nat} {Pre : Pt → Array Value → Prop} {Post : Pt → Array Value → Option Value → Pt → Prop} {PostX : Pt → Array Value → Addr → Pt → Prop} (hK : vx_Back l R p e below s args y 3 W9 Pre Post PostX)
    {g : JFrame} (hg : g.method = m) (hsize : g.locals.size = c.maxLocals) {argsL rest : List Value} (hlen : ∀ sig, parseMethodDescriptor y.desc = some sig → argsL.length = sig.parameters.length)
    (hstack : g.stack = argsL.reverse ++ rest) (hW : 2 * g.monitorRoom + (rest.map fun v => v.category).sum ≤ W9) (hdg : decode c.code g.pc = .ok (.invokestatic index, 3))
    (hpre : ∀ vm₁, s.WarmedH vm₁ → Pre ⟨T.setVm vm₁, locs, cells, slots⟩ argsL.toArray) :
    (∃ (v : Option Value) (vm₁ : Vm) (B : Pt), s.WarmedH vm₁ ∧ Stand p l e R s m args below meth c B.U B.locs B.cells B.slots ∧ Post ⟨T.setVm vm₁, locs, cells, slots⟩ argsL.toArray v B ∧
      ∀ target, Steps p.tables e below (B.U.setTop { g with pc := g.pc + 3, stack := v.toList ++ rest }) target → Steps p.tables e below (T.setTop g) target) ∨
    (∃ (q : Addr) (vm₁ : Vm) (B : Pt), s.WarmedH vm₁ ∧ Stand p l e R s m args below meth c B.U B.locs B.cells B.slots ∧ PostX ⟨T.setVm vm₁, locs, cells, slots⟩ argsL.toArray q B ∧
      Steps p.tables e below (T.setTop g) ((B.U.setTop { g with stack := rest }).pushFrame (.throwing q))) := by
  obtain ⟨mk, methM, cM, hnamed, hmethM, -, -, -, -, -, -, hsigM⟩ := Cond.codeWith_spec hcode
  have hstatic : methM.isStatic = true := Cond.static_spec hnamed hmethM hstat
  obtain ⟨kP, hkP, -⟩ := className_of_methodNamed hnamed
  have hinitP : kP.init = .initialized := Cond.initialized_spec (findClass_of_methodNamed hnamed) hkP hinit
  obtain ⟨vm₁, X₁, hstep₁⟩ := X.invokestatic hexec hown hlink hnamed hmethM hstatic hkP hinitP hy (g := g) hg (argsL := argsL) (rest := rest) (hlen _ hsigM) hstack hdg
  rcases hK m meth c ⟨T.setVm vm₁, locs, cells, slots⟩ { g with stack := rest } (.invokestatic index) mk argsL.toArray X₁ hg hsize hdg hW (X₁.named hnamed) (hpre vm₁ X₁.warmed) with ⟨v, B, X', hpost, hsteps⟩ | ⟨q, B, X', hpost, hsteps⟩
  · exact Or.inl ⟨v, vm₁, B, X₁.warmed, X', hpost, fun target h => hstep₁ _ fun acts => by rw [doInvoke_state]; exact hsteps.trans h⟩
  · exact Or.inr ⟨q, vm₁, B, X₁.warmed, X', hpost, hstep₁ _ fun acts => by rw [doInvoke_state]; exact hsteps⟩
theorem vx_callVW (X : Stand p l e R s m args below meth c T locs cells slots) (hexec : p.tables.exec = Jvm.exec) {own C : String} {index : Nat} {y : MethodName} {bytes : ByteArray} {maxL : Nat} {ret : Option FieldType} {hh : List (Nat × Nat × Nat × Nat)}
    (hown : s.vm.findClass own = some m.cls) (hlink : (Cond.methodLink own index y).before args s = true) (hinst : (Cond.instanceMethod y).before args s = true) (hsel : (Cond.selects C y y).before args s = true)
    (hcode : (Cond.codeWith y bytes maxL ret hh).before args s = true) (hy : y.cls ≠ "java/lang/invoke/MethodHandle" ∧ y.cls ≠ "java/lang/invoke/VarHandle")
    {W9 : Nat} {Pre : Pt → Array Value → Prop} {Post : Pt → Array Value → Option Value → Pt → Prop} (hK : Back l R p e below s args y 3 W9 Pre Post)
    {b : Addr} {cellB : Cell} (hcell : T.heap[b]? = some cellB) (hobj : cellB.vm.isStatics = false) (hcls : s.vm.findClass C = some cellB.cls)
    {g : JFrame} (hg : g.method = m) (hsize : g.locals.size = c.maxLocals) {argsL rest : List Value} (hlen : ∀ sig, parseMethodDescriptor y.desc = some sig → argsL.length = sig.parameters.length)
    (hstack : g.stack = argsL.reverse ++ .ref b :: rest) (hW : 2 * g.monitorRoom + (rest.map fun v => v.category).sum ≤ W9) (hdg : decode c.code g.pc = .ok (.invokevirtual index, 3))
    (hpre : ∀ vm₁, s.WarmedH vm₁ → Pre ⟨T.setVm vm₁, locs, cells, slots⟩ (Value.ref b :: argsL).toArray) :
    ∃ (v : Option Value) (vm₁ : Vm) (B : Pt), s.WarmedH vm₁ ∧ Stand p l e R s m args below meth c B.U B.locs B.cells B.slots ∧ Post ⟨T.setVm vm₁, locs, cells, slots⟩ (Value.ref b :: argsL).toArray v B ∧
      ∀ target, Steps p.tables e below (B.U.setTop { g with pc := g.pc + 3, stack := v.toList ++ rest }) target → Steps p.tables e below (T.setTop g) target := by
  obtain ⟨mk, methM, hnamed, hmethM, hstM, habM⟩ := Cond.instanceMethod_spec hinst
  obtain ⟨m8, methM', cM, hn8, hmethM', -, -, -, -, -, -, hsigM⟩ := Cond.codeWith_spec hcode
  cases Option.some.inj (hn8.symm.trans hnamed)
  cases hmethM.symm.trans hmethM'
  obtain ⟨c2, r2, m2, q1, q2, q3, q4, kP, hkP, hkPi⟩ := Cond.selects_spec hsel
  cases hcls.symm.trans q1
  cases (State.methodFound?_of_named hnamed hy).symm.trans q2
  cases hnamed.symm.trans q3
  have hselP : selectMethod e.platform s.vm cellB.cls mk = .method mk := by rw [Launch.admits_selectMethod X.admits]; exact q4
  obtain ⟨vm₁, X₁, hstep₁⟩ := X.invokevirtual hexec hown hlink hnamed hmethM hstM hkP hkPi hy (a := b) (cell := cellB) hcell
    (fun z h => by rw [h] at hobj; cases hobj) hselP hmethM habM hkP hkPi (g := g) hg (argsL := argsL) (rest := rest) (hlen _ hsigM) hstack hdg
  obtain ⟨v, B, X', hpost, hsteps⟩ := hK m meth c ⟨T.setVm vm₁, locs, cells, slots⟩ { g with stack := rest } (.invokevirtual index) mk (Value.ref b :: argsL).toArray X₁ hg hsize hdg hW (X₁.named hnamed) (hpre vm₁ X₁.warmed)
  exact ⟨v, vm₁, B, X₁.warmed, X', hpost, fun target h => hstep₁ _ fun acts => by rw [doInvoke_state]; exact hsteps.trans h⟩
abbrev vx_CVW (R : Room) (s : State) (args : Array Value) (own C : String) (index : Nat) (y : MethodName) (bytes : ByteArray) (maxL : Nat) (ret : Option FieldType) (hh : List (Nat × Nat × Nat × Nat)) (ws : List Cond) (rm : Room) (mc ms n : Nat) : Prop :=
  (rm.cells = mc ∧ rm.slots = ms ∧ rm.frames + 1 ≤ R.frames ∧ 8 + (maxL + 11) + rm.locals ≤ R.locals ∧ (∀ w ∈ ws, ∀ (a' : Array Value) (U : State), s.WarmedH U.vm → w.before a' U = true) ∧ Cond.codeWith y bytes maxL ret hh ∈ ws) ∧
  (Cond.codeWith y bytes maxL ret hh).before args s = true ∧ (Cond.initialized y.cls).before args s = true ∧ (y.cls ≠ "java/lang/invoke/MethodHandle" ∧ y.cls ≠ "java/lang/invoke/VarHandle") ∧
  (∀ sig, parseMethodDescriptor y.desc = some sig → n = sig.parameters.length) ∧ (Cond.methodLink own index y).before args s = true ∧ (Cond.instanceMethod y).before args s = true ∧ (Cond.selects C y y).before args s = true
theorem vx_cwVW {own C : String} {index maxL mc ms : Nat} {y : MethodName} {bytes : ByteArray} {ret : Option FieldType} {hh : List (Nat × Nat × Nat × Nat)} {Ts ws ws' : List Cond} {rm : Room} (n : Nat) (ht : ∀ w ∈ Ts, w.before args s = true) (hT : GoodIn Ts (wsV own index C y ws)) (hw : ws = Cond.codeWith y bytes maxL ret hh :: ws') (hrc : rm.cells = mc) (hrs : rm.slots = ms)
    (hd : y.cls = C ∧ y.cls ≠ "java/lang/invoke/MethodHandle" ∧ y.cls ≠ "java/lang/invoke/VarHandle" ∧ (parseMethodDescriptor y.desc).map (fun d => d.parameters.length) = some n) (hR : rm.frames + 1 ≤ R.frames ∧ 8 + (maxL + 11) + rm.locals ≤ R.locals) :
    vx_CVW R s args own C index y bytes maxL ret hh ws rm mc ms n := by
  obtain ⟨hC, hd⟩ := hd
  subst hC
  have ok : ∀ w ∈ wsV own index y.cls y ws, w.before args s = true := fun w h => ht w (hT w h).1
  have hG : GoodIn Ts ws := fun w h => hT w (by unfold wsV; exact List.mem_append_right _ h)
  have hc : Cond.codeWith y bytes maxL ret hh ∈ ws := by rw [hw]; exact List.mem_cons_self
  refine ⟨⟨hrc, hrs, hR.1, hR.2, pay_in ht hG, hc⟩, ht _ (hG _ hc).1, ok _ (by simp [wsV]), ⟨hd.1, hd.2.1⟩, fun sig h => ?_, ok _ (by simp [wsV]), ok _ (by simp [wsV]), ok _ (by simp [wsV])⟩
  have h2 := hd.2.2
  rw [h] at h2
  exact (Option.some.inj h2).symm
theorem vx_runVW {y : MethodName} {bytes cc : ByteArray} {maxL nL mc ms n index : Nat} {ret : Option FieldType} {hh : List (Nat × Nat × Nat × Nat)} {ws : List Cond} {rm : Room} {Pc : Array Value → State → Prop} {Qc : Array Value → State → Outcome → State → Prop} {free : Addr → Prop} {Ts : List Cond} {own C : String} {b : Addr} {As rest : List Value} {g : JFrame}
    (S : CallFix p m c cc nL s args Ts own) (hM : Met l y ws rm Pc Qc mc ms free) (cw : vx_CVW R s args own C index y bytes maxL ret hh ws rm mc ms n) (hp : PreV s H C b Pc As)
    (hg : g.method = m) (hn : As.length = n) (hsize : g.locals.size = nL) (hstack : g.stack = As.reverse ++ .ref b :: rest) (hW : 2 * g.monitorRoom + (rest.map fun v => v.category).sum ≤ 8) (hdg : decode cc g.pc = .ok (.invokevirtual index, 3)) (hf : cells + mc ≤ R.cells ∧ slots + ms ≤ R.slots) :
    va_Run p l e R s m args below meth c H locs cells slots mc ms g rest (Qc (Value.ref b :: As).toArray) free := by
  obtain ⟨⟨hrc, hrs, hfr, hlo, hws, hcw⟩, hcode, hini, hy, hlen, hl, hin, hse⟩ := cw
  have hK : Back l R p e below s args y 3 8 (PreOf R mc ms Pc) (PostOf Qc mc ms free) := va_backW (hh := hh) (bytes := bytes) (maxL := maxL) (ret := ret) hM hp.1 hrc hrs hfr hlo hws hcw (fun a' U hW => word_at hW (Or.inl (by first | rfl | simp [Cond.onTables, Cond.keeps, Cond.steady])) hini)
  obtain ⟨hx, hb, hml, ho, -⟩ := S
  obtain ⟨-, ⟨cellB, hcB, hoB, hclB⟩, hPc⟩ := hp
  intro T hT X
  obtain ⟨v, vm₁, ⟨U', l2, c2, s2⟩, hW₁, X', ⟨g', mk, t, L, e1, e2, hq, h1, hL, h2, h3⟩, st⟩ := vx_callVW X hx (C := C) (hh := hh) (bytes := bytes) (maxL := maxL) (ret := ret) ho hl hin hse hcode hy hK (by rw [hT]; exact hcB) hoB hclB hg (hsize.trans hml.symm) (argsL := As) (rest := rest) (fun sig h => hn.trans (hlen sig h)) hstack hW (by rw [hb]; exact hdg)
    (fun vm₁ hW₁ => ⟨hf.1, hf.2, hPc (T.setVm vm₁) hT hW₁⟩)
  dsimp only [Pt.U, Pt.locs, Pt.cells, Pt.slots] at X' e1 e2 h1 h2 h3 st
  subst h1; subst h2; subst h3
  exact ⟨v, (T.setVm vm₁).calling g' mk (Value.ref b :: As).toArray, t, U', L, hT, X', hL, e1, e2, hq, st⟩
section
variable {y : MethodName} {bytes cc : ByteArray} {maxL nL mc ms n index : Nat} {ret : Option FieldType} {ws : List Cond} {rm : Room} {Pc : Array Value → State → Prop} {Qc : Array Value → State → Outcome → State → Prop} {XC : String → State → State → Prop} {free : Addr → Prop} {Ts : List Cond} {own C : String} {b : Addr} {As rest : List Value} {g : JFrame}
theorem vx_runVX {hh : List (Nat × Nat × Nat × Nat)} (S : CallFix p m c cc nL s args Ts own) (hM : vx_Met l y ws rm Pc Qc XC mc ms free) (cw : vx_CVW R s args own C index y bytes maxL ret hh ws rm mc ms n) (hp : PreV s H C b Pc As)
    (hg : g.method = m) (hn : As.length = n) (hsize : g.locals.size = nL) (hstack : g.stack = As.reverse ++ .ref b :: rest) (hW : 2 * g.monitorRoom + (rest.map fun v => v.category).sum ≤ 8) (hdg : decode cc g.pc = .ok (.invokevirtual index, 3)) (hf : cells + mc ≤ R.cells ∧ slots + ms ≤ R.slots) :
    vx_Run p l e R s m args below meth c H locs cells slots mc ms g rest (Qc (Value.ref b :: As).toArray) XC free := by
  obtain ⟨⟨hrc, hrs, hfr, hlo, hws, hcw⟩, hcode, hini, hy, hlen, hl, hin, hse⟩ := cw
  have hK : vx_Back l R p e below s args y 3 8 (PreOf R mc ms Pc) (PostOf Qc mc ms free) (vx_Post XC mc ms free) := vx_backW (hh := hh) (bytes := bytes) (maxL := maxL) (ret := ret) hM hp.1 hrc hrs hfr hlo hws hcw (fun a' U hW => word_at hW (Or.inl (by first | rfl | simp [Cond.onTables, Cond.keeps, Cond.steady])) hini)
  obtain ⟨hx, hb, hml, ho, -⟩ := S
  obtain ⟨-, ⟨cellB, hcB, hoB, hclB⟩, hPc⟩ := hp
  intro T hT X
  rcases vx_callVX X hx (C := C) (hh := hh) (bytes := bytes) (maxL := maxL) (ret := ret) ho hl hin hse hcode hy hK (by rw [hT]; exact hcB) hoB hclB hg (hsize.trans hml.symm) (argsL := As) (rest := rest) (fun sig h => hn.trans (hlen sig h)) hstack hW (by rw [hb]; exact hdg)
    (fun vm₁ hW₁ => ⟨hf.1, hf.2, hPc (T.setVm vm₁) hT hW₁⟩) with ⟨v, vm₁, ⟨U', l2, c2, s2⟩, hW₁, X', ⟨g', mk, t, L, e1, e2, hq, h1, hL, h2, h3⟩, st⟩ | ⟨q, vm₁, ⟨U', l2, c2, s2⟩, hW₁, X', ⟨g', mk, t, L, E, ce, e1, e2, hq, hce, hcv, hcl, h1, hL, h2, h3⟩, st⟩
  · dsimp only [Pt.U, Pt.locs, Pt.cells, Pt.slots] at X' e1 e2 h1 h2 h3 st
    subst h1; subst h2; subst h3
    exact Or.inl ⟨v, (T.setVm vm₁).calling g' mk (Value.ref b :: As).toArray, t, U', L, hT, X', hL, e1, e2, hq, st⟩
  · dsimp only [Pt.U, Pt.locs, Pt.cells, Pt.slots] at X' e1 e2 h1 h2 h3 st hcl
    subst h1; subst h2; subst h3
    exact Or.inr ⟨q, (T.setVm vm₁).calling g' mk (Value.ref b :: As).toArray, t, U', L, E, ce, hT, X', hL, e1, e2, hq, hce, hcv, vx_cls hW₁ hcl, st⟩
theorem vx_runSX {hh : List (Nat × Nat × Nat × Nat)} (S : CallFix p m c cc nL s args Ts own) (hM : vx_Met l y ws rm Pc Qc XC mc ms free) (cw : vx_CSW R s args own index y bytes maxL ret hh ws rm mc ms n) (hp : PreS s H Pc As)
    (hg : g.method = m) (hn : As.length = n) (hsize : g.locals.size = nL) (hstack : g.stack = As.reverse ++ rest) (hW : 2 * g.monitorRoom + (rest.map fun v => v.category).sum ≤ 8) (hdg : decode cc g.pc = .ok (.invokestatic index, 3)) (hf : cells + mc ≤ R.cells ∧ slots + ms ≤ R.slots) :
    vx_Run p l e R s m args below meth c H locs cells slots mc ms g rest (Qc As.toArray) XC free := by
  obtain ⟨⟨hrc, hrs, hfr, hlo, hws, hcw⟩, hcode, hini, hy, hlen, hl, hstt⟩ := cw
  have hK : vx_Back l R p e below s args y 3 8 (PreOf R mc ms Pc) (PostOf Qc mc ms free) (vx_Post XC mc ms free) := vx_backW (hh := hh) (bytes := bytes) (maxL := maxL) (ret := ret) hM hp.1 hrc hrs hfr hlo hws hcw (fun a' U hW => word_at hW (Or.inl (by first | rfl | simp [Cond.onTables, Cond.keeps, Cond.steady])) hini)
  obtain ⟨hx, hb, hml, ho, -⟩ := S
  intro T hT X
  rcases vx_callSX X hx (hh := hh) (bytes := bytes) (maxL := maxL) (ret := ret) ho hl hstt hini hcode hy hK hg (hsize.trans hml.symm) (argsL := As) (rest := rest) (fun sig h => hn.trans (hlen sig h)) hstack hW (by rw [hb]; exact hdg)
    (fun vm₁ hW₁ => ⟨hf.1, hf.2, hp.2 (T.setVm vm₁) hT hW₁⟩) with ⟨v, vm₁, ⟨U', l2, c2, s2⟩, hW₁, X', ⟨g', mk, t, L, e1, e2, hq, h1, hL, h2, h3⟩, st⟩ | ⟨q, vm₁, ⟨U', l2, c2, s2⟩, hW₁, X', ⟨g', mk, t, L, E, ce, e1, e2, hq, hce, hcv, hcl, h1, hL, h2, h3⟩, st⟩
  · dsimp only [Pt.U, Pt.locs, Pt.cells, Pt.slots] at X' e1 e2 h1 h2 h3 st
    subst h1; subst h2; subst h3
    exact Or.inl ⟨v, (T.setVm vm₁).calling g' mk As.toArray, t, U', L, hT, X', hL, e1, e2, hq, st⟩
  · dsimp only [Pt.U, Pt.locs, Pt.cells, Pt.slots] at X' e1 e2 h1 h2 h3 st hcl
    subst h1; subst h2; subst h3
    exact Or.inr ⟨q, (T.setVm vm₁).calling g' mk As.toArray, t, U', L, E, ce, hT, X', hL, e1, e2, hq, hce, hcv, vx_cls hW₁ hcl, st⟩
end
end VXH
theorem vx_ofWH {l : Launch} {y : MethodName} {ws ws' : List Cond} {rm : Room} {Pc : Array Value → State → Prop} {Qc : Array Value → State → Outcome → State → Prop} {XC : String → State → State → Prop} {mc ms : Nat} {free : Addr → Prop} {cc : ByteArray} {maxL : Nat} {ret : Option FieldType} {hh : List (Nat × Nat × Nat × Nat)}
    (hy : plainName y.cls = true) (hw : ws = Cond.codeWith y cc maxL ret hh :: ws')
    (body : ∀ p e s m args below meth c s₁, BodyLoose p l y (headSpec ws rm) cc maxL ret e s m args below meth c s₁ → c.maxLocals = maxL → Pc args s →
      W p l e (headSpec ws rm).room s m args below meth c s.heap [] 0 0 (vx_MQ below Qc XC args s mc ms free) (entryFrame m args maxL)) : vx_Met l y ws rm Pc Qc XC mc ms free := by
  refine MetFree.of_bodyS (code := cc) (maxLocals := maxL) (ret := ret) hy ?_ ?_
  · intro args s m h hn
    obtain ⟨m9, meth, c, hn9, h1, h2, h3, h4, -, h5, h6, -⟩ := Cond.codeWith_spec (atoms_spec (ws := ws) h _ (by rw [hw]; exact List.mem_cons_self))
    cases hn.symm.trans hn9
    exact ⟨meth, c, h1, h2, h3, h4, h5, h6⟩
  · intro p e s m args below meth c s₁ B hml hP _
    have hh0 : s₁.heap = s.heap := by rw [B.state]; rfl
    obtain ⟨t, a1, o, b1, b2, b3⟩ := body p e s m args below meth c s₁ B hml hP s₁ hh0 (Stand.of_body B)
    exact ⟨t, o, a1, b1, b2, b3⟩
/-! ===== END ===== -/
end
section
def RX0 : String := "WellCourt$Calendar"
def TX0 : u_T := fun k => match k with
  | _ => ("WellCourt$Calendar", "owners", "[[I", true)
def tyX0 : Nat → FieldType := fun k => match k with
  | _ => .array (.array .int)
abbrev wsX00 : List Cond := u_ws RX0 TX0 1
theorem nmX0 : ∀ a, a < 1 → ∀ b, b < 1 → a ≠ b → (TX0 a).2.1 ≠ (TX0 b).2.1 := by decide +kernel
theorem tyX0_ok : ∀ k, k < 1 → parseFieldDescriptor (TX0 k).2.2.1 = some (tyX0 k) := by decide +kernel
abbrev cX0_init : ByteArray := prog_2_method_1_code
def yX0_init : MethodName := ⟨RX0, "<init>", "()V"⟩
abbrev cX0_ownerOn : ByteArray := prog_2_method_2_code
def yX0_ownerOn : MethodName := ⟨RX0, "ownerOn", "(II)I"⟩
abbrev cX0_tellTurns : ByteArray := prog_2_method_3_code
def yX0_tellTurns : MethodName := ⟨RX0, "tellTurns", "(LWellCourt$Law;I)V"⟩
abbrev cX0_keep : ByteArray := prog_2_method_4_code
def yX0_keep : MethodName := ⟨RX0, "keep", "(LWellCourt$Day;I)V"⟩
abbrev cX0_exchange : ByteArray := prog_2_method_5_code
def yX0_exchange : MethodName := ⟨RX0, "exchange", "(III)I"⟩
def RX1 : String := "WellCourt$Day"
def TX1 : u_T := fun k => match k with
  | 0 => ("WellCourt$Day", "level", "[I", true)
  | 1 => ("WellCourt$Day", "morning", "[I", true)
  | _ => ("WellCourt$Day", "owner", "[I", true)
def tyX1 : Nat → FieldType := fun k => match k with
  | 0 => .array .int
  | 1 => .array .int
  | _ => .array .int
abbrev wsX10 : List Cond := u_ws RX1 TX1 3
theorem nmX1 : ∀ a, a < 3 → ∀ b, b < 3 → a ≠ b → (TX1 a).2.1 ≠ (TX1 b).2.1 := by decide +kernel
theorem tyX1_ok : ∀ k, k < 3 → parseFieldDescriptor (TX1 k).2.2.1 = some (tyX1 k) := by decide +kernel
abbrev cX1_init : ByteArray := prog_3_method_1_code
def yX1_init : MethodName := ⟨RX1, "<init>", "()V"⟩
abbrev cX1_copyLevels : ByteArray := prog_3_method_2_code
def yX1_copyLevels : MethodName := ⟨RX1, "copyLevels", "(LWellCourt$Day;)V"⟩
abbrev cX1_grow : ByteArray := prog_3_method_3_code
def yX1_grow : MethodName := ⟨RX1, "grow", "(LWellCourt$Day;LWellCourt$Land;)V"⟩
abbrev cX1_settle : ByteArray := prog_3_method_4_code
def yX1_settle : MethodName := ⟨RX1, "settle", "(LWellCourt$Law;LWellCourt$Calendar;I)V"⟩
abbrev cX1_isRight : ByteArray := prog_3_method_5_code
def yX1_isRight : MethodName := ⟨RX1, "isRight", "(LWellCourt$Law;II)Z"⟩
abbrev cX1_guestMany : ByteArray := prog_3_method_6_code
def yX1_guestMany : MethodName := ⟨RX1, "guestMany", "(LWellCourt$Law;II)I"⟩
def RX2 : String := "WellCourt$Flock"
def TX2 : u_T := fun k => match k with
  | 0 => ("WellCourt$Flock", "clan", "[I", true)
  | 1 => ("WellCourt$Flock", "need", "[I", true)
  | 2 => ("WellCourt$Flock", "lasts", "[I", true)
  | 3 => ("WellCourt$Flock", "place", "[I", true)
  | _ => ("WellCourt$Flock", "drank", "[I", true)
def tyX2 : Nat → FieldType := fun k => match k with
  | 0 => .array .int
  | 1 => .array .int
  | 2 => .array .int
  | 3 => .array .int
  | _ => .array .int
abbrev wsX20 : List Cond := u_ws RX2 TX2 5
theorem nmX2 : ∀ a, a < 5 → ∀ b, b < 5 → a ≠ b → (TX2 a).2.1 ≠ (TX2 b).2.1 := by decide +kernel
theorem tyX2_ok : ∀ k, k < 5 → parseFieldDescriptor (TX2 k).2.2.1 = some (tyX2 k) := by decide +kernel
abbrev cX2_init : ByteArray := prog_4_method_1_code
def yX2_init : MethodName := ⟨RX2, "<init>", "()V"⟩
abbrev cX2_put : ByteArray := prog_4_method_2_code
def yX2_put : MethodName := ⟨RX2, "put", "(IIII)V"⟩
abbrev cX2_isThere : ByteArray := prog_4_method_3_code
def yX2_isThere : MethodName := ⟨RX2, "isThere", "(I)Z"⟩
abbrev cX2_size : ByteArray := prog_4_method_4_code
def yX2_size : MethodName := ⟨RX2, "size", "()I"⟩
def RX3 : String := "WellCourt$Land"
def TX3 : u_T := fun k => match k with
  | 0 => ("WellCourt$Land", "cap", "[I", true)
  | 1 => ("WellCourt$Land", "rate", "[I", true)
  | _ => ("WellCourt$Land", "wayDays", "[[I", true)
def tyX3 : Nat → FieldType := fun k => match k with
  | 0 => .array .int
  | 1 => .array .int
  | _ => .array (.array .int)
abbrev wsX30 : List Cond := u_ws RX3 TX3 3
theorem nmX3 : ∀ a, a < 3 → ∀ b, b < 3 → a ≠ b → (TX3 a).2.1 ≠ (TX3 b).2.1 := by decide +kernel
theorem tyX3_ok : ∀ k, k < 3 → parseFieldDescriptor (TX3 k).2.2.1 = some (tyX3 k) := by decide +kernel
abbrev cX3_init : ByteArray := prog_5_method_1_code
def yX3_init : MethodName := ⟨RX3, "<init>", "()V"⟩
abbrev cX3_isThere : ByteArray := prog_5_method_2_code
def yX3_isThere : MethodName := ⟨RX3, "isThere", "(I)Z"⟩
abbrev cX3_size : ByteArray := prog_5_method_3_code
def yX3_size : MethodName := ⟨RX3, "size", "()I"⟩
def RX4 : String := "WellCourt$Law"
def TX4 : u_T := fun k => match k with
  | 0 => ("WellCourt$Law", "rules", "I", false)
  | 1 => ("WellCourt$Law", "round", "[[I", true)
  | 2 => ("WellCourt$Law", "roundDays", "[I", true)
  | 3 => ("WellCourt$Law", "kin", "[I", true)
  | 4 => ("WellCourt$Law", "dryFrom", "[I", true)
  | 5 => ("WellCourt$Law", "droughts", "I", false)
  | 6 => ("WellCourt$Law", "droughtWell", "[I", true)
  | 7 => ("WellCourt$Law", "droughtBelow", "[I", true)
  | 8 => ("WellCourt$Law", "droughtClan", "[I", true)
  | 9 => ("WellCourt$Law", "guests", "I", false)
  | 10 => ("WellCourt$Law", "guestClan", "[I", true)
  | 11 => ("WellCourt$Law", "guestWell", "[I", true)
  | 12 => ("WellCourt$Law", "guestHost", "[I", true)
  | _ => ("WellCourt$Law", "guestMany", "[I", true)
def tyX4 : Nat → FieldType := fun k => match k with
  | 0 => .int
  | 1 => .array (.array .int)
  | 2 => .array .int
  | 3 => .array .int
  | 4 => .array .int
  | 5 => .int
  | 6 => .array .int
  | 7 => .array .int
  | 8 => .array .int
  | 9 => .int
  | 10 => .array .int
  | 11 => .array .int
  | 12 => .array .int
  | _ => .array .int
abbrev wsX40 : List Cond := u_ws RX4 TX4 14
theorem nmX4 : ∀ a, a < 14 → ∀ b, b < 14 → a ≠ b → (TX4 a).2.1 ≠ (TX4 b).2.1 := by decide +kernel
theorem tyX4_ok : ∀ k, k < 14 → parseFieldDescriptor (TX4 k).2.2.1 = some (tyX4 k) := by decide +kernel
abbrev cX4_init : ByteArray := prog_6_method_1_code
def yX4_init : MethodName := ⟨RX4, "<init>", "()V"⟩
abbrev cX4_clear : ByteArray := prog_6_method_2_code
def yX4_clear : MethodName := ⟨RX4, "clear", "()V"⟩
abbrev cX4_hasTurns : ByteArray := prog_6_method_3_code
def yX4_hasTurns : MethodName := ⟨RX4, "hasTurns", "(I)Z"⟩
abbrev cX4_addTurn : ByteArray := prog_6_method_4_code
def yX4_addTurn : MethodName := ⟨RX4, "addTurn", "(III)V"⟩
abbrev cX4_addWed : ByteArray := prog_6_method_5_code
def yX4_addWed : MethodName := ⟨RX4, "addWed", "(II)V"⟩
abbrev cX4_addDry : ByteArray := prog_6_method_6_code
def yX4_addDry : MethodName := ⟨RX4, "addDry", "(II)V"⟩
abbrev cX4_addDrought : ByteArray := prog_6_method_7_code
def yX4_addDrought : MethodName := ⟨RX4, "addDrought", "(III)V"⟩
abbrev cX4_addGuest : ByteArray := prog_6_method_8_code
def yX4_addGuest : MethodName := ⟨RX4, "addGuest", "(IIII)V"⟩
abbrev cX4_turnOn : ByteArray := prog_6_method_9_code
def yX4_turnOn : MethodName := ⟨RX4, "turnOn", "(II)I"⟩
abbrev cX4_areWed : ByteArray := prog_6_method_10_code
def yX4_areWed : MethodName := ⟨RX4, "areWed", "(II)Z"⟩
abbrev cX4_leadsDry : ByteArray := prog_6_method_11_code
def yX4_leadsDry : MethodName := ⟨RX4, "leadsDry", "(II)Z"⟩
abbrev cX4_droughtOwner : ByteArray := prog_6_method_12_code
def yX4_droughtOwner : MethodName := ⟨RX4, "droughtOwner", "(II)I"⟩
abbrev cX4_manyOfGuest : ByteArray := prog_6_method_13_code
def yX4_manyOfGuest : MethodName := ⟨RX4, "manyOfGuest", "(III)I"⟩
def RX5 : String := "WellCourt$Ledger"
def TX5 : u_T := fun k => match k with
  | 0 => ("WellCourt$Ledger", "facts", "[[I", true)
  | _ => ("WellCourt$Ledger", "size", "I", false)
def tyX5 : Nat → FieldType := fun k => match k with
  | 0 => .array (.array .int)
  | _ => .int
abbrev wsX50 : List Cond := u_ws RX5 TX5 2
theorem nmX5 : ∀ a, a < 2 → ∀ b, b < 2 → a ≠ b → (TX5 a).2.1 ≠ (TX5 b).2.1 := by decide +kernel
theorem tyX5_ok : ∀ k, k < 2 → parseFieldDescriptor (TX5 k).2.2.1 = some (tyX5 k) := by decide +kernel
abbrev cX5_init : ByteArray := prog_7_method_1_code
def yX5_init : MethodName := ⟨RX5, "<init>", "()V"⟩
abbrev cX5_has : ByteArray := prog_7_method_2_code
def yX5_has : MethodName := ⟨RX5, "has", "(I)Z"⟩
abbrev cX5_enter : ByteArray := prog_7_method_3_code
def yX5_enter : MethodName := ⟨RX5, "enter", "(IIIIZ)V"⟩
abbrev cX5_rightfulOn : ByteArray := prog_7_method_4_code
def yX5_rightfulOn : MethodName := ⟨RX5, "rightfulOn", "(III)I"⟩
abbrev cX5_sum : ByteArray := prog_7_method_5_code
def yX5_sum : MethodName := ⟨RX5, "sum", "(IIIZ)I"⟩
abbrev cX5_sumKnown : ByteArray := prog_7_method_6_code
def yX5_sumKnown : MethodName := ⟨RX5, "sumKnown", "(IIIZI)I"⟩
abbrev cX5_isKnown : ByteArray := prog_7_method_7_code
def yX5_isKnown : MethodName := ⟨RX5, "isKnown", "(II)Z"⟩
abbrev cX5_isOf : ByteArray := prog_7_method_8_code
def yX5_isOf : MethodName := ⟨RX5, "isOf", "(IIZ)Z"⟩
def RX6 : String := "WellCourt$Planner"
def TX6 : u_T := fun k => match k with
  | 0 => ("WellCourt$Planner", "land", "LWellCourt$Land;", true)
  | 1 => ("WellCourt$Planner", "calendar", "LWellCourt$Calendar;", true)
  | 2 => ("WellCourt$Planner", "flock", "LWellCourt$Flock;", true)
  | 3 => ("WellCourt$Planner", "law", "LWellCourt$Law;", false)
  | 4 => ("WellCourt$Planner", "date", "I", false)
  | 5 => ("WellCourt$Planner", "days", "[LWellCourt$Day;", true)
  | 6 => ("WellCourt$Planner", "place", "[[I", true)
  | 7 => ("WellCourt$Planner", "arrives", "[[I", true)
  | 8 => ("WellCourt$Planner", "drank", "[[I", true)
  | 9 => ("WellCourt$Planner", "acts", "[I", true)
  | 10 => ("WellCourt$Planner", "looks", "I", false)
  | 11 => ("WellCourt$Planner", "reach", "I", false)
  | 12 => ("WellCourt$Planner", "found", "[I", true)
  | 13 => ("WellCourt$Planner", "foundDate", "I", false)
  | _ => ("WellCourt$Planner", "foundDays", "I", false)
def tyX6 : Nat → FieldType := fun k => match k with
  | 0 => .object "WellCourt$Land"
  | 1 => .object "WellCourt$Calendar"
  | 2 => .object "WellCourt$Flock"
  | 3 => .object "WellCourt$Law"
  | 4 => .int
  | 5 => .array (.object "WellCourt$Day")
  | 6 => .array (.array .int)
  | 7 => .array (.array .int)
  | 8 => .array (.array .int)
  | 9 => .array .int
  | 10 => .int
  | 11 => .int
  | 12 => .array .int
  | 13 => .int
  | _ => .int
abbrev wsX60 : List Cond := u_ws RX6 TX6 15
theorem nmX6 : ∀ a, a < 15 → ∀ b, b < 15 → a ≠ b → (TX6 a).2.1 ≠ (TX6 b).2.1 := by decide +kernel
theorem tyX6_ok : ∀ k, k < 15 → parseFieldDescriptor (TX6 k).2.2.1 = some (tyX6 k) := by decide +kernel
abbrev cX6_init : ByteArray := prog_8_method_1_code
def yX6_init : MethodName := ⟨RX6, "<init>", "(LWellCourt$Land;LWellCourt$Calendar;LWellCourt$Flock;LWellCourt$Law;)V"⟩
abbrev cX6_start : ByteArray := prog_8_method_2_code
def yX6_start : MethodName := ⟨RX6, "start", "(LWellCourt$Law;LWellCourt$Day;I)V"⟩
abbrev cX6_search : ByteArray := prog_8_method_3_code
def yX6_search : MethodName := ⟨RX6, "search", "(II)I"⟩
abbrev cX6_actOf : ByteArray := prog_8_method_4_code
def yX6_actOf : MethodName := ⟨RX6, "actOf", "(II)I"⟩
abbrev cX6_rowOf : ByteArray := prog_8_method_5_code
def yX6_rowOf : MethodName := ⟨RX6, "rowOf", "(I)I"⟩
abbrev cX6_openDay : ByteArray := prog_8_method_6_code
def yX6_openDay : MethodName := ⟨RX6, "openDay", "(I)V"⟩
abbrev cX6_nextAct : ByteArray := prog_8_method_7_code
def yX6_nextAct : MethodName := ⟨RX6, "nextAct", "(I)I"⟩
abbrev cX6_canDo : ByteArray := prog_8_method_8_code
def yX6_canDo : MethodName := ⟨RX6, "canDo", "(III)Z"⟩
abbrev cX6_perform : ByteArray := prog_8_method_9_code
def yX6_perform : MethodName := ⟨RX6, "perform", "(II)V"⟩
abbrev cX6_undo : ByteArray := prog_8_method_10_code
def yX6_undo : MethodName := ⟨RX6, "undo", "(I)V"⟩
abbrev cX6_isGood : ByteArray := prog_8_method_11_code
def yX6_isGood : MethodName := ⟨RX6, "isGood", "(I)Z"⟩
abbrev cX6_keepFound : ByteArray := prog_8_method_12_code
def yX6_keepFound : MethodName := ⟨RX6, "keepFound", "(I)V"⟩
def RX7 : String := "WellCourt$Reader"
def TX7 : u_T := fun k => match k with
  | 0 => ("WellCourt$Reader", "tape", "LWellCourt$Tape;", true)
  | 1 => ("WellCourt$Reader", "kind", "I", false)
  | 2 => ("WellCourt$Reader", "start", "I", false)
  | 3 => ("WellCourt$Reader", "stop", "I", false)
  | 4 => ("WellCourt$Reader", "faultKind", "I", false)
  | _ => ("WellCourt$Reader", "faultPlace", "I", false)
def tyX7 : Nat → FieldType := fun k => match k with
  | 0 => .object "WellCourt$Tape"
  | 1 => .int
  | 2 => .int
  | 3 => .int
  | 4 => .int
  | _ => .int
abbrev wsX70 : List Cond := u_ws RX7 TX7 6
theorem nmX7 : ∀ a, a < 6 → ∀ b, b < 6 → a ≠ b → (TX7 a).2.1 ≠ (TX7 b).2.1 := by decide +kernel
theorem tyX7_ok : ∀ k, k < 6 → parseFieldDescriptor (TX7 k).2.2.1 = some (tyX7 k) := by decide +kernel
abbrev cX7_init : ByteArray := prog_9_method_1_code
def yX7_init : MethodName := ⟨RX7, "<init>", "(LWellCourt$Tape;)V"⟩
abbrev cX7_readText : ByteArray := prog_9_method_2_code
def yX7_readText : MethodName := ⟨RX7, "readText", "(LWellCourt$Law;)Z"⟩
abbrev cX7_isRuleWord : ByteArray := prog_9_method_3_code
def yX7_isRuleWord : MethodName := ⟨RX7, "isRuleWord", "()Z"⟩
abbrev cX7_readTurns : ByteArray := prog_9_method_4_code
def yX7_readTurns : MethodName := ⟨RX7, "readTurns", "(LWellCourt$Law;)Z"⟩
abbrev cX7_readGuest : ByteArray := prog_9_method_5_code
def yX7_readGuest : MethodName := ⟨RX7, "readGuest", "(LWellCourt$Law;)Z"⟩
abbrev cX7_readWed : ByteArray := prog_9_method_6_code
def yX7_readWed : MethodName := ⟨RX7, "readWed", "(LWellCourt$Law;)Z"⟩
abbrev cX7_readDrought : ByteArray := prog_9_method_7_code
def yX7_readDrought : MethodName := ⟨RX7, "readDrought", "(LWellCourt$Law;)Z"⟩
abbrev cX7_readDry : ByteArray := prog_9_method_8_code
def yX7_readDry : MethodName := ⟨RX7, "readDry", "(LWellCourt$Law;)Z"⟩
abbrev cX7_readSign : ByteArray := prog_9_method_9_code
def yX7_readSign : MethodName := ⟨RX7, "readSign", "(C)Z"⟩
abbrev cX7_readWord : ByteArray := prog_9_method_10_code
def yX7_readWord : MethodName := ⟨RX7, "readWord", "(Ljava/lang/String;)Z"⟩
abbrev cX7_readClan : ByteArray := prog_9_method_11_code
def yX7_readClan : MethodName := ⟨RX7, "readClan", "(I)I"⟩
abbrev cX7_readNumber : ByteArray := prog_9_method_12_code
def yX7_readNumber : MethodName := ⟨RX7, "readNumber", "(II)I"⟩
abbrev cX7_cannotCome : ByteArray := prog_9_method_13_code
def yX7_cannotCome : MethodName := ⟨RX7, "cannotCome", "()Z"⟩
abbrev cX7_fail : ByteArray := prog_9_method_14_code
def yX7_fail : MethodName := ⟨RX7, "fail", "(I)Z"⟩
abbrev cX7_isSign : ByteArray := prog_9_method_15_code
def yX7_isSign : MethodName := ⟨RX7, "isSign", "(C)Z"⟩
abbrev cX7_isWord : ByteArray := prog_9_method_16_code
def yX7_isWord : MethodName := ⟨RX7, "isWord", "(Ljava/lang/String;)Z"⟩
abbrev cX7_advance : ByteArray := prog_9_method_17_code
def yX7_advance : MethodName := ⟨RX7, "advance", "()V"⟩
abbrev cX7_readRun : ByteArray := prog_9_method_18_code
def yX7_readRun : MethodName := ⟨RX7, "readRun", "()V"⟩
abbrev cX7_isBlank : ByteArray := prog_9_method_19_code
def yX7_isBlank : MethodName := ⟨RX7, "isBlank", "(I)Z"⟩
abbrev cX7_isDigit : ByteArray := prog_9_method_20_code
def yX7_isDigit : MethodName := ⟨RX7, "isDigit", "(I)Z"⟩
abbrev cX7_isSmall : ByteArray := prog_9_method_21_code
def yX7_isSmall : MethodName := ⟨RX7, "isSmall", "(I)Z"⟩
abbrev cX7_isLetter : ByteArray := prog_9_method_22_code
def yX7_isLetter : MethodName := ⟨RX7, "isLetter", "(I)Z"⟩
def RX8 : String := "WellCourt$Tape"
def TX8 : u_T := fun k => match k with
  | 0 => ("WellCourt$Tape", "bytes", "[B", true)
  | _ => ("WellCourt$Tape", "size", "I", false)
def tyX8 : Nat → FieldType := fun k => match k with
  | 0 => .array .byte
  | _ => .int
abbrev wsX80 : List Cond := u_ws RX8 TX8 2
theorem nmX8 : ∀ a, a < 2 → ∀ b, b < 2 → a ≠ b → (TX8 a).2.1 ≠ (TX8 b).2.1 := by decide +kernel
theorem tyX8_ok : ∀ k, k < 2 → parseFieldDescriptor (TX8 k).2.2.1 = some (tyX8 k) := by decide +kernel
abbrev cX8_init : ByteArray := prog_10_method_1_code
def yX8_init : MethodName := ⟨RX8, "<init>", "()V"⟩
abbrev cX8_append : ByteArray := prog_10_method_2_code
def yX8_append : MethodName := ⟨RX8, "append", "(I)V"⟩
abbrev cX8_byteAt : ByteArray := prog_10_method_3_code
def yX8_byteAt : MethodName := ⟨RX8, "byteAt", "(I)I"⟩
def RX9 : String := "WellCourt"
def TX9 : u_T := fun k => match k with
  | 0 => ("WellCourt", "tape", "LWellCourt$Tape;", true)
  | 1 => ("WellCourt", "reader", "LWellCourt$Reader;", true)
  | 2 => ("WellCourt", "land", "LWellCourt$Land;", true)
  | 3 => ("WellCourt", "calendar", "LWellCourt$Calendar;", true)
  | 4 => ("WellCourt", "today", "LWellCourt$Day;", true)
  | 5 => ("WellCourt", "ledger", "LWellCourt$Ledger;", true)
  | 6 => ("WellCourt", "flock", "LWellCourt$Flock;", true)
  | 7 => ("WellCourt", "law", "LWellCourt$Law;", false)
  | 8 => ("WellCourt", "draft", "LWellCourt$Law;", false)
  | 9 => ("WellCourt", "planner", "LWellCourt$Planner;", true)
  | 10 => ("WellCourt", "date", "I", false)
  | _ => ("WellCourt", "latestFault", "I", false)
def tyX9 : Nat → FieldType := fun k => match k with
  | 0 => .object "WellCourt$Tape"
  | 1 => .object "WellCourt$Reader"
  | 2 => .object "WellCourt$Land"
  | 3 => .object "WellCourt$Calendar"
  | 4 => .object "WellCourt$Day"
  | 5 => .object "WellCourt$Ledger"
  | 6 => .object "WellCourt$Flock"
  | 7 => .object "WellCourt$Law"
  | 8 => .object "WellCourt$Law"
  | 9 => .object "WellCourt$Planner"
  | 10 => .int
  | _ => .int
abbrev wsX90 : List Cond := u_ws RX9 TX9 12
theorem nmX9 : ∀ a, a < 12 → ∀ b, b < 12 → a ≠ b → (TX9 a).2.1 ≠ (TX9 b).2.1 := by decide +kernel
theorem tyX9_ok : ∀ k, k < 12 → parseFieldDescriptor (TX9 k).2.2.1 = some (tyX9 k) := by decide +kernel
abbrev cX9_init : ByteArray := prog_1_method_1_code
def yX9_init : MethodName := ⟨RX9, "<init>", "()V"⟩
abbrev cX9_feed : ByteArray := prog_1_method_2_code
def yX9_feed : MethodName := ⟨RX9, "feed", "(IIIII)I"⟩
abbrev cX9_end : ByteArray := prog_1_method_3_code
def yX9_end : MethodName := ⟨RX9, "end", "(I)Z"⟩
abbrev cX9_well : ByteArray := prog_1_method_4_code
def yX9_well : MethodName := ⟨RX9, "well", "(IIII)Z"⟩
abbrev cX9_rights : ByteArray := prog_1_method_5_code
def yX9_rights : MethodName := ⟨RX9, "rights", "()I"⟩
abbrev cX9_fault : ByteArray := prog_1_method_6_code
def yX9_fault : MethodName := ⟨RX9, "fault", "()I"⟩
abbrev cX9_next : ByteArray := prog_1_method_7_code
def yX9_next : MethodName := ⟨RX9, "next", "()Z"⟩
abbrev cX9_water : ByteArray := prog_1_method_8_code
def yX9_water : MethodName := ⟨RX9, "water", "(II)I"⟩
abbrev cX9_owner : ByteArray := prog_1_method_9_code
def yX9_owner : MethodName := ⟨RX9, "owner", "(II)I"⟩
abbrev cX9_may : ByteArray := prog_1_method_10_code
def yX9_may : MethodName := ⟨RX9, "may", "(II)I"⟩
abbrev cX9_lend : ByteArray := prog_1_method_11_code
def yX9_lend : MethodName := ⟨RX9, "lend", "(III)I"⟩
abbrev cX9_draw : ByteArray := prog_1_method_12_code
def yX9_draw : MethodName := ⟨RX9, "draw", "(III)I"⟩
abbrev cX9_take : ByteArray := prog_1_method_13_code
def yX9_take : MethodName := ⟨RX9, "take", "(III)I"⟩
abbrev cX9_report : ByteArray := prog_1_method_14_code
def yX9_report : MethodName := ⟨RX9, "report", "(I)Z"⟩
abbrev cX9_drawn : ByteArray := prog_1_method_15_code
def yX9_drawn : MethodName := ⟨RX9, "drawn", "(II)I"⟩
abbrev cX9_judge : ByteArray := prog_1_method_16_code
def yX9_judge : MethodName := ⟨RX9, "judge", "(IIIII)I"⟩
abbrev cX9_herd : ByteArray := prog_1_method_17_code
def yX9_herd : MethodName := ⟨RX9, "herd", "(IIIII)Z"⟩
abbrev cX9_drop : ByteArray := prog_1_method_18_code
def yX9_drop : MethodName := ⟨RX9, "drop", "(I)Z"⟩
abbrev cX9_way : ByteArray := prog_1_method_19_code
def yX9_way : MethodName := ⟨RX9, "way", "(III)Z"⟩
abbrev cX9_plan : ByteArray := prog_1_method_20_code
def yX9_plan : MethodName := ⟨RX9, "plan", "(II)I"⟩
abbrev cX9_step : ByteArray := prog_1_method_21_code
def yX9_step : MethodName := ⟨RX9, "step", "(II)I"⟩
abbrev cX9_far : ByteArray := prog_1_method_22_code
def yX9_far : MethodName := ⟨RX9, "far", "()I"⟩
abbrev cX9_count : ByteArray := prog_1_method_23_code
def yX9_count : MethodName := ⟨RX9, "count", "(I)I"⟩
abbrev cX9_settleToday : ByteArray := prog_1_method_24_code
def yX9_settleToday : MethodName := ⟨RX9, "settleToday", "()V"⟩
abbrev cX9_isWellThere : ByteArray := prog_1_method_25_code
def yX9_isWellThere : MethodName := ⟨RX9, "isWellThere", "(I)Z"⟩
abbrev cX9_standing : ByteArray := prog_1_method_26_code
def yX9_standing : MethodName := ⟨RX9, "standing", "(II)I"⟩
abbrev cX9_canBeDrawn : ByteArray := prog_1_method_27_code
def yX9_canBeDrawn : MethodName := ⟨RX9, "canBeDrawn", "(III)Z"⟩
abbrev cX9_fine : ByteArray := prog_1_method_28_code
def yX9_fine : MethodName := ⟨RX9, "fine", "(IIII)I"⟩
abbrev cX9_isWithin : ByteArray := prog_1_method_29_code
def yX9_isWithin : MethodName := ⟨RX9, "isWithin", "(III)Z"⟩
abbrev cX9_isWell : ByteArray := prog_1_method_30_code
def yX9_isWell : MethodName := ⟨RX9, "isWell", "(I)Z"⟩
abbrev cX9_isClan : ByteArray := prog_1_method_31_code
def yX9_isClan : MethodName := ⟨RX9, "isClan", "(I)Z"⟩
abbrev cX9_isHerd : ByteArray := prog_1_method_32_code
def yX9_isHerd : MethodName := ⟨RX9, "isHerd", "(I)Z"⟩
abbrev cX9_isDate : ByteArray := prog_1_method_33_code
def yX9_isDate : MethodName := ⟨RX9, "isDate", "(I)Z"⟩
def RX10 : String := "WellCourtModel"
def TX10 : u_T := fun k => match k with
  | 0 => ("WellCourtModel", "thrown", "I", false)
  | 1 => ("WellCourtModel", "isWell", "[Z", true)
  | 2 => ("WellCourtModel", "cap", "[I", true)
  | 3 => ("WellCourtModel", "rate", "[I", true)
  | 4 => ("WellCourtModel", "level", "[I", true)
  | 5 => ("WellCourtModel", "morning", "[I", true)
  | 6 => ("WellCourtModel", "owner", "[I", true)
  | 7 => ("WellCourtModel", "day", "I", false)
  | 8 => ("WellCourtModel", "tape", "[B", true)
  | 9 => ("WellCourtModel", "length", "I", false)
  | 10 => ("WellCourtModel", "size", "I", false)
  | 11 => ("WellCourtModel", "p", "I", false)
  | 12 => ("WellCourtModel", "token", "I", false)
  | 13 => ("WellCourtModel", "at", "I", false)
  | 14 => ("WellCourtModel", "number", "I", false)
  | 15 => ("WellCourtModel", "fault", "I", false)
  | 16 => ("WellCourtModel", "faultAt", "I", false)
  | 17 => ("WellCourtModel", "word", "J", false)
  | 18 => ("WellCourtModel", "told", "I", false)
  | 19 => ("WellCourtModel", "toldAt", "I", false)
  | 20 => ("WellCourtModel", "sort", "[I", true)
  | 21 => ("WellCourtModel", "one", "[I", true)
  | 22 => ("WellCourtModel", "two", "[I", true)
  | 23 => ("WellCourtModel", "three", "[I", true)
  | 24 => ("WellCourtModel", "many", "[I", true)
  | 25 => ("WellCourtModel", "turnMany", "[I", true)
  | 26 => ("WellCourtModel", "turnClan", "[I", true)
  | 27 => ("WellCourtModel", "turnDays", "[I", true)
  | 28 => ("WellCourtModel", "bank", "I", false)
  | 29 => ("WellCourtModel", "rules", "I", false)
  | 30 => ("WellCourtModel", "fresh", "I", false)
  | 31 => ("WellCourtModel", "dDay", "[I", true)
  | 32 => ("WellCourtModel", "dWell", "[I", true)
  | 33 => ("WellCourtModel", "dClan", "[I", true)
  | 34 => ("WellCourtModel", "dAmount", "[I", true)
  | 35 => ("WellCourtModel", "dRight", "[I", true)
  | 36 => ("WellCourtModel", "dKnown", "[I", true)
  | 37 => ("WellCourtModel", "draws", "I", false)
  | 38 => ("WellCourtModel", "isHerd", "[Z", true)
  | 39 => ("WellCourtModel", "hClan", "[I", true)
  | 40 => ("WellCourtModel", "hDraw", "[I", true)
  | 41 => ("WellCourtModel", "hLast", "[I", true)
  | 42 => ("WellCourtModel", "hWell", "[I", true)
  | 43 => ("WellCourtModel", "hDrank", "[I", true)
  | 44 => ("WellCourtModel", "ways", "[I", true)
  | 45 => ("WellCourtModel", "sLevel", "[I", true)
  | 46 => ("WellCourtModel", "sWell", "[I", true)
  | 47 => ("WellCourtModel", "sThere", "[I", true)
  | 48 => ("WellCourtModel", "sDrank", "[I", true)
  | 49 => ("WellCourtModel", "next", "[I", true)
  | 50 => ("WellCourtModel", "chosen", "[I", true)
  | 51 => ("WellCourtModel", "sMorning", "[I", true)
  | 52 => ("WellCourtModel", "sOwner", "[I", true)
  | 53 => ("WellCourtModel", "planned", "[I", true)
  | 54 => ("WellCourtModel", "plannedHerd", "[Z", true)
  | 55 => ("WellCourtModel", "planFrom", "I", false)
  | 56 => ("WellCourtModel", "planDays", "I", false)
  | 57 => ("WellCourtModel", "looks", "I", false)
  | _ => ("WellCourtModel", "far", "I", false)
def tyX10 : Nat → FieldType := fun k => match k with
  | 0 => .int
  | 1 => .array .boolean
  | 2 => .array .int
  | 3 => .array .int
  | 4 => .array .int
  | 5 => .array .int
  | 6 => .array .int
  | 7 => .int
  | 8 => .array .byte
  | 9 => .int
  | 10 => .int
  | 11 => .int
  | 12 => .int
  | 13 => .int
  | 14 => .int
  | 15 => .int
  | 16 => .int
  | 17 => .long
  | 18 => .int
  | 19 => .int
  | 20 => .array .int
  | 21 => .array .int
  | 22 => .array .int
  | 23 => .array .int
  | 24 => .array .int
  | 25 => .array .int
  | 26 => .array .int
  | 27 => .array .int
  | 28 => .int
  | 29 => .int
  | 30 => .int
  | 31 => .array .int
  | 32 => .array .int
  | 33 => .array .int
  | 34 => .array .int
  | 35 => .array .int
  | 36 => .array .int
  | 37 => .int
  | 38 => .array .boolean
  | 39 => .array .int
  | 40 => .array .int
  | 41 => .array .int
  | 42 => .array .int
  | 43 => .array .int
  | 44 => .array .int
  | 45 => .array .int
  | 46 => .array .int
  | 47 => .array .int
  | 48 => .array .int
  | 49 => .array .int
  | 50 => .array .int
  | 51 => .array .int
  | 52 => .array .int
  | 53 => .array .int
  | 54 => .array .boolean
  | 55 => .int
  | 56 => .int
  | 57 => .int
  | _ => .int
abbrev wsX100 : List Cond := u_ws RX10 TX10 59
theorem nmX10 : ∀ a, a < 59 → ∀ b, b < 59 → a ≠ b → (TX10 a).2.1 ≠ (TX10 b).2.1 := by decide +kernel
theorem tyX10_ok : ∀ k, k < 59 → parseFieldDescriptor (TX10 k).2.2.1 = some (tyX10 k) := by decide +kernel
abbrev cX10_thrown : ByteArray := prog_12_method_1_code
def yX10_thrown : MethodName := ⟨RX10, "thrown", "()I"⟩
abbrev cX10_init : ByteArray := prog_12_method_2_code
def yX10_init : MethodName := ⟨RX10, "<init>", "()V"⟩
abbrev cX10_hasWell : ByteArray := prog_12_method_3_code
def yX10_hasWell : MethodName := ⟨RX10, "hasWell", "(I)Z"⟩
abbrev cX10_well : ByteArray := prog_12_method_4_code
def yX10_well : MethodName := ⟨RX10, "well", "(IIII)Z"⟩
abbrev cX10_feed : ByteArray := prog_12_method_5_code
def yX10_feed : MethodName := ⟨RX10, "feed", "(IIIII)I"⟩
abbrev cX10_four : ByteArray := prog_12_method_6_code
def yX10_four : MethodName := ⟨RX10, "four", "(I)V"⟩
abbrev cX10_end : ByteArray := prog_12_method_7_code
def yX10_end : MethodName := ⟨RX10, "end", "(I)Z"⟩
abbrev cX10_peek : ByteArray := prog_12_method_8_code
def yX10_peek : MethodName := ⟨RX10, "peek", "()I"⟩
abbrev cX10_isSmall : ByteArray := prog_12_method_9_code
def yX10_isSmall : MethodName := ⟨RX10, "isSmall", "(I)Z"⟩
abbrev cX10_isDigit : ByteArray := prog_12_method_10_code
def yX10_isDigit : MethodName := ⟨RX10, "isDigit", "(I)Z"⟩
abbrev cX10_next0 : ByteArray := prog_12_method_11_code
def yX10_next0 : MethodName := ⟨RX10, "next0", "()V"⟩
abbrev cX10_wrong : ByteArray := prog_12_method_12_code
def yX10_wrong : MethodName := ⟨RX10, "wrong", "(II)Z"⟩
abbrev cX10_cant : ByteArray := prog_12_method_13_code
def yX10_cant : MethodName := ⟨RX10, "cant", "()Z"⟩
abbrev cX10_must : ByteArray := prog_12_method_14_code
def yX10_must : MethodName := ⟨RX10, "must", "(I)Z"⟩
abbrev cX10_isWord : ByteArray := prog_12_method_15_code
def yX10_isWord : MethodName := ⟨RX10, "isWord", "(J)Z"⟩
abbrev cX10_mustWord : ByteArray := prog_12_method_16_code
def yX10_mustWord : MethodName := ⟨RX10, "mustWord", "(J)Z"⟩
abbrev cX10_readNumber : ByteArray := prog_12_method_17_code
def yX10_readNumber : MethodName := ⟨RX10, "readNumber", "(II)Z"⟩
abbrev cX10_readClan : ByteArray := prog_12_method_18_code
def yX10_readClan : MethodName := ⟨RX10, "readClan", "()Z"⟩
abbrev cX10_rights : ByteArray := prog_12_method_19_code
def yX10_rights : MethodName := ⟨RX10, "rights", "()I"⟩
abbrev cX10_rule : ByteArray := prog_12_method_20_code
def yX10_rule : MethodName := ⟨RX10, "rule", "()Z"⟩
abbrev cX10_turns : ByteArray := prog_12_method_21_code
def yX10_turns : MethodName := ⟨RX10, "turns", "(I)Z"⟩
abbrev cX10_guest : ByteArray := prog_12_method_22_code
def yX10_guest : MethodName := ⟨RX10, "guest", "(I)Z"⟩
abbrev cX10_wed : ByteArray := prog_12_method_23_code
def yX10_wed : MethodName := ⟨RX10, "wed", "(I)Z"⟩
abbrev cX10_drought : ByteArray := prog_12_method_24_code
def yX10_drought : MethodName := ⟨RX10, "drought", "(I)Z"⟩
abbrev cX10_dry : ByteArray := prog_12_method_25_code
def yX10_dry : MethodName := ⟨RX10, "dry", "(I)Z"⟩
abbrev cX10_fault : ByteArray := prog_12_method_26_code
def yX10_fault : MethodName := ⟨RX10, "fault", "()I"⟩
abbrev cX10_byTurns : ByteArray := prog_12_method_27_code
def yX10_byTurns : MethodName := ⟨RX10, "byTurns", "(II)I"⟩
abbrev cX10_byDrought : ByteArray := prog_12_method_28_code
def yX10_byDrought : MethodName := ⟨RX10, "byDrought", "(II)I"⟩
abbrev cX10_droughts : ByteArray := prog_12_method_29_code
def yX10_droughts : MethodName := ⟨RX10, "droughts", "()V"⟩
abbrev cX10_next : ByteArray := prog_12_method_30_code
def yX10_next : MethodName := ⟨RX10, "next", "()Z"⟩
abbrev cX10_water : ByteArray := prog_12_method_31_code
def yX10_water : MethodName := ⟨RX10, "water", "(II)I"⟩
abbrev cX10_owner : ByteArray := prog_12_method_32_code
def yX10_owner : MethodName := ⟨RX10, "owner", "(II)I"⟩
abbrev cX10_isClan : ByteArray := prog_12_method_33_code
def yX10_isClan : MethodName := ⟨RX10, "isClan", "(I)Z"⟩
abbrev cX10_isRight : ByteArray := prog_12_method_34_code
def yX10_isRight : MethodName := ⟨RX10, "isRight", "(II[III[II)Z"⟩
abbrev cX10_isRightNow : ByteArray := prog_12_method_35_code
def yX10_isRightNow : MethodName := ⟨RX10, "isRightNow", "(II)Z"⟩
abbrev cX10_guestRule : ByteArray := prog_12_method_36_code
def yX10_guestRule : MethodName := ⟨RX10, "guestRule", "(II)I"⟩
abbrev cX10_may : ByteArray := prog_12_method_37_code
def yX10_may : MethodName := ⟨RX10, "may", "(II)I"⟩
abbrev cX10_lend : ByteArray := prog_12_method_38_code
def yX10_lend : MethodName := ⟨RX10, "lend", "(III)I"⟩
abbrev cX10_cantDraw : ByteArray := prog_12_method_39_code
def yX10_cantDraw : MethodName := ⟨RX10, "cantDraw", "(III)Z"⟩
abbrev cX10_drawn : ByteArray := prog_12_method_40_code
def yX10_drawn : MethodName := ⟨RX10, "drawn", "(IIIZ)I"⟩
abbrev cX10_draw : ByteArray := prog_12_method_41_code
def yX10_draw : MethodName := ⟨RX10, "draw", "(III)I"⟩
abbrev cX10_take : ByteArray := prog_12_method_42_code
def yX10_take : MethodName := ⟨RX10, "take", "(III)I"⟩
abbrev cX10_report : ByteArray := prog_12_method_43_code
def yX10_report : MethodName := ⟨RX10, "report", "(I)Z"⟩
abbrev cX10_drawn_ : ByteArray := prog_12_method_44_code
def yX10_drawn_ : MethodName := ⟨RX10, "drawn", "(II)I"⟩
abbrev cX10_judge : ByteArray := prog_12_method_45_code
def yX10_judge : MethodName := ⟨RX10, "judge", "(IIIII)I"⟩
abbrev cX10_herd : ByteArray := prog_12_method_46_code
def yX10_herd : MethodName := ⟨RX10, "herd", "(IIIII)Z"⟩
abbrev cX10_drop : ByteArray := prog_12_method_47_code
def yX10_drop : MethodName := ⟨RX10, "drop", "(I)Z"⟩
abbrev cX10_way : ByteArray := prog_12_method_48_code
def yX10_way : MethodName := ⟨RX10, "way", "(III)Z"⟩
abbrev cX10_dawn : ByteArray := prog_12_method_49_code
def yX10_dawn : MethodName := ⟨RX10, "dawn", "(II)V"⟩
abbrev cX10_mayDo : ByteArray := prog_12_method_50_code
def yX10_mayDo : MethodName := ⟨RX10, "mayDo", "(III)Z"⟩
abbrev cX10_goes : ByteArray := prog_12_method_51_code
def yX10_goes : MethodName := ⟨RX10, "goes", "(IIII)V"⟩
abbrev cX10_isGood : ByteArray := prog_12_method_52_code
def yX10_isGood : MethodName := ⟨RX10, "isGood", "(II)Z"⟩
abbrev cX10_plan : ByteArray := prog_12_method_53_code
def yX10_plan : MethodName := ⟨RX10, "plan", "(II)I"⟩
abbrev cX10_step : ByteArray := prog_12_method_54_code
def yX10_step : MethodName := ⟨RX10, "step", "(II)I"⟩
abbrev cX10_far : ByteArray := prog_12_method_55_code
def yX10_far : MethodName := ⟨RX10, "far", "()I"⟩
abbrev cX10_count : ByteArray := prog_12_method_56_code
def yX10_count : MethodName := ⟨RX10, "count", "(I)I"⟩
def RJ9 : String := "java/lang/Math"
def TJ9 : u_T := fun k => match k with
  | _ => ("", "", "", false)
def tyJ9 : Nat → FieldType := fun k => match k with
  | _ => .int
abbrev wsJ90 : List Cond := u_ws RJ9 TJ9 0
theorem nmJ9 : ∀ a, a < 0 → ∀ b, b < 0 → a ≠ b → (TJ9 a).2.1 ≠ (TJ9 b).2.1 := by decide +kernel
theorem tyJ9_ok : ∀ k, k < 0 → parseFieldDescriptor (TJ9 k).2.2.1 = some (tyJ9 k) := by decide +kernel
abbrev cJ9_max_7cf53 : ByteArray := prog_15_method_65_code
def yJ9_max_7cf53 : MethodName := ⟨RJ9, "max", "(II)I"⟩
abbrev cJ9_min_7cf53 : ByteArray := prog_15_method_69_code
def yJ9_min_7cf53 : MethodName := ⟨RJ9, "min", "(II)I"⟩
def RJ0 : String := "java/lang/String"
def TJ0 : u_T := fun k => match k with
  | _ => ("", "", "", false)
def tyJ0 : Nat → FieldType := fun k => match k with
  | _ => .int
abbrev wsJ00 : List Cond := u_ws RJ0 TJ0 0
theorem nmJ0 : ∀ a, a < 0 → ∀ b, b < 0 → a ≠ b → (TJ0 a).2.1 ≠ (TJ0 b).2.1 := by decide +kernel
theorem tyJ0_ok : ∀ k, k < 0 → parseFieldDescriptor (TJ0 k).2.2.1 = some (tyJ0 k) := by decide +kernel
abbrev cJ0_length_8abf5 : ByteArray := prog_17_method_54_code
def yJ0_length_8abf5 : MethodName := ⟨RJ0, "length", "()I"⟩
abbrev cJ0_charAt_5068e : ByteArray := prog_17_method_56_code
def yJ0_charAt_5068e : MethodName := ⟨RJ0, "charAt", "(I)C"⟩
abbrev cJ0_coder_7d493 : ByteArray := prog_17_method_152_code
def yJ0_coder_7d493 : MethodName := ⟨RJ0, "coder", "()B"⟩
abbrev cJ0_isLatin1_aae02 : ByteArray := prog_17_method_154_code
def yJ0_isLatin1_aae02 : MethodName := ⟨RJ0, "isLatin1", "()Z"⟩
abbrev cJ0_checkIndex_df160 : ByteArray := prog_17_method_155_code
def yJ0_checkIndex_df160 : MethodName := ⟨RJ0, "checkIndex", "(II)V"⟩
def RJ1 : String := "java/lang/StringLatin1"
def TJ1 : u_T := fun k => match k with
  | _ => ("", "", "", false)
def tyJ1 : Nat → FieldType := fun k => match k with
  | _ => .int
abbrev wsJ10 : List Cond := u_ws RJ1 TJ1 0
theorem nmJ1 : ∀ a, a < 0 → ∀ b, b < 0 → a ≠ b → (TJ1 a).2.1 ≠ (TJ1 b).2.1 := by decide +kernel
theorem tyJ1_ok : ∀ k, k < 0 → parseFieldDescriptor (TJ1 k).2.2.1 = some (tyJ1 k) := by decide +kernel
abbrev cJ1_charAt_3b067 : ByteArray := prog_18_method_2_code
def yJ1_charAt_3b067 : MethodName := ⟨RJ1, "charAt", "([BI)C"⟩
def RJ2 : String := "java/lang/StringUTF16"
def TJ2 : u_T := fun k => match k with
  | _ => ("", "", "", false)
def tyJ2 : Nat → FieldType := fun k => match k with
  | _ => .int
abbrev wsJ20 : List Cond := u_ws RJ2 TJ2 0
theorem nmJ2 : ∀ a, a < 0 → ∀ b, b < 0 → a ≠ b → (TJ2 a).2.1 ≠ (TJ2 b).2.1 := by decide +kernel
theorem tyJ2_ok : ∀ k, k < 0 → parseFieldDescriptor (TJ2 k).2.2.1 = some (tyJ2 k) := by decide +kernel
abbrev cJ2_getChar_3b067 : ByteArray := prog_19_method_5_code
def yJ2_getChar_3b067 : MethodName := ⟨RJ2, "getChar", "([BI)C"⟩
abbrev cJ2_length_9d52b : ByteArray := prog_19_method_6_code
def yJ2_length_9d52b : MethodName := ⟨RJ2, "length", "([B)I"⟩
abbrev cJ2_charAt_3b067 : ByteArray := prog_19_method_83_code
def yJ2_charAt_3b067 : MethodName := ⟨RJ2, "charAt", "([BI)C"⟩
abbrev cJ2_checkIndex_2214a : ByteArray := prog_19_method_91_code
def yJ2_checkIndex_2214a : MethodName := ⟨RJ2, "checkIndex", "(I[B)V"⟩
def RJ10 : String := "java/lang/System"
def TJ10 : u_T := fun k => match k with
  | _ => ("", "", "", false)
def tyJ10 : Nat → FieldType := fun k => match k with
  | _ => .int
abbrev wsJ100 : List Cond := u_ws RJ10 TJ10 0
theorem nmJ10 : ∀ a, a < 0 → ∀ b, b < 0 → a ≠ b → (TJ10 a).2.1 ≠ (TJ10 b).2.1 := by decide +kernel
theorem tyJ10_ok : ∀ k, k < 0 → parseFieldDescriptor (TJ10 k).2.2.1 = some (tyJ10 k) := by decide +kernel
def RJ7 : String := "java/util/Arrays"
def TJ7 : u_T := fun k => match k with
  | _ => ("", "", "", false)
def tyJ7 : Nat → FieldType := fun k => match k with
  | _ => .int
abbrev wsJ70 : List Cond := u_ws RJ7 TJ7 0
theorem nmJ7 : ∀ a, a < 0 → ∀ b, b < 0 → a ≠ b → (TJ7 a).2.1 ≠ (TJ7 b).2.1 := by decide +kernel
theorem tyJ7_ok : ∀ k, k < 0 → parseFieldDescriptor (TJ7 k).2.2.1 = some (tyJ7 k) := by decide +kernel
abbrev cJ7_fill_53178 : ByteArray := prog_22_method_103_code
def yJ7_fill_53178 : MethodName := ⟨RJ7, "fill", "([II)V"⟩
def RJ3 : String := "jdk/internal/util/Preconditions"
def TJ3 : u_T := fun k => match k with
  | _ => ("", "", "", false)
def tyJ3 : Nat → FieldType := fun k => match k with
  | _ => .int
abbrev wsJ30 : List Cond := u_ws RJ3 TJ3 0
theorem nmJ3 : ∀ a, a < 0 → ∀ b, b < 0 → a ≠ b → (TJ3 a).2.1 ≠ (TJ3 b).2.1 := by decide +kernel
theorem tyJ3_ok : ∀ k, k < 0 → parseFieldDescriptor (TJ3 k).2.2.1 = some (tyJ3 k) := by decide +kernel
abbrev cJ3_checkIndex_8e157 : ByteArray := prog_24_method_11_code
def yJ3_checkIndex_8e157 : MethodName := ⟨RJ3, "checkIndex", "(IILjava/util/function/BiFunction;)I"⟩
def RL : String := "WellCourtLaw"
abbrev cL_drawn : ByteArray := method_3_code
def yL_drawn : MethodName := ⟨RL, "drawn", "(LWellCourt;II[J)I"⟩
abbrev cL_plan : ByteArray := method_4_code
def yL_plan : MethodName := ⟨RL, "plan", "(LWellCourt;II[J)I"⟩
abbrev cL_law : ByteArray := code
def yL_law : MethodName := ⟨RL, "law", "([I)Z"⟩
abbrev vwCl : List vw_C := [(RX0, TX0, 1), (RX1, TX1, 3), (RX2, TX2, 5), (RX3, TX3, 3), (RX4, TX4, 14), (RX5, TX5, 2), (RX6, TX6, 15), (RX7, TX7, 6), (RX8, TX8, 2), (RX9, TX9, 12), (RX10, TX10, 59)]
end
section
/-! One list of words for all methods; one shape of contract; one row a call, an entry, an end. -/
def gz_T : List Cond := lw_tbl.filter goodWord
theorem gz_at {w : Cond} (i : Nat) (h : tables_1[i]? = some w) (g : goodWord w = true) : w ∈ gz_T := List.mem_filter.mpr ⟨List.mem_append_right _ (List.mem_of_getElem? h), g⟩
theorem gz_sel {w : Cond} (i : Nat) (h : (k2_sels lw_privs)[i]? = some w) (g : goodWord w = true) : w ∈ gz_T := List.mem_filter.mpr ⟨List.mem_append_left _ (List.mem_of_getElem? h), g⟩
theorem gz_good {y : MethodName} {bytes : ByteArray} {maxL : Nat} {ret : Option FieldType} (h : Cond.code y bytes maxL ret ∈ gz_T) : GoodIn gz_T (Cond.code y bytes maxL ret :: gz_T) := fun w hw => by
  have hm : w ∈ gz_T := (List.mem_cons.mp hw).elim (fun e => e ▸ h) id
  exact ⟨hm, good_of_word (List.mem_filter.mp hm).2⟩
/-- the array classes that the worlds speak of: int, byte, boolean, int[], WellCourt$Day, long -/
abbrev gzK (cy : Nat → ClassId) : List (ClassId × FieldType) := [(cy 0, .int), (cy 1, .byte), (cy 2, .boolean), (cy 3, .array .int), (cy 4, .object "WellCourt$Day"), (cy 5, .long)]
/-- the words of nest mates' private members -/
def gNest : Cond → Bool
  | .fieldLinkNest .. => true
  | .methodLinkNest .. => true
  | _ => false
def gzN : List Cond := tables_1.filter gNest
theorem gz_nest {w : Cond} (i : Nat) (h : tables_1[i]? = some w) (g : gNest w = true) : w ∈ gzN := List.mem_filter.mpr ⟨List.mem_of_getElem? h, g⟩
/-- what isn't among the good words: arrays over int[] and over WellCourt$Day are there; nest mates' words -/
def gOv (U : State) : Prop := va_AOA .int U ∧ va_AO "WellCourt$Day" U ∧ ∀ w ∈ gzN, va_Nw w U
theorem gOv.same {u U : State} (hvm : u.vm = U.vm) (h : gOv u) : gOv U := ⟨over_moved (a := #[]) (a' := #[]) (by rw [hvm]; exact Vm.Alike.refl U.vm) h.1, va_AO.moved (by rw [hvm]; exact Vm.Alike.refl U.vm) h.2.1, fun w hw => by
  have hg : gNest w = true := (List.mem_filter.mp hw).2
  refine va_Nw.same ?_ hvm (h.2.2 w hw)
  cases w <;> first | rfl | (simp [gNest] at hg; done)⟩
theorem gOv.warm {u U : State} (hW : u.WarmedH U.vm) (h : gOv u) : gOv U := ⟨over_moved (a := #[]) (a' := #[]) hW.alike h.1, va_AO.moved hW.alike h.2.1, fun w hw => by
  have hg : gNest w = true := (List.mem_filter.mp hw).2
  have h0 := h.2.2 w hw
  cases w <;> first | (simp [gNest] at hg; done) | exact va_Nw.warmF hW h0 | exact va_Nw.warmM hW h0⟩
/-- a contract's start: the cells ws, apart, in a heap of sz cells -/
abbrev gP (G : va_G) (cy : Nat → ClassId) (sz : Nat) (ws : va_W) : State → Prop := fun U => U.heap.size = sz ∧ va_P G vwCl ws U.heap ∧ (va_K G vwCl (gzK cy) U ∧ gOv U) ∧ va_D (fun _ => True) ws
/-- a contract's end: the cells cf u -/
abbrev gB {S : Type} (G : va_G) (cy : Nat → ClassId) (A : Nat → Prop) (cf : S → va_W) : S → State → Prop := fun u t => va_P G vwCl (cf u) t.heap ∧ va_K G vwCl (gzK cy) t ∧ va_D A (cf u)
abbrev gQi {S : Type} (G : va_G) (cy : Nat → ClassId) (post : Int32 → S → Prop) (cf : S → va_W) (A : Nat → Prop) := va_Qi post (gB G cy A cf) A
abbrev gQv {S : Type} (G : va_G) (cy : Nat → ClassId) (post : S → Prop) (cf : S → va_W) (A : Nat → Prop) := va_Qv post (gB G cy A cf) A
/-- the contract of a method with an int (boolean) answer, of one without -/
abbrev gMi {S : Type} (l : Launch) (y : MethodName) (bytes : ByteArray) (maxL : Nat) (ret : Option FieldType) (rm : Room) (G : va_G) (cy : Nat → ClassId) (sz : Nat) (av : List Value) (ws : va_W) (post : Int32 → S → Prop) (cf : S → va_W) : Prop :=
  Met l y (Cond.code y bytes maxL ret :: gz_T) rm (va_Pc av (gP G cy sz ws)) (gQi G cy post cf (va_A ws sz)) rm.cells rm.slots (va_A ws sz)
abbrev gMv {S : Type} (l : Launch) (y : MethodName) (bytes : ByteArray) (maxL : Nat) (rm : Room) (G : va_G) (cy : Nat → ClassId) (sz : Nat) (av : List Value) (ws : va_W) (post : S → Prop) (cf : S → va_W) : Prop :=
  Met l y (Cond.code y bytes maxL none :: gz_T) rm (va_Pc av (gP G cy sz ws)) (gQv G cy post cf (va_A ws sz)) rm.cells rm.slots (va_A ws sz)
theorem gz_blind {G : va_G} {cy : Nat → ClassId} {sz : Nat} {av : List Value} {ws : va_W} : FrameBlind (va_Pc av (gP G cy sz ws)) := fun a U g mk q => by
  obtain ⟨q0, q1, qP, qK, qD⟩ := q
  exact ⟨q0, q1, qP, ⟨va_K.moved (u := U) (U := U.calling g mk a) (Vm.Alike.refl U.vm) qK.1, gOv.same (u := U) (U := U.calling g mk a) rfl qK.2⟩, qD⟩
/-- the entry of a method -/
theorem gz_start {l : Launch} {y : MethodName} {cc : ByteArray} {maxL : Nat} {ret : Option FieldType} {rm : Room} {G : va_G} {cy : Nat → ClassId} {sz : Nat} {av : List Value} {ws : va_W} (Qf : (Nat → Prop) → Array Value → State → Outcome → State → Prop)
    (hy : plainName y.cls = true) (hn : (lg_sl av).length ≤ maxL)
    (body : ∀ (p : Program) (e : Env) (s : State) (m : MethodId) (below : List Frame) (meth : Method) (c : Code) (A : Nat → Prop) (ls : Array Slot) (H : Heap), p.tables.exec = Jvm.exec → c.code = cc → meth.sig.returnType = ret → c.maxLocals = maxL → meth.locks = false → meth.name = y.name → s.vm.findClass y.cls = some m.cls → (∀ w ∈ gz_T, w.before av.toArray s = true) →
      va_K G vwCl (gzK cy) s → gOv s → H.size = sz → va_P G vwCl ws H → va_D A ws → va_S A s.heap H [] → (∀ q, s.heap.size ≤ q → A q) → lv_has ls maxL (lv_args 0 av) →
      W p l e rm s m av.toArray below meth c H [] 0 0 (MQ below (Qf A) av.toArray s rm.cells rm.slots A) (F0 m 0 ls [])) :
    Met l y (Cond.code y cc maxL ret :: gz_T) rm (va_Pc av (gP G cy sz ws)) (Qf (va_A ws sz)) rm.cells rm.slots (va_A ws sz) := by
  refine Met.ofW (cc := cc) (maxL := maxL) (ret := ret) hy rfl ?_
  intro p e s m args below meth c s₁ B hml hv
  obtain ⟨rfl, hsz, hP, ⟨hK, hov⟩, hD0⟩ := hv
  subst hsz
  have hl := lv_entry av (n := maxL) hn
  rw [lg_entry_eq]
  exact body p e s m below meth c _ _ s.heap B.exec B.bytes B.returns hml B.notSynchronized (name_of_methodNamed B.named B.method).1 (findClass_of_methodNamed B.named) (fun w h => atoms_spec (ws := Cond.code y cc maxL ret :: gz_T) B.pre w (List.mem_cons_of_mem _ h)) hK hov rfl hP (hD0.self (sz := s.heap.size)) va_S.rf (fun q h => Or.inr h) hl
section GZ
variable {p : Program} {l : Launch} {e : Env} {R : Room} {s : State} {m : MethodId} {args : Array Value} {below : List Frame} {meth : Method} {c : Code} {H H0 : Heap} {locs : List Loc} {cells slots : Nat} {Q : State → Prop}
variable {G : va_G} {cy : Nat → ClassId} {A : Nat → Prop} {ws wc wr : va_W} {cc bytes : ByteArray} {pc : Nat} {ls : Array Slot} {S : Type} {st0 rest : List Value} {maxL index n : Nat} {y : MethodName} {ret : Option FieldType} {own C : String} {rm : Room} {mc ms : Nat}
theorem gz_fm : ∀ {is : List Nat} {w2 : va_W}, is.map (fun i => ws[i]?) = w2.map some → is.filterMap (fun i => ws[i]?) = w2
  | [], [], _ => rfl
  | [], _ :: _, h => by cases h
  | _ :: _, [], h => by cases h
  | i :: is, x :: w2, h => by
    have h1 : ws[i]? = some x ∧ is.map (fun i => ws[i]?) = w2.map some := by
      have := List.cons.inj h
      exact this
    rw [List.filterMap_cons, h1.1]
    exact congrArg (x :: ·) (gz_fm h1.2)
theorem gz_iret {post : Int32 → S → Prop} {cf : S → va_W} {ty : FieldType} (hx : p.tables.exec = Jvm.exec) (hb : c.code = cc) (hr : meth.sig.returnType = some ty) (hlocks : meth.locks = false) (hK : va_K G vwCl (gzK cy) s) (hP : va_P G vwCl ws H) (hD : va_D A ws) (hS : va_S A s.heap H locs) {r : Int32} (u : S) (is : List Nat) (hn : narrow ty (.int r) = .int r) (hpost : post r u) (h2 : va_nd is = true) (h3 : is.map (fun i => ws[i]?) = (cf u).map some) (hc : cells ≤ mc) (hs : slots ≤ ms) (hdg : decode cc pc = .ok (.ireturn, 1)) :
    W p l e R s m args below meth c H locs cells slots (MQ below (gQi G cy post cf A) args s mc ms A) (F0 m pc ls [.int r]) := by
  refine W.widen (k := mc) (n := ms) hc hs ?_
  exact W.zret hx hb hr hn (fun t ht hW => ⟨⟨r, u, rfl, hpost, by rw [ht]; exact hP.sub is (gz_fm h3), va_K.moved hW.alike hK, hD.sub is h2 h3⟩, hS.F ht⟩) hS.2.2 hdg hlocks
theorem gz_vret {post : S → Prop} {cf : S → va_W} (hx : p.tables.exec = Jvm.exec) (hb : c.code = cc) (hr : meth.sig.returnType = none) (hlocks : meth.locks = false) (hK : va_K G vwCl (gzK cy) s) (hP : va_P G vwCl ws H) (hD : va_D A ws) (hS : va_S A s.heap H locs) (u : S) (is : List Nat) (hpost : post u) (h2 : va_nd is = true) (h3 : is.map (fun i => ws[i]?) = (cf u).map some) (hc : cells ≤ mc) (hs : slots ≤ ms) (hdg : decode cc pc = .ok (.return_, 1)) :
    W p l e R s m args below meth c H locs cells slots (MQ below (gQv G cy post cf A) args s mc ms A) (F0 m pc ls []) := by
  refine W.widen (k := mc) (n := ms) hc hs ?_
  exact W.vret hx hb hr (fun t ht hW => ⟨⟨u, rfl, hpost, by rw [ht]; exact hP.sub is (gz_fm h3), va_K.moved hW.alike hK, hD.sub is h2 h3⟩, hS.F ht⟩) hS.2.2 hdg hlocks
/-- what a call's words are -/
theorem gz_cb (hts : ∀ w ∈ gz_T, w.before args s = true) (m1 : Cond.methodLink own index y ∈ gz_T) (m4 : Cond.initialized y.cls ∈ gz_T) (m5 : Cond.code y bytes maxL ret ∈ gz_T)
    (hd : y.cls ≠ "java/lang/invoke/MethodHandle" ∧ y.cls ≠ "java/lang/invoke/VarHandle" ∧ (parseMethodDescriptor y.desc).map (fun d => d.parameters.length) = some n) (hR : rm.frames + 1 ≤ R.frames ∧ 8 + (maxL + 11) + rm.locals ≤ R.locals) :
    CallB R s args own index y bytes maxL ret (Cond.code y bytes maxL ret :: gz_T) rm rm.cells rm.slots n := callB_of n hts (gz_good m5) rfl rfl rfl (hts _ m4) (hts _ m1) hd hR
theorem gz_preS (hK : va_K G vwCl (gzK cy) s) (hov : gOv s) (hP : va_P G vwCl ws H) (hD : va_D A ws) (isC : List Nat) (hn : va_nd isC = true) (hC : isC.map (fun i => ws[i]?) = wc.map some) {As : List Value} : PreS s H (va_Pc As (gP G cy H.size wc)) As :=
  ⟨gz_blind, fun U hU hW => ⟨rfl, by rw [hU], by rw [hU]; exact hP.sub isC (gz_fm hC), ⟨va_K.moved hW.alike hK, hov.warm hW⟩, (hD.sub isC hn hC).weaken (fun _ _ _ _ => trivial)⟩⟩
theorem gz_preV {T : u_T} {N ci b q0 : Nat} {fs As : List Value} (hK : va_K G vwCl (gzK cy) s) (hov : gOv s) (hP : va_P G vwCl ws H) (hD : va_D A ws) (isC : List Nat) (hn : va_nd isC = true) (hC : isC.map (fun i => ws[i]?) = wc.map some) (hc : vwCl[ci]? = some (C, T, N)) (he : wc[q0]? = some (b, .inr (ci, fs))) : PreV s H C b (va_Pc (.ref b :: As) (gP G cy H.size wc)) As :=
  ⟨gz_blind, va_recv hK (hP.sub isC (gz_fm hC)) hc he, (gz_preS hK hov hP hD isC hn hC).2⟩
theorem gz_mf : ∀ {is : List Nat}, is.all (fun i => decide (i < ws.length)) = true → is.map (fun i => ws[i]?) = (is.filterMap (fun i => ws[i]?)).map some
  | [], _ => rfl
  | i :: is, h => by
    have h1 : decide (i < ws.length) = true ∧ is.all (fun i => decide (i < ws.length)) = true := by
      rw [List.all_cons, Bool.and_eq_true] at h
      exact h
    have h2 : i < ws.length := of_decide_eq_true h1.1
    rw [List.filterMap_cons, List.map_cons, List.getElem?_eq_getElem h2, gz_mf h1.2]
    rfl
/-- behind a call -/
theorem gz_afti {post : Int32 → S → Prop} {cf : S → va_W} {a : Array Value}
    (hr : va_Run p l e R s m args below meth c H locs cells slots mc ms (F0 m pc ls st0) rest (gQi G cy post cf (va_A wc H.size) a) (va_A wc H.size))
    (hP : va_P G vwCl ws H) (hD : va_D A ws) (hS : va_S A H0 H locs) (hA : ∀ q, H0.size ≤ q → A q) (isC isR : List Nat) (hC : isC.map (fun i => ws[i]?) = wc.map some) (hR : isR.all (fun i => decide (i < ws.length)) = true) (hnR : va_nd isR = true) (hdis : ∀ i ∈ isR, i ∉ isC)
    (kk : ∀ (r : Int32) (u : S) (H1 : Heap) (locs1 : List Loc), post r u → va_P G vwCl (isR.filterMap (fun i => ws[i]?) ++ cf u) H1 → va_D A (isR.filterMap (fun i => ws[i]?) ++ cf u) → va_S A H0 H1 locs1 → W p l e R s m args below meth c H1 locs1 (cells + mc) (slots + ms) Q (F0 m (pc + 3) ls (.int r :: rest))) :
    W p l e R s m args below meth c H locs cells slots Q (F0 m pc ls st0) := by
  have hFc := va_free (wc := wc) hD hS hA isC hC
  refine va_calli hr hS (fun q _ h => hFc q h) hFc (fun r u t H1 locs1 ht hvm hw hB hz1 hk1 hS1 => ?_)
  obtain ⟨hP1, hK1, hD1⟩ := hB
  rw [ht] at hP1
  obtain ⟨hP2, hD2⟩ := va_join hP hD isC isR hC (gz_mf hR) hnR hdis hk1 hFc hP1 hD1
  exact kk r u H1 locs1 hw hP2 hD2 hS1
theorem gz_aftv {post : S → Prop} {cf : S → va_W} {a : Array Value}
    (hr : va_Run p l e R s m args below meth c H locs cells slots mc ms (F0 m pc ls st0) rest (gQv G cy post cf (va_A wc H.size) a) (va_A wc H.size))
    (hP : va_P G vwCl ws H) (hD : va_D A ws) (hS : va_S A H0 H locs) (hA : ∀ q, H0.size ≤ q → A q) (isC isR : List Nat) (hC : isC.map (fun i => ws[i]?) = wc.map some) (hR : isR.all (fun i => decide (i < ws.length)) = true) (hnR : va_nd isR = true) (hdis : ∀ i ∈ isR, i ∉ isC)
    (kk : ∀ (u : S) (H1 : Heap) (locs1 : List Loc), post u → va_P G vwCl (isR.filterMap (fun i => ws[i]?) ++ cf u) H1 → va_D A (isR.filterMap (fun i => ws[i]?) ++ cf u) → va_S A H0 H1 locs1 → W p l e R s m args below meth c H1 locs1 (cells + mc) (slots + ms) Q (F0 m (pc + 3) ls rest)) :
    W p l e R s m args below meth c H locs cells slots Q (F0 m pc ls st0) := by
  have hFc := va_free (wc := wc) hD hS hA isC hC
  refine va_callv hr hS (fun q _ h => hFc q h) hFc (fun u t H1 locs1 ht hvm hw hB hz1 hk1 hS1 => ?_)
  obtain ⟨hP1, hK1, hD1⟩ := hB
  rw [ht] at hP1
  obtain ⟨hP2, hD2⟩ := va_join hP hD isC isR hC (gz_mf hR) hnR hdis hk1 hFc hP1 hD1
  exact kk u H1 locs1 hw hP2 hD2 hS1
/-- a new array of a class that is known -/
theorem gz_newa (hx : p.tables.exec = Jvm.exec) (hb : c.code = cc) {atype : ArrayType} {ty : FieldType} (t0 : Nat) {cA : ClassId} (ht0 : (gzK cy)[t0]? = some (cA, ty)) (hpr : ∀ (U : State) (c9 : ClassId), va_RA U c9 ty → U.vm.findClass ("[" ++ ty.toString) = some c9) (harr : (Cond.arrayClass (newarray.typeOf atype)).before args s = true) (hty : newarray.typeOf atype = ty) (hK : va_K G vwCl (gzK cy) s) (hP : va_P G vwCl ws H) (hD : va_D A ws) (hS : va_S A H0 H locs) (hA : ∀ q, H0.size ≤ q → A q)
    {n : Int32} {N' : Nat} {a0 : vp_A} (ha : ∀ cA : ClassId, vp_cell cA a0 = arrV cA N' (fun _ => defaultValue ty)) (hn : ¬ n < 0) (hN : n.toNatClampNeg = N') (hbytes : N' * componentBytes ty ≤ 536870912) (hcells : cells + 1 ≤ R.cells) (hslots : slots + N' ≤ R.slots) (hdg : decode cc pc = .ok (.newarray atype, 2))
    (kk : ∀ (q : Nat) (H1 : Heap), va_P G vwCl (ws ++ [(q, .inl (cA, a0))]) H1 → va_D A (ws ++ [(q, .inl (cA, a0))]) → va_S A H0 H1 locs → W p l e R s m args below meth c H1 locs (cells + 1) (slots + N') Q (F0 m (pc + 2) ls (.ref q :: rest))) : W p l e R s m args below meth c H locs cells slots Q (F0 m pc ls (.int n :: rest)) := by
  refine va_newa hx hb harr hty hK hP hD hS hA ha hn hN hbytes hcells hslots hdg (fun q c9 H1 hK9 hP9 hD9 hS9 => ?_)
  have h9 := (hK9.2 (gzK cy).length (c9, ty) (by rw [List.getElem?_append_right (Nat.le_refl _), Nat.sub_self]; rfl)).2
  have e9 : c9 = cA := Option.some.inj ((hpr _ _ h9).symm.trans (hpr _ _ (hK.2 t0 _ ht0).2))
  subst e9
  exact kk q H1 hP9 hD9 hS9
/-- a row out of an array of int arrays -/
theorem gz_alda (hx : p.tables.exec = Jvm.exec) (hb : c.code = cc) (hK : va_K G vwCl (gzK cy) s) (hP : va_P G vwCl ws H) {a : Nat} (q0 : Nat) {n : Nat} {f : Nat → Option Nat} (ha : ws[q0]? = some (a, .inl (cy 3, n, .inr (.inr (.inr (.inr f)))))) {i : Int32} (hin : vp_in i n) (hdg : decode cc pc = .ok (.aaload, 1)) {v : Value} (hv : va_rf (f i.toNatClampNeg) = v)
    (kk : W p l e R s m args below meth c H locs cells slots Q (F0 m (pc + 1) ls (v :: rest))) : W p l e R s m args below meth c H locs cells slots Q (F0 m pc ls (.int i :: .ref a :: rest)) := by
  subst hv
  have hlt : i.toNatClampNeg < n := Nat.not_le.mp fun q => hin (Or.inr q)
  exact W.aald (v := va_rf (f i.toNatClampNeg)) (ty := .array .int) hx hb (hP q0 _ ha) ((hK.2 3 (cy 3, .array .int) rfl).1 n (fun j => va_rf (f j))) rfl (fun q => by cases q) (by show ¬ (i < 0 ∨ (arrV _ _ _).slots.size ≤ _); rw [arrV_size]; exact hin) (by show (arrV _ _ _).slots[_]? = _; rw [arrV_read _ _ hlt]) rfl rfl hdg kk
/-- an array's contents count below its length alone -/
theorem gz_arr {k a n : Nat} {cA : ClassId} {f g : Nat → Int32} (h : ∀ j, j < n → f j = g j) (hP : va_P G vwCl ws H) (hk : ws[k]? = some (a, .inl (cA, n, .inl f))) : va_P G vwCl (ws.set k (a, .inl (cA, n, .inl g))) H := by
  intro j q hj
  by_cases e : k = j
  · subst e
    have hlt : k < ws.length := (List.getElem?_eq_some_iff.mp hk).1
    rw [List.getElem?_set_self hlt] at hj
    cases hj
    have h0 := hP k _ hk
    show H[a]? = some (arrV cA n (fun j => .int (g j)))
    have h1 : H[a]? = some (arrV cA n (fun j => .int (f j))) := h0
    rw [h1]
    congr 1
    unfold arrV
    congr 1
    apply Array.ext
    · simp
    · intro i h1 h2
      simp at h1
      simp [h i h1]
  · rw [List.getElem?_set_ne e] at hj
    exact hP j q hj
end GZ
end
section
theorem gz_inX {ws : List Cond} (ps : List Nat) (hp : ws = ps.filterMap (fun i => tables_1[i]?)) (hg : ws.all goodWord = true) : ∀ w ∈ ws, w ∈ gz_T := fun w hw => by
  have h1 := List.all_eq_true.mp hg w hw
  rw [hp] at hw
  obtain ⟨i, -, hi⟩ := List.mem_filterMap.mp hw
  exact gz_at i hi h1
theorem gz_lt {a b : Int32} {x y : Int} (ha : a.toInt = x) (hb : b.toInt = y) (h : a < b) : x < y := by rw [← ha, ← hb]; exact Int32.lt_iff_toInt_lt.mp h
theorem gz_nlt {a b : Int32} {x y : Int} (ha : a.toInt = x) (hb : b.toInt = y) (h : ¬ a < b) : y ≤ x := by rw [← ha, ← hb]; exact Int.not_lt.mp (fun q => h (Int32.lt_iff_toInt_lt.mpr q))
theorem gz_le {a b : Int32} {x y : Int} (ha : a.toInt = x) (hb : b.toInt = y) (h : a ≤ b) : x ≤ y := by rw [← ha, ← hb]; exact Int32.le_iff_toInt_le.mp h
theorem gz_nle {a b : Int32} {x y : Int} (ha : a.toInt = x) (hb : b.toInt = y) (h : ¬ a ≤ b) : y < x := by rw [← ha, ← hb]; exact Int.not_le.mp (fun q => h (Int32.le_iff_toInt_le.mpr q))
theorem gz_eq {a b : Int32} {x y : Int} (ha : a.toInt = x) (hb : b.toInt = y) (h : a = b) : x = y := by rw [← ha, ← hb, h]
theorem gz_eqn {a b : Int32} {x y : Int} (ha : a.toInt = x) (hb : b.toInt = y) (h : a = b) : x = y := by rw [← ha, ← hb, h]
theorem gz_ne {a b : Int32} {x y : Int} (ha : a.toInt = x) (hb : b.toInt = y) (h : ¬ a = b) : ¬ x = y := by rw [← ha, ← hb]; exact fun q => h (Int32.toInt_inj.mp q)
section GZM
variable {p : Program} {l : Launch} {e : Env} {R : Room} {s : State} {m : MethodId} {args : Array Value} {below : List Frame} {meth : Method} {c : Code} {H H0 : Heap} {locs : List Loc} {cells slots : Nat} {Q : State → Prop}
variable {G : va_G} {cy : Nat → ClassId} {A : Nat → Prop} {ws : va_W} {cc : ByteArray} {pc : Nat} {ls : Array Slot} {rest : List Value} {index : Nat} {own : String}
/-- new int[n][k]: the rows at r 0, r 1 .. -/
theorem gz_mna (hx : p.tables.exec = Jvm.exec) (hb : c.code = cc) (hown : s.vm.findClass own = some m.cls) (hclink : (Cond.classLink own index "[[I").before args s = true) (hover : va_AOA .int s) (harr : (Cond.arrayClass .int).before args s = true)
    (hK : va_K G vwCl (gzK cy) s) (hP : va_P G vwCl ws H) (hD : va_D A ws) (hS : va_S A H0 H locs) (hA : ∀ q, H0.size ≤ q → A q) {n k : Int32} {N' K' : Nat} (hn : ¬ n < 0) (hk : ¬ k < 0) (hN : n.toNatClampNeg = N') (hM : k.toNatClampNeg = K')
    (hb1 : N' * 4 ≤ 536870912) (hb2 : K' * componentBytes .int ≤ 536870912) (hb3 : K' ≤ 536870912) (hcells : cells + (1 + N') ≤ R.cells) (hslots : slots + (N' + N' * K') ≤ R.slots) (hdg : decode cc pc = .ok (.multianewarray index 2, 4))
    (kk : ∀ (q : Nat) (r : Nat → Nat) (H1 : Heap), va_P G vwCl (ws ++ ((q, .inl (cy 3, N', .inr (.inr (.inr (.inr (fun i => if i < N' then some (r i) else none)))))) :: (List.range N').map (fun i => (r i, .inl (cy 0, K', .inl (fun _ => 0)))))) H1 → va_D A (ws ++ ((q, .inl (cy 3, N', .inr (.inr (.inr (.inr (fun i => if i < N' then some (r i) else none)))))) :: (List.range N').map (fun i => (r i, .inl (cy 0, K', .inl (fun _ => 0)))))) → va_S A H0 H1 locs →
      W p l e R s m args below meth c H1 locs (cells + 1 + N') (slots + N' + N' * K') Q (F0 m (pc + 4) ls (.ref q :: rest))) : W p l e R s m args below meth c H locs cells slots Q (F0 m pc ls (.int k :: .int n :: rest)) := by
  have hP0 : va_P G vwCl (ws ++ va_pl [] (fun _ => .inr (0, []))) H := by
    show va_P G vwCl (ws ++ []) H
    rw [List.append_nil]; exact hP
  have hD0 : va_D A (ws ++ va_pl [] (fun _ => .inr (0, []))) := by
    show va_D A (ws ++ [])
    rw [List.append_nil]; exact hD
  refine va_mna (ty := .int) (cy := cy 0) (z := (K', .inl (fun _ => 0))) hx hb hown hclink hover harr (hK.2 0 (cy 0, .int) rfl).2 hK hP0 hD0 hS hA hn hk hN hM hb1 hb2 hb3 rfl rfl hcells hslots (fun c9 => arrV_new c9 K' (.int 0)) hdg (fun q r c9 H1 hi hl9 hK9 hP9 hD9 hS9 => ?_)
  have h9 : s.vm.findClass ("[" ++ (FieldType.array FieldType.int).toString) = some c9 := (hK9.2 (gzK cy).length (c9, .array .int) (by rw [List.getElem?_append_right (Nat.le_refl _), Nat.sub_self]; rfl)).2
  have h8 : s.vm.findClass ("[" ++ (FieldType.array FieldType.int).toString) = some (cy 3) := (hK.2 3 (cy 3, .array .int) rfl).2
  have e9 : c9 = cy 3 := Option.some.inj (h9.symm.trans h8)
  subst e9
  have ev : va_pl ([] ++ (List.range N').map r) (vr_up (fun _ => (.inr (0, []) : va_E)) ((List.range N').map r) (.inl (cy 0, (K', .inl (fun _ => 0))))) = (List.range N').map (fun i => (r i, .inl (cy 0, K', .inl (fun _ => 0)))) := by
    unfold va_pl
    rw [List.nil_append, List.map_map]
    apply List.map_congr_left
    intro i hi9
    show (r i, vr_up _ _ _ (r i)) = _
    rw [vr_up_in (List.mem_map.mpr ⟨i, hi9, rfl⟩)]
  rw [ev, List.append_assoc] at hP9 hD9
  exact kk q r H1 hP9 hD9 hS9
end GZM
section GZQ
variable {p : Program} {l : Launch} {e : Env} {R : Room} {s : State} {m : MethodId} {args : Array Value} {below : List Frame} {meth : Method} {c : Code} {H H0 : Heap} {locs : List Loc} {cells slots : Nat} {Q : State → Prop}
variable {G : va_G} {cy : Nat → ClassId} {A : Nat → Prop} {ws : va_W} {cc : ByteArray} {pc : Nat} {ls : Array Slot} {rest : List Value} {index : Nat} {own : String}
/-- new Day[n] -/
theorem gz_newq (hx : p.tables.exec = Jvm.exec) (hb : c.code = cc) (hown : s.vm.findClass own = some m.cls) (hclink : (Cond.classLink own index "WellCourt$Day").before args s = true) (hover : va_AO "WellCourt$Day" s) (hK : va_K G vwCl (gzK cy) s) (hP : va_P G vwCl ws H) (hD : va_D A ws) (hS : va_S A H0 H locs) (hA : ∀ q, H0.size ≤ q → A q)
    {n : Int32} {N' : Nat} (hn : ¬ n < 0) (hN : n.toNatClampNeg = N') (hbytes : N' * 4 ≤ 536870912) (hcells : cells + 1 ≤ R.cells) (hslots : slots + N' ≤ R.slots) (hdg : decode cc pc = .ok (.anewarray index, 3))
    (kk : ∀ (q : Nat) (H1 : Heap), va_P G vwCl (ws ++ [(q, .inl (cy 4, N', .inr (.inr (.inr (.inr (fun _ => none))))))]) H1 → va_D A (ws ++ [(q, .inl (cy 4, N', .inr (.inr (.inr (.inr (fun _ => none))))))]) → va_S A H0 H1 locs →
      W p l e R s m args below meth c H1 locs (cells + 1) (slots + N') Q (F0 m (pc + 3) ls (.ref q :: rest))) : W p l e R s m args below meth c H locs cells slots Q (F0 m pc ls (.int n :: rest)) := by
  refine va_newq hx hb hown hclink hover hK hP hD hS hA hn hN hbytes hcells hslots hdg (fun q c9 H1 hK9 hP9 hD9 hS9 => ?_)
  obtain ⟨_, _, -, -, -, h9⟩ := (hK9.2 (gzK cy).length (c9, .object "WellCourt$Day") (by rw [List.getElem?_append_right (Nat.le_refl _), Nat.sub_self]; rfl)).2
  obtain ⟨_, _, -, -, -, h8⟩ := (hK.2 4 (cy 4, .object "WellCourt$Day") rfl).2
  have e9 : c9 = cy 4 := Option.some.inj (h9.symm.trans h8)
  subst e9
  exact kk q H1 hP9 hD9 hS9
end GZQ
theorem gz_updc {g : Nat → Int32} {k n : Nat} {v : Int32} (h : ∀ j, j < n → g j = v) : ∀ j, j < n → upd g k v j = v := fun j hj => by
  by_cases e : j = k
  · rw [e]; exact pk_us
  · rw [pk_un e]; exact h j hj
theorem gz_six {w : Int32} (h0 : 0 ≤ w.toInt) (h1 : w.toInt < 6) : w = 0 ∨ w = 1 ∨ w = 2 ∨ w = 3 ∨ w = 4 ∨ w = 5 := by
  rcases (show w.toInt = 0 ∨ w.toInt = 1 ∨ w.toInt = 2 ∨ w.toInt = 3 ∨ w.toInt = 4 ∨ w.toInt = 5 by omega) with h | h | h | h | h | h
  · exact Or.inl (Int32.toInt_inj.mp (h.trans (by decide)))
  · exact Or.inr (Or.inl (Int32.toInt_inj.mp (h.trans (by decide))))
  · exact Or.inr (Or.inr (Or.inl (Int32.toInt_inj.mp (h.trans (by decide)))))
  · exact Or.inr (Or.inr (Or.inr (Or.inl (Int32.toInt_inj.mp (h.trans (by decide))))))
  · exact Or.inr (Or.inr (Or.inr (Or.inr (Or.inl (Int32.toInt_inj.mp (h.trans (by decide)))))))
  · exact Or.inr (Or.inr (Or.inr (Or.inr (Or.inr (Int32.toInt_inj.mp (h.trans (by decide)))))))
end
section
theorem dJ7_0 : decode cJ7_fill_53178 0 = .ok (.iconst 0, 1) := by decide +kernel
theorem dJ7_1 : decode cJ7_fill_53178 1 = .ok (.istore_n 2, 1) := by decide +kernel
theorem dJ7_2 : decode cJ7_fill_53178 2 = .ok (.aload_n 0, 1) := by decide +kernel
theorem dJ7_3 : decode cJ7_fill_53178 3 = .ok (.arraylength, 1) := by decide +kernel
theorem dJ7_4 : decode cJ7_fill_53178 4 = .ok (.istore_n 3, 1) := by decide +kernel
theorem dJ7_5 : decode cJ7_fill_53178 5 = .ok (.iload_n 2, 1) := by decide +kernel
theorem dJ7_6 : decode cJ7_fill_53178 6 = .ok (.iload_n 3, 1) := by decide +kernel
theorem dJ7_7 : decode cJ7_fill_53178 7 = .ok (.if_icmp .ge 13, 3) := by decide +kernel
theorem dJ7_10 : decode cJ7_fill_53178 10 = .ok (.aload_n 0, 1) := by decide +kernel
theorem dJ7_11 : decode cJ7_fill_53178 11 = .ok (.iload_n 2, 1) := by decide +kernel
theorem dJ7_12 : decode cJ7_fill_53178 12 = .ok (.iload_n 1, 1) := by decide +kernel
theorem dJ7_13 : decode cJ7_fill_53178 13 = .ok (.iastore, 1) := by decide +kernel
theorem dJ7_14 : decode cJ7_fill_53178 14 = .ok (.iinc 2 1, 3) := by decide +kernel
theorem dJ7_17 : decode cJ7_fill_53178 17 = .ok (.goto (-12), 3) := by decide +kernel
theorem dJ7_20 : decode cJ7_fill_53178 20 = .ok (.return_, 1) := by decide +kernel
set_option maxHeartbeats 4000000 in
set_option maxRecDepth 100000 in
theorem lp_fill {p : Program} {l : Launch} {e : Env} {R : Room} {s : State} {m : MethodId} {args : Array Value} {below : List Frame} {meth : Method} {c : Code} {cells slots : Nat} {Q : State → Prop} {G : va_G} {cy : Nat → ClassId} {A : Nat → Prop} {h0 n : Nat} {v : Int32}
    (hx : p.tables.exec = Jvm.exec) (hb : c.code = cJ7_fill_53178) (hK : va_K G vwCl (gzK cy) s) (hn : n < 2 ^ 31)
    (kend : ∀ (H : Heap) (locs : List Loc) (ls : Array Slot), va_P G vwCl [(h0, .inl (cy 0, n, .inl (fun _ => v)))] H → va_D A [(h0, .inl (cy 0, n, .inl (fun _ => v)))] → va_S A s.heap H locs → W p l e R s m args below meth c H locs cells slots Q (F0 m 20 ls [])) :
    ∀ (k i : Nat), i + k = n → ∀ (g : Nat → Int32), (∀ j, j < i → g j = v) → ∀ (H : Heap) (locs : List Loc) (ls : Array Slot), va_P G vwCl [(h0, .inl (cy 0, n, .inl g))] H → va_D A [(h0, .inl (cy 0, n, .inl g))] → va_S A s.heap H locs → lv_has ls 4 [(0, .ref h0), (1, .int v), (2, .int (nI i)), (3, .int (nI n))] → W p l e R s m args below meth c H locs cells slots Q (F0 m 5 ls []) := by
  intro k
  induction k with
  | zero =>
    intro i hi g hg H locs ls hP hD hS hl
    obtain rfl : i = n := by omega
    refine lv_iload_n hx hb dJ7_5 rfl (lv_at hl 2 rfl) ?_
    refine lv_iload_n hx hb dJ7_6 rfl (lv_at hl 3 rfl) ?_
    refine lv_icmp_ge (tgt := 20) hx hb dJ7_7 (by decide) (fun _ => ?_) (fun h9 => absurd (nI_le (Nat.le_refl _) hn) h9)
    exact kend H locs ls (gz_arr (k := 0) (g := fun _ => v) hg hP rfl) (hD.set (p := 0) rfl) hS
  | succ k ih =>
    intro i hi g hg H locs ls hP hD hS hl
    refine lv_iload_n hx hb dJ7_5 rfl (lv_at hl 2 rfl) ?_
    refine lv_iload_n hx hb dJ7_6 rfl (lv_at hl 3 rfl) ?_
    refine lv_icmp_ge (tgt := 20) hx hb dJ7_7 (by decide) (fun h9 => absurd h9 (nI_ge (by omega) hn)) (fun _ => ?_)
    refine lv_aload_n hx hb dJ7_10 rfl (lv_at hl 0 rfl) ?_
    refine lv_iload_n hx hb dJ7_11 rfl (lv_at hl 2 rfl) ?_
    refine lv_iload_n hx hb dJ7_12 rfl (lv_at hl 1 rfl) ?_
    refine va_iast hx hb hK hP hD hS 0 0 rfl rfl (vp_in_nI (by omega) hn) dJ7_13 (fun H locs hP hD hS => ?_)
    refine lv_iinc (v := nI (i + 1)) (lv' := [(2, .int (nI (i + 1))), (0, .ref h0), (1, .int v), (3, .int (nI n))]) hx hb dJ7_14 hl (k := 2) rfl (nI_1 i) (by decide) rfl (fun ls hl => ?_)
    refine lv_goto (tgt := 5) hx hb dJ7_17 (by decide) ?_
    refine ih (i + 1) (by omega) (upd g (nI i).toNatClampNeg v) (fun j hj => ?_) H locs ls hP hD hS (lv_sub hl [1, 2, 0, 3] rfl)
    rw [nI_clamp (by omega)]
    by_cases e : j = i
    · rw [e]; exact pk_us
    · rw [pk_un e]; exact hg j (by omega)
set_option maxHeartbeats 4000000 in
set_option maxRecDepth 100000 in
/-- Arrays.fill(a, v) -/
theorem c_fill (l : Launch) (G : va_G) (cy : Nat → ClassId) (sz : Nat) (h0 n : Nat) (f : Nat → Int32) (v : Int32) (hn : n < 2 ^ 31) : gMv l yJ7_fill_53178 cJ7_fill_53178 4 ({ frames := 0, cells := 0, slots := 0, locals := 0 }) G cy sz [.ref h0, .int v] [(h0, .inl (cy 0, n, .inl f))] (fun (u : Unit) => True) (fun (u : Unit) => [(h0, .inl (cy 0, n, .inl (fun _ => v)))]) := by
  refine gz_start (fun A => gQv G cy _ _ A) (by decide) (Nat.le_of_ble_eq_true rfl) ?_
  intro p e s m below meth c A ls H hx hb hr hml hlocks hin hown hts hK hov hsz hP hD hS hA hl
  have hl : lv_has ls 4 [(0, .ref h0), (1, .int v)] := hl
  refine lv_iconst (v := 0) hx hb dJ7_0 (by decide) ?_
  refine lv_istore_n (lv' := [(2, .int 0), (0, .ref h0), (1, .int v)]) hx hb dJ7_1 rfl hl (by decide) rfl (fun ls hl => ?_)
  refine lv_aload_n hx hb dJ7_2 rfl (lv_at hl 1 rfl) ?_
  refine va_alen (v := nI n) hx hb hK hP 0 0 rfl rfl rfl dJ7_3 ?_
  refine lv_istore_n (lv' := [(3, .int (nI n)), (2, .int 0), (0, .ref h0), (1, .int v)]) hx hb dJ7_4 rfl hl (by decide) rfl (fun ls hl => ?_)
  exact lp_fill hx hb hK hn (fun H locs ls hP hD hS => gz_vret (cf := (fun (u : Unit) => [(h0, .inl (cy 0, n, .inl (fun _ => v)))])) hx hb hr hlocks hK hP hD hS () [0] trivial (by decide) rfl (Nat.le_refl _) (Nat.le_refl _) dJ7_20) n 0 (by omega) f (fun j hj => absurd hj (Nat.not_lt_zero j)) H _ ls hP hD hS (lv_sub hl [2, 3, 1, 0] rfl)
end
section
theorem gm_6 : (Jvm.Cond.initialized "java/util/Arrays") ∈ gz_T := gz_at 6 (by decide +kernel) rfl
theorem gm_7 : (Jvm.Cond.initialized "WellCourt$Day") ∈ gz_T := gz_at 7 (by decide +kernel) rfl
theorem gm_30 : (Jvm.Cond.instanceMethod ({ cls := "java/lang/Object", name := "<init>", desc := "()V" } : Jvm.MethodName)) ∈ gz_T := gz_at 30 (by decide +kernel) rfl
theorem gm_31 : (Jvm.Cond.code ({ cls := "java/lang/Object", name := "<init>", desc := "()V" } : Jvm.MethodName) object_method_1_code (1 : Nat) (Option.none : Option Jvm.ClassFile.FieldType)) ∈ gz_T := gz_at 31 (by decide +kernel) rfl
theorem gm_37 : (Jvm.Cond.methodLink "WellCourt$Tape" (3 : Nat) ({ cls := "java/lang/Object", name := "<init>", desc := "()V" } : Jvm.MethodName)) ∈ gz_T := gz_at 37 (by decide +kernel) rfl
theorem gm_38 : (Jvm.Cond.fieldLink "WellCourt$Tape" (9 : Nat) "WellCourt$Tape" "bytes" "[B") ∈ gz_T := gz_at 38 (by decide +kernel) rfl
theorem gm_39 : (Jvm.Cond.fieldLink "WellCourt$Tape" (15 : Nat) "WellCourt$Tape" "size" "I") ∈ gz_T := gz_at 39 (by decide +kernel) rfl
theorem gm_46 : (Jvm.Cond.arrayClass Jvm.ClassFile.FieldType.byte) ∈ gz_T := gz_at 46 (by decide +kernel) rfl
theorem gm_52 : (Jvm.Cond.methodLink "WellCourt$Reader" (3 : Nat) ({ cls := "java/lang/Object", name := "<init>", desc := "()V" } : Jvm.MethodName)) ∈ gz_T := gz_at 52 (by decide +kernel) rfl
theorem gm_53 : (Jvm.Cond.fieldLink "WellCourt$Reader" (27 : Nat) "WellCourt$Reader" "tape" "LWellCourt$Tape;") ∈ gz_T := gz_at 53 (by decide +kernel) rfl
theorem gm_54 : (Jvm.Cond.fieldLink "WellCourt$Reader" (11 : Nat) "WellCourt$Reader" "kind" "I") ∈ gz_T := gz_at 54 (by decide +kernel) rfl
theorem gm_55 : (Jvm.Cond.fieldLink "WellCourt$Reader" (15 : Nat) "WellCourt$Reader" "start" "I") ∈ gz_T := gz_at 55 (by decide +kernel) rfl
theorem gm_56 : (Jvm.Cond.fieldLink "WellCourt$Reader" (18 : Nat) "WellCourt$Reader" "stop" "I") ∈ gz_T := gz_at 56 (by decide +kernel) rfl
theorem gm_57 : (Jvm.Cond.fieldLink "WellCourt$Reader" (21 : Nat) "WellCourt$Reader" "faultKind" "I") ∈ gz_T := gz_at 57 (by decide +kernel) rfl
theorem gm_59 : (Jvm.Cond.fieldLink "WellCourt$Reader" (24 : Nat) "WellCourt$Reader" "faultPlace" "I") ∈ gz_T := gz_at 59 (by decide +kernel) rfl
theorem gm_79 : (Jvm.Cond.methodLink "WellCourt$Land" (3 : Nat) ({ cls := "java/lang/Object", name := "<init>", desc := "()V" } : Jvm.MethodName)) ∈ gz_T := gz_at 79 (by decide +kernel) rfl
theorem gm_80 : (Jvm.Cond.classLink "WellCourt$Land" (18 : Nat) "[[I") ∈ gz_T := gz_at 80 (by decide +kernel) rfl
theorem gm_82 : (Jvm.Cond.fieldLink "WellCourt$Land" (9 : Nat) "WellCourt$Land" "cap" "[I") ∈ gz_T := gz_at 82 (by decide +kernel) rfl
theorem gm_85 : (Jvm.Cond.fieldLink "WellCourt$Land" (15 : Nat) "WellCourt$Land" "rate" "[I") ∈ gz_T := gz_at 85 (by decide +kernel) rfl
theorem gm_88 : (Jvm.Cond.fieldLink "WellCourt$Land" (20 : Nat) "WellCourt$Land" "wayDays" "[[I") ∈ gz_T := gz_at 88 (by decide +kernel) rfl
theorem gm_98 : (Jvm.Cond.arrayClass Jvm.ClassFile.FieldType.int) ∈ gz_T := gz_at 98 (by decide +kernel) rfl
theorem gm_104 : (Jvm.Cond.methodLink "WellCourt$Calendar" (3 : Nat) ({ cls := "java/lang/Object", name := "<init>", desc := "()V" } : Jvm.MethodName)) ∈ gz_T := gz_at 104 (by decide +kernel) rfl
theorem gm_105 : (Jvm.Cond.classLink "WellCourt$Calendar" (9 : Nat) "[[I") ∈ gz_T := gz_at 105 (by decide +kernel) rfl
theorem gm_106 : (Jvm.Cond.methodLink "WellCourt$Calendar" (16 : Nat) ({ cls := "java/util/Arrays", name := "fill", desc := "([II)V" } : Jvm.MethodName)) ∈ gz_T := gz_at 106 (by decide +kernel) rfl
theorem gm_107 : (Jvm.Cond.static ({ cls := "java/util/Arrays", name := "fill", desc := "([II)V" } : Jvm.MethodName)) ∈ gz_T := gz_at 107 (by decide +kernel) rfl
theorem gm_108 : (Jvm.Cond.code ({ cls := "java/util/Arrays", name := "fill", desc := "([II)V" } : Jvm.MethodName) prog_22_method_103_code (4 : Nat) (Option.none : Option Jvm.ClassFile.FieldType)) ∈ gz_T := gz_at 108 (by decide +kernel) rfl
theorem gm_109 : (Jvm.Cond.fieldLink "WellCourt$Calendar" (11 : Nat) "WellCourt$Calendar" "owners" "[[I") ∈ gz_T := gz_at 109 (by decide +kernel) rfl
theorem gm_114 : (Jvm.Cond.instantiable "WellCourt$Day" (3 : Nat)) ∈ gz_T := gz_at 114 (by decide +kernel) rfl
theorem gm_116 : (Jvm.Cond.instanceMethod ({ cls := "WellCourt$Day", name := "<init>", desc := "()V" } : Jvm.MethodName)) ∈ gz_T := gz_at 116 (by decide +kernel) rfl
theorem gm_117 : (Jvm.Cond.code ({ cls := "WellCourt$Day", name := "<init>", desc := "()V" } : Jvm.MethodName) prog_3_method_1_code (1 : Nat) (Option.none : Option Jvm.ClassFile.FieldType)) ∈ gz_T := gz_at 117 (by decide +kernel) rfl
theorem gm_118 : (Jvm.Cond.methodLink "WellCourt$Day" (3 : Nat) ({ cls := "java/lang/Object", name := "<init>", desc := "()V" } : Jvm.MethodName)) ∈ gz_T := gz_at 118 (by decide +kernel) rfl
theorem gm_119 : (Jvm.Cond.methodLink "WellCourt$Day" (21 : Nat) ({ cls := "java/util/Arrays", name := "fill", desc := "([II)V" } : Jvm.MethodName)) ∈ gz_T := gz_at 119 (by decide +kernel) rfl
theorem gm_120 : (Jvm.Cond.fieldLink "WellCourt$Day" (9 : Nat) "WellCourt$Day" "level" "[I") ∈ gz_T := gz_at 120 (by decide +kernel) rfl
theorem gm_123 : (Jvm.Cond.fieldLink "WellCourt$Day" (15 : Nat) "WellCourt$Day" "morning" "[I") ∈ gz_T := gz_at 123 (by decide +kernel) rfl
theorem gm_125 : (Jvm.Cond.fieldLink "WellCourt$Day" (18 : Nat) "WellCourt$Day" "owner" "[I") ∈ gz_T := gz_at 125 (by decide +kernel) rfl
theorem gm_139 : (Jvm.Cond.methodLink "WellCourt$Ledger" (3 : Nat) ({ cls := "java/lang/Object", name := "<init>", desc := "()V" } : Jvm.MethodName)) ∈ gz_T := gz_at 139 (by decide +kernel) rfl
theorem gm_140 : (Jvm.Cond.classLink "WellCourt$Ledger" (9 : Nat) "[[I") ∈ gz_T := gz_at 140 (by decide +kernel) rfl
theorem gm_141 : (Jvm.Cond.fieldLink "WellCourt$Ledger" (11 : Nat) "WellCourt$Ledger" "facts" "[[I") ∈ gz_T := gz_at 141 (by decide +kernel) rfl
theorem gm_143 : (Jvm.Cond.fieldLink "WellCourt$Ledger" (16 : Nat) "WellCourt$Ledger" "size" "I") ∈ gz_T := gz_at 143 (by decide +kernel) rfl
theorem gm_155 : (Jvm.Cond.methodLink "WellCourt$Flock" (3 : Nat) ({ cls := "java/lang/Object", name := "<init>", desc := "()V" } : Jvm.MethodName)) ∈ gz_T := gz_at 155 (by decide +kernel) rfl
theorem gm_156 : (Jvm.Cond.methodLink "WellCourt$Flock" (27 : Nat) ({ cls := "java/util/Arrays", name := "fill", desc := "([II)V" } : Jvm.MethodName)) ∈ gz_T := gz_at 156 (by decide +kernel) rfl
theorem gm_157 : (Jvm.Cond.fieldLink "WellCourt$Flock" (9 : Nat) "WellCourt$Flock" "clan" "[I") ∈ gz_T := gz_at 157 (by decide +kernel) rfl
theorem gm_160 : (Jvm.Cond.fieldLink "WellCourt$Flock" (15 : Nat) "WellCourt$Flock" "need" "[I") ∈ gz_T := gz_at 160 (by decide +kernel) rfl
theorem gm_162 : (Jvm.Cond.fieldLink "WellCourt$Flock" (18 : Nat) "WellCourt$Flock" "lasts" "[I") ∈ gz_T := gz_at 162 (by decide +kernel) rfl
theorem gm_164 : (Jvm.Cond.fieldLink "WellCourt$Flock" (21 : Nat) "WellCourt$Flock" "place" "[I") ∈ gz_T := gz_at 164 (by decide +kernel) rfl
theorem gm_167 : (Jvm.Cond.fieldLink "WellCourt$Flock" (24 : Nat) "WellCourt$Flock" "drank" "[I") ∈ gz_T := gz_at 167 (by decide +kernel) rfl
theorem gm_186 : (Jvm.Cond.methodLink "WellCourt$Law" (3 : Nat) ({ cls := "java/lang/Object", name := "<init>", desc := "()V" } : Jvm.MethodName)) ∈ gz_T := gz_at 186 (by decide +kernel) rfl
theorem gm_187 : (Jvm.Cond.classLink "WellCourt$Law" (15 : Nat) "[[I") ∈ gz_T := gz_at 187 (by decide +kernel) rfl
theorem gm_188 : (Jvm.Cond.fieldLink "WellCourt$Law" (9 : Nat) "WellCourt$Law" "rules" "I") ∈ gz_T := gz_at 188 (by decide +kernel) rfl
theorem gm_191 : (Jvm.Cond.fieldLink "WellCourt$Law" (17 : Nat) "WellCourt$Law" "round" "[[I") ∈ gz_T := gz_at 191 (by decide +kernel) rfl
theorem gm_192 : (Jvm.Cond.fieldLink "WellCourt$Law" (20 : Nat) "WellCourt$Law" "roundDays" "[I") ∈ gz_T := gz_at 192 (by decide +kernel) rfl
theorem gm_193 : (Jvm.Cond.fieldLink "WellCourt$Law" (24 : Nat) "WellCourt$Law" "kin" "[I") ∈ gz_T := gz_at 193 (by decide +kernel) rfl
theorem gm_194 : (Jvm.Cond.fieldLink "WellCourt$Law" (27 : Nat) "WellCourt$Law" "dryFrom" "[I") ∈ gz_T := gz_at 194 (by decide +kernel) rfl
theorem gm_195 : (Jvm.Cond.fieldLink "WellCourt$Law" (30 : Nat) "WellCourt$Law" "droughts" "I") ∈ gz_T := gz_at 195 (by decide +kernel) rfl
theorem gm_196 : (Jvm.Cond.fieldLink "WellCourt$Law" (33 : Nat) "WellCourt$Law" "droughtWell" "[I") ∈ gz_T := gz_at 196 (by decide +kernel) rfl
theorem gm_197 : (Jvm.Cond.fieldLink "WellCourt$Law" (36 : Nat) "WellCourt$Law" "droughtBelow" "[I") ∈ gz_T := gz_at 197 (by decide +kernel) rfl
theorem gm_198 : (Jvm.Cond.fieldLink "WellCourt$Law" (39 : Nat) "WellCourt$Law" "droughtClan" "[I") ∈ gz_T := gz_at 198 (by decide +kernel) rfl
theorem gm_199 : (Jvm.Cond.fieldLink "WellCourt$Law" (42 : Nat) "WellCourt$Law" "guests" "I") ∈ gz_T := gz_at 199 (by decide +kernel) rfl
theorem gm_200 : (Jvm.Cond.fieldLink "WellCourt$Law" (45 : Nat) "WellCourt$Law" "guestClan" "[I") ∈ gz_T := gz_at 200 (by decide +kernel) rfl
theorem gm_201 : (Jvm.Cond.fieldLink "WellCourt$Law" (48 : Nat) "WellCourt$Law" "guestWell" "[I") ∈ gz_T := gz_at 201 (by decide +kernel) rfl
theorem gm_202 : (Jvm.Cond.fieldLink "WellCourt$Law" (51 : Nat) "WellCourt$Law" "guestHost" "[I") ∈ gz_T := gz_at 202 (by decide +kernel) rfl
theorem gm_203 : (Jvm.Cond.fieldLink "WellCourt$Law" (54 : Nat) "WellCourt$Law" "guestMany" "[I") ∈ gz_T := gz_at 203 (by decide +kernel) rfl
theorem gm_238 : (Jvm.Cond.methodLink "WellCourt$Planner" (5 : Nat) ({ cls := "java/lang/Object", name := "<init>", desc := "()V" } : Jvm.MethodName)) ∈ gz_T := gz_at 238 (by decide +kernel) rfl
theorem gm_239 : (Jvm.Cond.classLink "WellCourt$Planner" (15 : Nat) "WellCourt$Day") ∈ gz_T := gz_at 239 (by decide +kernel) rfl
theorem gm_241 : (Jvm.Cond.classLink "WellCourt$Planner" (21 : Nat) "[[I") ∈ gz_T := gz_at 241 (by decide +kernel) rfl
theorem gm_242 : (Jvm.Cond.methodLink "WellCourt$Planner" (67 : Nat) ({ cls := "WellCourt$Day", name := "<init>", desc := "()V" } : Jvm.MethodName)) ∈ gz_T := gz_at 242 (by decide +kernel) rfl
theorem gm_243 : (Jvm.Cond.fieldLink "WellCourt$Planner" (51 : Nat) "WellCourt$Planner" "land" "LWellCourt$Land;") ∈ gz_T := gz_at 243 (by decide +kernel) rfl
theorem gm_244 : (Jvm.Cond.fieldLink "WellCourt$Planner" (55 : Nat) "WellCourt$Planner" "calendar" "LWellCourt$Calendar;") ∈ gz_T := gz_at 244 (by decide +kernel) rfl
theorem gm_245 : (Jvm.Cond.fieldLink "WellCourt$Planner" (59 : Nat) "WellCourt$Planner" "flock" "LWellCourt$Flock;") ∈ gz_T := gz_at 245 (by decide +kernel) rfl
theorem gm_246 : (Jvm.Cond.fieldLink "WellCourt$Planner" (63 : Nat) "WellCourt$Planner" "law" "LWellCourt$Law;") ∈ gz_T := gz_at 246 (by decide +kernel) rfl
theorem gm_247 : (Jvm.Cond.fieldLink "WellCourt$Planner" (11 : Nat) "WellCourt$Planner" "date" "I") ∈ gz_T := gz_at 247 (by decide +kernel) rfl
theorem gm_248 : (Jvm.Cond.fieldLink "WellCourt$Planner" (17 : Nat) "WellCourt$Planner" "days" "[LWellCourt$Day;") ∈ gz_T := gz_at 248 (by decide +kernel) rfl
theorem gm_249 : (Jvm.Cond.fieldLink "WellCourt$Planner" (23 : Nat) "WellCourt$Planner" "place" "[[I") ∈ gz_T := gz_at 249 (by decide +kernel) rfl
theorem gm_250 : (Jvm.Cond.fieldLink "WellCourt$Planner" (26 : Nat) "WellCourt$Planner" "arrives" "[[I") ∈ gz_T := gz_at 250 (by decide +kernel) rfl
theorem gm_251 : (Jvm.Cond.fieldLink "WellCourt$Planner" (29 : Nat) "WellCourt$Planner" "drank" "[[I") ∈ gz_T := gz_at 251 (by decide +kernel) rfl
theorem gm_252 : (Jvm.Cond.fieldLink "WellCourt$Planner" (32 : Nat) "WellCourt$Planner" "acts" "[I") ∈ gz_T := gz_at 252 (by decide +kernel) rfl
theorem gm_253 : (Jvm.Cond.fieldLink "WellCourt$Planner" (36 : Nat) "WellCourt$Planner" "looks" "I") ∈ gz_T := gz_at 253 (by decide +kernel) rfl
theorem gm_255 : (Jvm.Cond.fieldLink "WellCourt$Planner" (39 : Nat) "WellCourt$Planner" "reach" "I") ∈ gz_T := gz_at 255 (by decide +kernel) rfl
theorem gm_257 : (Jvm.Cond.fieldLink "WellCourt$Planner" (42 : Nat) "WellCourt$Planner" "found" "[I") ∈ gz_T := gz_at 257 (by decide +kernel) rfl
theorem gm_258 : (Jvm.Cond.fieldLink "WellCourt$Planner" (45 : Nat) "WellCourt$Planner" "foundDate" "I") ∈ gz_T := gz_at 258 (by decide +kernel) rfl
theorem gm_259 : (Jvm.Cond.fieldLink "WellCourt$Planner" (48 : Nat) "WellCourt$Planner" "foundDays" "I") ∈ gz_T := gz_at 259 (by decide +kernel) rfl
theorem inX0 : ∀ w ∈ u_ws RX0 TX0 1, w ∈ gz_T := gz_inX [110] (by decide +kernel) (by decide +kernel)
theorem inX1 : ∀ w ∈ u_ws RX1 TX1 3, w ∈ gz_T := gz_inX [127, 129, 131] (by decide +kernel) (by decide +kernel)
theorem inX2 : ∀ w ∈ u_ws RX2 TX2 5, w ∈ gz_T := gz_inX [170, 172, 174, 176, 178] (by decide +kernel) (by decide +kernel)
theorem inX3 : ∀ w ∈ u_ws RX3 TX3 3, w ∈ gz_T := gz_inX [91, 93, 95] (by decide +kernel) (by decide +kernel)
theorem inX4 : ∀ w ∈ u_ws RX4 TX4 14, w ∈ gz_T := gz_inX [204, 206, 208, 210, 212, 214, 216, 218, 220, 222, 224, 226, 228, 230] (by decide +kernel) (by decide +kernel)
theorem inX5 : ∀ w ∈ u_ws RX5 TX5 2, w ∈ gz_T := gz_inX [145, 147] (by decide +kernel) (by decide +kernel)
theorem inX6 : ∀ w ∈ u_ws RX6 TX6 15, w ∈ gz_T := gz_inX [260, 262, 264, 266, 268, 270, 272, 274, 276, 278, 280, 282, 284, 286, 288] (by decide +kernel) (by decide +kernel)
theorem inX7 : ∀ w ∈ u_ws RX7 TX7 6, w ∈ gz_T := gz_inX [61, 63, 65, 67, 69, 71] (by decide +kernel) (by decide +kernel)
theorem inX8 : ∀ w ∈ u_ws RX8 TX8 2, w ∈ gz_T := gz_inX [41, 43] (by decide +kernel) (by decide +kernel)
theorem dfX1 : ∀ j, j < 3 → defaultValue (tyX1 j) = vp_V [.null, .null, .null] j := by decide +kernel
theorem dX0_init_0 : decode cX0_init 0 = .ok (.aload_n 0, 1) := by decide +kernel
theorem dX0_init_1 : decode cX0_init 1 = .ok (.invokespecial 3, 3) := by decide +kernel
theorem dX0_init_4 : decode cX0_init 4 = .ok (.aload_n 0, 1) := by decide +kernel
theorem dX0_init_5 : decode cX0_init 5 = .ok (.bipush 6, 2) := by decide +kernel
theorem dX0_init_7 : decode cX0_init 7 = .ok (.sipush 200, 3) := by decide +kernel
theorem dX0_init_10 : decode cX0_init 10 = .ok (.multianewarray 9 2, 4) := by decide +kernel
theorem dX0_init_14 : decode cX0_init 14 = .ok (.putfield 11, 3) := by decide +kernel
theorem dX0_init_17 : decode cX0_init 17 = .ok (.iconst 0, 1) := by decide +kernel
theorem dX0_init_18 : decode cX0_init 18 = .ok (.istore_n 1, 1) := by decide +kernel
theorem dX0_init_19 : decode cX0_init 19 = .ok (.iload_n 1, 1) := by decide +kernel
theorem dX0_init_20 : decode cX0_init 20 = .ok (.bipush 6, 2) := by decide +kernel
theorem dX0_init_22 : decode cX0_init 22 = .ok (.if_icmp .ge 19, 3) := by decide +kernel
theorem dX0_init_25 : decode cX0_init 25 = .ok (.aload_n 0, 1) := by decide +kernel
theorem dX0_init_26 : decode cX0_init 26 = .ok (.getfield 11, 3) := by decide +kernel
theorem dX0_init_29 : decode cX0_init 29 = .ok (.iload_n 1, 1) := by decide +kernel
theorem dX0_init_30 : decode cX0_init 30 = .ok (.aaload, 1) := by decide +kernel
theorem dX0_init_31 : decode cX0_init 31 = .ok (.iconst (-1), 1) := by decide +kernel
theorem dX0_init_32 : decode cX0_init 32 = .ok (.invokestatic 16, 3) := by decide +kernel
theorem dX0_init_35 : decode cX0_init 35 = .ok (.iinc 1 1, 3) := by decide +kernel
theorem dX0_init_38 : decode cX0_init 38 = .ok (.goto (-19), 3) := by decide +kernel
theorem dX0_init_41 : decode cX0_init 41 = .ok (.return_, 1) := by decide +kernel
theorem dX1_init_0 : decode cX1_init 0 = .ok (.aload_n 0, 1) := by decide +kernel
theorem dX1_init_1 : decode cX1_init 1 = .ok (.invokespecial 3, 3) := by decide +kernel
theorem dX1_init_4 : decode cX1_init 4 = .ok (.aload_n 0, 1) := by decide +kernel
theorem dX1_init_5 : decode cX1_init 5 = .ok (.bipush 6, 2) := by decide +kernel
theorem dX1_init_7 : decode cX1_init 7 = .ok (.newarray .int, 2) := by decide +kernel
theorem dX1_init_9 : decode cX1_init 9 = .ok (.putfield 9, 3) := by decide +kernel
theorem dX1_init_12 : decode cX1_init 12 = .ok (.aload_n 0, 1) := by decide +kernel
theorem dX1_init_13 : decode cX1_init 13 = .ok (.bipush 6, 2) := by decide +kernel
theorem dX1_init_15 : decode cX1_init 15 = .ok (.newarray .int, 2) := by decide +kernel
theorem dX1_init_17 : decode cX1_init 17 = .ok (.putfield 15, 3) := by decide +kernel
theorem dX1_init_20 : decode cX1_init 20 = .ok (.aload_n 0, 1) := by decide +kernel
theorem dX1_init_21 : decode cX1_init 21 = .ok (.bipush 6, 2) := by decide +kernel
theorem dX1_init_23 : decode cX1_init 23 = .ok (.newarray .int, 2) := by decide +kernel
theorem dX1_init_25 : decode cX1_init 25 = .ok (.putfield 18, 3) := by decide +kernel
theorem dX1_init_28 : decode cX1_init 28 = .ok (.aload_n 0, 1) := by decide +kernel
theorem dX1_init_29 : decode cX1_init 29 = .ok (.getfield 15, 3) := by decide +kernel
theorem dX1_init_32 : decode cX1_init 32 = .ok (.iconst (-1), 1) := by decide +kernel
theorem dX1_init_33 : decode cX1_init 33 = .ok (.invokestatic 21, 3) := by decide +kernel
theorem dX1_init_36 : decode cX1_init 36 = .ok (.aload_n 0, 1) := by decide +kernel
theorem dX1_init_37 : decode cX1_init 37 = .ok (.getfield 18, 3) := by decide +kernel
theorem dX1_init_40 : decode cX1_init 40 = .ok (.iconst (-1), 1) := by decide +kernel
theorem dX1_init_41 : decode cX1_init 41 = .ok (.invokestatic 21, 3) := by decide +kernel
theorem dX1_init_44 : decode cX1_init 44 = .ok (.return_, 1) := by decide +kernel
theorem dX2_init_0 : decode cX2_init 0 = .ok (.aload_n 0, 1) := by decide +kernel
theorem dX2_init_1 : decode cX2_init 1 = .ok (.invokespecial 3, 3) := by decide +kernel
theorem dX2_init_4 : decode cX2_init 4 = .ok (.aload_n 0, 1) := by decide +kernel
theorem dX2_init_5 : decode cX2_init 5 = .ok (.iconst 4, 1) := by decide +kernel
theorem dX2_init_6 : decode cX2_init 6 = .ok (.newarray .int, 2) := by decide +kernel
theorem dX2_init_8 : decode cX2_init 8 = .ok (.putfield 9, 3) := by decide +kernel
theorem dX2_init_11 : decode cX2_init 11 = .ok (.aload_n 0, 1) := by decide +kernel
theorem dX2_init_12 : decode cX2_init 12 = .ok (.iconst 4, 1) := by decide +kernel
theorem dX2_init_13 : decode cX2_init 13 = .ok (.newarray .int, 2) := by decide +kernel
theorem dX2_init_15 : decode cX2_init 15 = .ok (.putfield 15, 3) := by decide +kernel
theorem dX2_init_18 : decode cX2_init 18 = .ok (.aload_n 0, 1) := by decide +kernel
theorem dX2_init_19 : decode cX2_init 19 = .ok (.iconst 4, 1) := by decide +kernel
theorem dX2_init_20 : decode cX2_init 20 = .ok (.newarray .int, 2) := by decide +kernel
theorem dX2_init_22 : decode cX2_init 22 = .ok (.putfield 18, 3) := by decide +kernel
theorem dX2_init_25 : decode cX2_init 25 = .ok (.aload_n 0, 1) := by decide +kernel
theorem dX2_init_26 : decode cX2_init 26 = .ok (.iconst 4, 1) := by decide +kernel
theorem dX2_init_27 : decode cX2_init 27 = .ok (.newarray .int, 2) := by decide +kernel
theorem dX2_init_29 : decode cX2_init 29 = .ok (.putfield 21, 3) := by decide +kernel
theorem dX2_init_32 : decode cX2_init 32 = .ok (.aload_n 0, 1) := by decide +kernel
theorem dX2_init_33 : decode cX2_init 33 = .ok (.iconst 4, 1) := by decide +kernel
theorem dX2_init_34 : decode cX2_init 34 = .ok (.newarray .int, 2) := by decide +kernel
theorem dX2_init_36 : decode cX2_init 36 = .ok (.putfield 24, 3) := by decide +kernel
theorem dX2_init_39 : decode cX2_init 39 = .ok (.aload_n 0, 1) := by decide +kernel
theorem dX2_init_40 : decode cX2_init 40 = .ok (.getfield 9, 3) := by decide +kernel
theorem dX2_init_43 : decode cX2_init 43 = .ok (.iconst (-1), 1) := by decide +kernel
theorem dX2_init_44 : decode cX2_init 44 = .ok (.invokestatic 27, 3) := by decide +kernel
theorem dX2_init_47 : decode cX2_init 47 = .ok (.return_, 1) := by decide +kernel
theorem dX3_init_0 : decode cX3_init 0 = .ok (.aload_n 0, 1) := by decide +kernel
theorem dX3_init_1 : decode cX3_init 1 = .ok (.invokespecial 3, 3) := by decide +kernel
theorem dX3_init_4 : decode cX3_init 4 = .ok (.aload_n 0, 1) := by decide +kernel
theorem dX3_init_5 : decode cX3_init 5 = .ok (.bipush 6, 2) := by decide +kernel
theorem dX3_init_7 : decode cX3_init 7 = .ok (.newarray .int, 2) := by decide +kernel
theorem dX3_init_9 : decode cX3_init 9 = .ok (.putfield 9, 3) := by decide +kernel
theorem dX3_init_12 : decode cX3_init 12 = .ok (.aload_n 0, 1) := by decide +kernel
theorem dX3_init_13 : decode cX3_init 13 = .ok (.bipush 6, 2) := by decide +kernel
theorem dX3_init_15 : decode cX3_init 15 = .ok (.newarray .int, 2) := by decide +kernel
theorem dX3_init_17 : decode cX3_init 17 = .ok (.putfield 15, 3) := by decide +kernel
theorem dX3_init_20 : decode cX3_init 20 = .ok (.aload_n 0, 1) := by decide +kernel
theorem dX3_init_21 : decode cX3_init 21 = .ok (.bipush 6, 2) := by decide +kernel
theorem dX3_init_23 : decode cX3_init 23 = .ok (.bipush 6, 2) := by decide +kernel
theorem dX3_init_25 : decode cX3_init 25 = .ok (.multianewarray 18 2, 4) := by decide +kernel
theorem dX3_init_29 : decode cX3_init 29 = .ok (.putfield 20, 3) := by decide +kernel
theorem dX3_init_32 : decode cX3_init 32 = .ok (.return_, 1) := by decide +kernel
theorem dX4_init_0 : decode cX4_init 0 = .ok (.aload_n 0, 1) := by decide +kernel
theorem dX4_init_1 : decode cX4_init 1 = .ok (.invokespecial 3, 3) := by decide +kernel
theorem dX4_init_4 : decode cX4_init 4 = .ok (.aload_n 0, 1) := by decide +kernel
theorem dX4_init_5 : decode cX4_init 5 = .ok (.iconst 0, 1) := by decide +kernel
theorem dX4_init_6 : decode cX4_init 6 = .ok (.putfield 9, 3) := by decide +kernel
theorem dX4_init_9 : decode cX4_init 9 = .ok (.aload_n 0, 1) := by decide +kernel
theorem dX4_init_10 : decode cX4_init 10 = .ok (.bipush 6, 2) := by decide +kernel
theorem dX4_init_12 : decode cX4_init 12 = .ok (.bipush 72, 2) := by decide +kernel
theorem dX4_init_14 : decode cX4_init 14 = .ok (.multianewarray 15 2, 4) := by decide +kernel
theorem dX4_init_18 : decode cX4_init 18 = .ok (.putfield 17, 3) := by decide +kernel
theorem dX4_init_21 : decode cX4_init 21 = .ok (.aload_n 0, 1) := by decide +kernel
theorem dX4_init_22 : decode cX4_init 22 = .ok (.bipush 6, 2) := by decide +kernel
theorem dX4_init_24 : decode cX4_init 24 = .ok (.newarray .int, 2) := by decide +kernel
theorem dX4_init_26 : decode cX4_init 26 = .ok (.putfield 20, 3) := by decide +kernel
theorem dX4_init_29 : decode cX4_init 29 = .ok (.aload_n 0, 1) := by decide +kernel
theorem dX4_init_30 : decode cX4_init 30 = .ok (.bipush 6, 2) := by decide +kernel
theorem dX4_init_32 : decode cX4_init 32 = .ok (.newarray .int, 2) := by decide +kernel
theorem dX4_init_34 : decode cX4_init 34 = .ok (.putfield 24, 3) := by decide +kernel
theorem dX4_init_37 : decode cX4_init 37 = .ok (.aload_n 0, 1) := by decide +kernel
theorem dX4_init_38 : decode cX4_init 38 = .ok (.bipush 6, 2) := by decide +kernel
theorem dX4_init_40 : decode cX4_init 40 = .ok (.newarray .int, 2) := by decide +kernel
theorem dX4_init_42 : decode cX4_init 42 = .ok (.putfield 27, 3) := by decide +kernel
theorem dX4_init_45 : decode cX4_init 45 = .ok (.aload_n 0, 1) := by decide +kernel
theorem dX4_init_46 : decode cX4_init 46 = .ok (.iconst 0, 1) := by decide +kernel
theorem dX4_init_47 : decode cX4_init 47 = .ok (.putfield 30, 3) := by decide +kernel
theorem dX4_init_50 : decode cX4_init 50 = .ok (.aload_n 0, 1) := by decide +kernel
theorem dX4_init_51 : decode cX4_init 51 = .ok (.bipush 20, 2) := by decide +kernel
theorem dX4_init_53 : decode cX4_init 53 = .ok (.newarray .int, 2) := by decide +kernel
theorem dX4_init_55 : decode cX4_init 55 = .ok (.putfield 33, 3) := by decide +kernel
theorem dX4_init_58 : decode cX4_init 58 = .ok (.aload_n 0, 1) := by decide +kernel
theorem dX4_init_59 : decode cX4_init 59 = .ok (.bipush 20, 2) := by decide +kernel
theorem dX4_init_61 : decode cX4_init 61 = .ok (.newarray .int, 2) := by decide +kernel
theorem dX4_init_63 : decode cX4_init 63 = .ok (.putfield 36, 3) := by decide +kernel
theorem dX4_init_66 : decode cX4_init 66 = .ok (.aload_n 0, 1) := by decide +kernel
theorem dX4_init_67 : decode cX4_init 67 = .ok (.bipush 20, 2) := by decide +kernel
theorem dX4_init_69 : decode cX4_init 69 = .ok (.newarray .int, 2) := by decide +kernel
theorem dX4_init_71 : decode cX4_init 71 = .ok (.putfield 39, 3) := by decide +kernel
theorem dX4_init_74 : decode cX4_init 74 = .ok (.aload_n 0, 1) := by decide +kernel
theorem dX4_init_75 : decode cX4_init 75 = .ok (.iconst 0, 1) := by decide +kernel
theorem dX4_init_76 : decode cX4_init 76 = .ok (.putfield 42, 3) := by decide +kernel
theorem dX4_init_79 : decode cX4_init 79 = .ok (.aload_n 0, 1) := by decide +kernel
theorem dX4_init_80 : decode cX4_init 80 = .ok (.bipush 20, 2) := by decide +kernel
theorem dX4_init_82 : decode cX4_init 82 = .ok (.newarray .int, 2) := by decide +kernel
theorem dX4_init_84 : decode cX4_init 84 = .ok (.putfield 45, 3) := by decide +kernel
theorem dX4_init_87 : decode cX4_init 87 = .ok (.aload_n 0, 1) := by decide +kernel
theorem dX4_init_88 : decode cX4_init 88 = .ok (.bipush 20, 2) := by decide +kernel
theorem dX4_init_90 : decode cX4_init 90 = .ok (.newarray .int, 2) := by decide +kernel
theorem dX4_init_92 : decode cX4_init 92 = .ok (.putfield 48, 3) := by decide +kernel
theorem dX4_init_95 : decode cX4_init 95 = .ok (.aload_n 0, 1) := by decide +kernel
theorem dX4_init_96 : decode cX4_init 96 = .ok (.bipush 20, 2) := by decide +kernel
theorem dX4_init_98 : decode cX4_init 98 = .ok (.newarray .int, 2) := by decide +kernel
theorem dX4_init_100 : decode cX4_init 100 = .ok (.putfield 51, 3) := by decide +kernel
theorem dX4_init_103 : decode cX4_init 103 = .ok (.aload_n 0, 1) := by decide +kernel
theorem dX4_init_104 : decode cX4_init 104 = .ok (.bipush 20, 2) := by decide +kernel
theorem dX4_init_106 : decode cX4_init 106 = .ok (.newarray .int, 2) := by decide +kernel
theorem dX4_init_108 : decode cX4_init 108 = .ok (.putfield 54, 3) := by decide +kernel
theorem dX4_init_111 : decode cX4_init 111 = .ok (.return_, 1) := by decide +kernel
theorem dX5_init_0 : decode cX5_init 0 = .ok (.aload_n 0, 1) := by decide +kernel
theorem dX5_init_1 : decode cX5_init 1 = .ok (.invokespecial 3, 3) := by decide +kernel
theorem dX5_init_4 : decode cX5_init 4 = .ok (.aload_n 0, 1) := by decide +kernel
theorem dX5_init_5 : decode cX5_init 5 = .ok (.bipush 6, 2) := by decide +kernel
theorem dX5_init_7 : decode cX5_init 7 = .ok (.sipush 300, 3) := by decide +kernel
theorem dX5_init_10 : decode cX5_init 10 = .ok (.multianewarray 9 2, 4) := by decide +kernel
theorem dX5_init_14 : decode cX5_init 14 = .ok (.putfield 11, 3) := by decide +kernel
theorem dX5_init_17 : decode cX5_init 17 = .ok (.aload_n 0, 1) := by decide +kernel
theorem dX5_init_18 : decode cX5_init 18 = .ok (.iconst 0, 1) := by decide +kernel
theorem dX5_init_19 : decode cX5_init 19 = .ok (.putfield 16, 3) := by decide +kernel
theorem dX5_init_22 : decode cX5_init 22 = .ok (.return_, 1) := by decide +kernel
theorem dX6_init_0 : decode cX6_init 0 = .ok (.aload_n 0, 1) := by decide +kernel
theorem dX6_init_1 : decode cX6_init 1 = .ok (.invokespecial 5, 3) := by decide +kernel
theorem dX6_init_4 : decode cX6_init 4 = .ok (.aload_n 0, 1) := by decide +kernel
theorem dX6_init_5 : decode cX6_init 5 = .ok (.iconst 0, 1) := by decide +kernel
theorem dX6_init_6 : decode cX6_init 6 = .ok (.putfield 11, 3) := by decide +kernel
theorem dX6_init_9 : decode cX6_init 9 = .ok (.aload_n 0, 1) := by decide +kernel
theorem dX6_init_10 : decode cX6_init 10 = .ok (.bipush 15, 2) := by decide +kernel
theorem dX6_init_12 : decode cX6_init 12 = .ok (.anewarray 15, 3) := by decide +kernel
theorem dX6_init_15 : decode cX6_init 15 = .ok (.putfield 17, 3) := by decide +kernel
theorem dX6_init_18 : decode cX6_init 18 = .ok (.aload_n 0, 1) := by decide +kernel
theorem dX6_init_19 : decode cX6_init 19 = .ok (.bipush 15, 2) := by decide +kernel
theorem dX6_init_21 : decode cX6_init 21 = .ok (.iconst 4, 1) := by decide +kernel
theorem dX6_init_22 : decode cX6_init 22 = .ok (.multianewarray 21 2, 4) := by decide +kernel
theorem dX6_init_26 : decode cX6_init 26 = .ok (.putfield 23, 3) := by decide +kernel
theorem dX6_init_29 : decode cX6_init 29 = .ok (.aload_n 0, 1) := by decide +kernel
theorem dX6_init_30 : decode cX6_init 30 = .ok (.bipush 15, 2) := by decide +kernel
theorem dX6_init_32 : decode cX6_init 32 = .ok (.iconst 4, 1) := by decide +kernel
theorem dX6_init_33 : decode cX6_init 33 = .ok (.multianewarray 21 2, 4) := by decide +kernel
theorem dX6_init_37 : decode cX6_init 37 = .ok (.putfield 26, 3) := by decide +kernel
theorem dX6_init_40 : decode cX6_init 40 = .ok (.aload_n 0, 1) := by decide +kernel
theorem dX6_init_41 : decode cX6_init 41 = .ok (.bipush 15, 2) := by decide +kernel
theorem dX6_init_43 : decode cX6_init 43 = .ok (.iconst 4, 1) := by decide +kernel
theorem dX6_init_44 : decode cX6_init 44 = .ok (.multianewarray 21 2, 4) := by decide +kernel
theorem dX6_init_48 : decode cX6_init 48 = .ok (.putfield 29, 3) := by decide +kernel
theorem dX6_init_51 : decode cX6_init 51 = .ok (.aload_n 0, 1) := by decide +kernel
theorem dX6_init_52 : decode cX6_init 52 = .ok (.bipush 56, 2) := by decide +kernel
theorem dX6_init_54 : decode cX6_init 54 = .ok (.newarray .int, 2) := by decide +kernel
theorem dX6_init_56 : decode cX6_init 56 = .ok (.putfield 32, 3) := by decide +kernel
theorem dX6_init_59 : decode cX6_init 59 = .ok (.aload_n 0, 1) := by decide +kernel
theorem dX6_init_60 : decode cX6_init 60 = .ok (.iconst 0, 1) := by decide +kernel
theorem dX6_init_61 : decode cX6_init 61 = .ok (.putfield 36, 3) := by decide +kernel
theorem dX6_init_64 : decode cX6_init 64 = .ok (.aload_n 0, 1) := by decide +kernel
theorem dX6_init_65 : decode cX6_init 65 = .ok (.iconst 0, 1) := by decide +kernel
theorem dX6_init_66 : decode cX6_init 66 = .ok (.putfield 39, 3) := by decide +kernel
theorem dX6_init_69 : decode cX6_init 69 = .ok (.aload_n 0, 1) := by decide +kernel
theorem dX6_init_70 : decode cX6_init 70 = .ok (.bipush 56, 2) := by decide +kernel
theorem dX6_init_72 : decode cX6_init 72 = .ok (.newarray .int, 2) := by decide +kernel
theorem dX6_init_74 : decode cX6_init 74 = .ok (.putfield 42, 3) := by decide +kernel
theorem dX6_init_77 : decode cX6_init 77 = .ok (.aload_n 0, 1) := by decide +kernel
theorem dX6_init_78 : decode cX6_init 78 = .ok (.iconst 0, 1) := by decide +kernel
theorem dX6_init_79 : decode cX6_init 79 = .ok (.putfield 45, 3) := by decide +kernel
theorem dX6_init_82 : decode cX6_init 82 = .ok (.aload_n 0, 1) := by decide +kernel
theorem dX6_init_83 : decode cX6_init 83 = .ok (.iconst 0, 1) := by decide +kernel
theorem dX6_init_84 : decode cX6_init 84 = .ok (.putfield 48, 3) := by decide +kernel
theorem dX6_init_87 : decode cX6_init 87 = .ok (.aload_n 0, 1) := by decide +kernel
theorem dX6_init_88 : decode cX6_init 88 = .ok (.aload_n 1, 1) := by decide +kernel
theorem dX6_init_89 : decode cX6_init 89 = .ok (.putfield 51, 3) := by decide +kernel
theorem dX6_init_92 : decode cX6_init 92 = .ok (.aload_n 0, 1) := by decide +kernel
theorem dX6_init_93 : decode cX6_init 93 = .ok (.aload_n 2, 1) := by decide +kernel
theorem dX6_init_94 : decode cX6_init 94 = .ok (.putfield 55, 3) := by decide +kernel
theorem dX6_init_97 : decode cX6_init 97 = .ok (.aload_n 0, 1) := by decide +kernel
theorem dX6_init_98 : decode cX6_init 98 = .ok (.aload_n 3, 1) := by decide +kernel
theorem dX6_init_99 : decode cX6_init 99 = .ok (.putfield 59, 3) := by decide +kernel
theorem dX6_init_102 : decode cX6_init 102 = .ok (.aload_n 0, 1) := by decide +kernel
theorem dX6_init_103 : decode cX6_init 103 = .ok (.aload 4, 2) := by decide +kernel
theorem dX6_init_105 : decode cX6_init 105 = .ok (.putfield 63, 3) := by decide +kernel
theorem dX6_init_108 : decode cX6_init 108 = .ok (.iconst 0, 1) := by decide +kernel
theorem dX6_init_109 : decode cX6_init 109 = .ok (.istore 5, 2) := by decide +kernel
theorem dX6_init_111 : decode cX6_init 111 = .ok (.iload 5, 2) := by decide +kernel
theorem dX6_init_113 : decode cX6_init 113 = .ok (.bipush 14, 2) := by decide +kernel
theorem dX6_init_115 : decode cX6_init 115 = .ok (.if_icmp .gt 23, 3) := by decide +kernel
theorem dX6_init_118 : decode cX6_init 118 = .ok (.aload_n 0, 1) := by decide +kernel
theorem dX6_init_119 : decode cX6_init 119 = .ok (.getfield 17, 3) := by decide +kernel
theorem dX6_init_122 : decode cX6_init 122 = .ok (.iload 5, 2) := by decide +kernel
theorem dX6_init_124 : decode cX6_init 124 = .ok (.new 15, 3) := by decide +kernel
theorem dX6_init_127 : decode cX6_init 127 = .ok (.dup, 1) := by decide +kernel
theorem dX6_init_128 : decode cX6_init 128 = .ok (.invokespecial 67, 3) := by decide +kernel
theorem dX6_init_131 : decode cX6_init 131 = .ok (.aastore, 1) := by decide +kernel
theorem dX6_init_132 : decode cX6_init 132 = .ok (.iinc 5 1, 3) := by decide +kernel
theorem dX6_init_135 : decode cX6_init 135 = .ok (.goto (-24), 3) := by decide +kernel
theorem dX6_init_138 : decode cX6_init 138 = .ok (.return_, 1) := by decide +kernel
theorem dX7_init_0 : decode cX7_init 0 = .ok (.aload_n 0, 1) := by decide +kernel
theorem dX7_init_1 : decode cX7_init 1 = .ok (.invokespecial 3, 3) := by decide +kernel
theorem dX7_init_4 : decode cX7_init 4 = .ok (.aload_n 0, 1) := by decide +kernel
theorem dX7_init_5 : decode cX7_init 5 = .ok (.iconst 0, 1) := by decide +kernel
theorem dX7_init_6 : decode cX7_init 6 = .ok (.putfield 11, 3) := by decide +kernel
theorem dX7_init_9 : decode cX7_init 9 = .ok (.aload_n 0, 1) := by decide +kernel
theorem dX7_init_10 : decode cX7_init 10 = .ok (.iconst 0, 1) := by decide +kernel
theorem dX7_init_11 : decode cX7_init 11 = .ok (.putfield 15, 3) := by decide +kernel
theorem dX7_init_14 : decode cX7_init 14 = .ok (.aload_n 0, 1) := by decide +kernel
theorem dX7_init_15 : decode cX7_init 15 = .ok (.iconst 0, 1) := by decide +kernel
theorem dX7_init_16 : decode cX7_init 16 = .ok (.putfield 18, 3) := by decide +kernel
theorem dX7_init_19 : decode cX7_init 19 = .ok (.aload_n 0, 1) := by decide +kernel
theorem dX7_init_20 : decode cX7_init 20 = .ok (.iconst 0, 1) := by decide +kernel
theorem dX7_init_21 : decode cX7_init 21 = .ok (.putfield 21, 3) := by decide +kernel
theorem dX7_init_24 : decode cX7_init 24 = .ok (.aload_n 0, 1) := by decide +kernel
theorem dX7_init_25 : decode cX7_init 25 = .ok (.iconst 0, 1) := by decide +kernel
theorem dX7_init_26 : decode cX7_init 26 = .ok (.putfield 24, 3) := by decide +kernel
theorem dX7_init_29 : decode cX7_init 29 = .ok (.aload_n 0, 1) := by decide +kernel
theorem dX7_init_30 : decode cX7_init 30 = .ok (.aload_n 1, 1) := by decide +kernel
theorem dX7_init_31 : decode cX7_init 31 = .ok (.putfield 27, 3) := by decide +kernel
theorem dX7_init_34 : decode cX7_init 34 = .ok (.return_, 1) := by decide +kernel
theorem dX8_init_0 : decode cX8_init 0 = .ok (.aload_n 0, 1) := by decide +kernel
theorem dX8_init_1 : decode cX8_init 1 = .ok (.invokespecial 3, 3) := by decide +kernel
theorem dX8_init_4 : decode cX8_init 4 = .ok (.aload_n 0, 1) := by decide +kernel
theorem dX8_init_5 : decode cX8_init 5 = .ok (.sipush 800, 3) := by decide +kernel
theorem dX8_init_8 : decode cX8_init 8 = .ok (.newarray .byte, 2) := by decide +kernel
theorem dX8_init_10 : decode cX8_init 10 = .ok (.putfield 9, 3) := by decide +kernel
theorem dX8_init_13 : decode cX8_init 13 = .ok (.aload_n 0, 1) := by decide +kernel
theorem dX8_init_14 : decode cX8_init 14 = .ok (.iconst 0, 1) := by decide +kernel
theorem dX8_init_15 : decode cX8_init 15 = .ok (.putfield 15, 3) := by decide +kernel
theorem dX8_init_18 : decode cX8_init 18 = .ok (.return_, 1) := by decide +kernel
set_option maxHeartbeats 4000000 in
set_option maxRecDepth 100000 in
/-- WellCourt$Tape.<init> -/
theorem c_X8_init (l : Launch) (G : va_G) (cy : Nat → ClassId) (sz : Nat) (h0 : Nat)  : gMv l yX8_init cX8_init 1 ({ frames := 1, cells := 1, slots := 800, locals := 20 }) G cy sz [.ref h0] [(h0, .inr (8, [.null, .int 0]))] (fun (u : (Nat → Nat)) => True) (fun (u : (Nat → Nat)) => [(h0, .inr (8, [.ref (u 0), .int 0])), ((u 0), .inl (cy 1, 800, .inl (fun _ => 0)))]) := by
  refine gz_start (fun A => gQv G cy _ _ A) (by decide) (Nat.le_of_ble_eq_true rfl) ?_
  intro p e s m below meth c A ls H hx hb hr hml hlocks hin hown hts hK hov hsz hP hD hS hA hl
  have hl : lv_has ls 1 [(0, .ref h0)] := hl
  refine lv_aload_n hx hb dX8_init_0 rfl (lv_at hl 0 rfl) ?_
  refine W.objInit hx hb hown (hts _ gm_37) (hts _ gm_30) (hts _ gm_31) rfl (by rw [hml]; exact hl.1) rfl dX8_init_1 (Nat.le_of_ble_eq_true rfl) (Nat.le_of_ble_eq_true rfl) ?_
  refine W.eq (g2 := F0 m 4 ls []) rfl ?_
  refine lv_aload_n hx hb dX8_init_4 rfl (lv_at hl 0 rfl) ?_
  refine lv_sipush (v := 800) hx hb dX8_init_5 (by decide) ?_
  refine gz_newa (atype := .byte) (t0 := 1) (a0 := (800, .inl (fun _ => 0))) hx hb rfl (fun _ _ h9 => h9) (hts _ gm_46) rfl hK hP hD hS hA (fun _ => rfl) (by decide) (by decide) (Nat.le_of_ble_eq_true rfl) (Nat.le_of_ble_eq_true rfl) (Nat.le_of_ble_eq_true rfl) dX8_init_8 (fun q_1 H hP hD hS => ?_)
  have hP : va_P G vwCl [(h0, .inr (8, [.null, .int 0])), (q_1, .inl (cy 1, 800, .inl (fun _ => 0)))] H := hP
  have hD : va_D A [(h0, .inr (8, [.null, .int 0])), (q_1, .inl (cy 1, 800, .inl (fun _ => 0)))] := hD
  refine W.widen (k := 1) (n := 800) (Nat.le_of_ble_eq_true rfl) (Nat.le_of_ble_eq_true rfl) ?_
  refine va_putF (ci := 8) (v := .ref q_1) (ty := .array .byte) (C := RX8) (T := TX8) (N := 2) hx hb hts inX8 tyX8 tyX8_ok nmX8 hown hK hP hD hS 0 rfl rfl 0 (by decide) (hts _ gm_38) (fun _ h9 => h9) rfl hin rfl (by decide +kernel) rfl rfl (Nat.le_of_ble_eq_true rfl) dX8_init_10 (fun H locs hP hD hS => ?_)
  have hP : va_P G vwCl [(h0, .inr (8, [.ref q_1, .int 0])), (q_1, .inl (cy 1, 800, .inl (fun _ => 0)))] H := hP
  have hD : va_D A [(h0, .inr (8, [.ref q_1, .int 0])), (q_1, .inl (cy 1, 800, .inl (fun _ => 0)))] := hD
  refine lv_aload_n hx hb dX8_init_13 rfl (lv_at hl 0 rfl) ?_
  refine lv_iconst (v := 0) hx hb dX8_init_14 (by decide) ?_
  refine va_put (ci := 8) (v := .int 0) (ty := .int) (C := RX8) (T := TX8) (N := 2) hx hb hts inX8 tyX8 tyX8_ok nmX8 hown hK hP hD hS 0 rfl rfl 1 (by decide) (hts _ gm_39) (fun _ h9 => h9) rfl (by decide +kernel) rfl rfl (Nat.le_of_ble_eq_true rfl) dX8_init_15 (fun H locs hP hD hS => ?_)
  have hP : va_P G vwCl [(h0, .inr (8, [.ref q_1, .int 0])), (q_1, .inl (cy 1, 800, .inl (fun _ => 0)))] H := hP
  have hD : va_D A [(h0, .inr (8, [.ref q_1, .int 0])), (q_1, .inl (cy 1, 800, .inl (fun _ => 0)))] := hD
  exact gz_vret (cf := (fun (u : (Nat → Nat)) => [(h0, .inr (8, [.ref (u 0), .int 0])), ((u 0), .inl (cy 1, 800, .inl (fun _ => 0)))])) (post := (fun (u : (Nat → Nat)) => True)) hx hb hr hlocks hK hP hD hS (fun k => match k with | 0 => q_1 | _ => 0) [0, 1] trivial (by decide) rfl (Nat.le_of_ble_eq_true rfl) (Nat.le_of_ble_eq_true rfl) dX8_init_18

set_option maxHeartbeats 4000000 in
set_option maxRecDepth 100000 in
/-- WellCourt$Reader.<init> -/
theorem c_X7_init (l : Launch) (G : va_G) (cy : Nat → ClassId) (sz : Nat) (h0 : Nat) (h1 : Nat)  : gMv l yX7_init cX7_init 2 ({ frames := 1, cells := 0, slots := 0, locals := 20 }) G cy sz [.ref h0, .ref h1] [(h0, .inr (7, [.null, .int 0, .int 0, .int 0, .int 0, .int 0]))] (fun (u : Unit) => True) (fun (u : Unit) => [(h0, .inr (7, [.ref h1, .int 0, .int 0, .int 0, .int 0, .int 0]))]) := by
  refine gz_start (fun A => gQv G cy _ _ A) (by decide) (Nat.le_of_ble_eq_true rfl) ?_
  intro p e s m below meth c A ls H hx hb hr hml hlocks hin hown hts hK hov hsz hP hD hS hA hl
  have hl : lv_has ls 2 [(0, .ref h0), (1, .ref h1)] := hl
  refine lv_aload_n hx hb dX7_init_0 rfl (lv_at hl 0 rfl) ?_
  refine W.objInit hx hb hown (hts _ gm_52) (hts _ gm_30) (hts _ gm_31) rfl (by rw [hml]; exact hl.1) rfl dX7_init_1 (Nat.le_of_ble_eq_true rfl) (Nat.le_of_ble_eq_true rfl) ?_
  refine W.eq (g2 := F0 m 4 ls []) rfl ?_
  refine lv_aload_n hx hb dX7_init_4 rfl (lv_at hl 0 rfl) ?_
  refine lv_iconst (v := 0) hx hb dX7_init_5 (by decide) ?_
  refine va_put (ci := 7) (v := .int 0) (ty := .int) (C := RX7) (T := TX7) (N := 6) hx hb hts inX7 tyX7 tyX7_ok nmX7 hown hK hP hD hS 0 rfl rfl 1 (by decide) (hts _ gm_54) (fun _ h9 => h9) rfl (by decide +kernel) rfl rfl (Nat.le_of_ble_eq_true rfl) dX7_init_6 (fun H locs hP hD hS => ?_)
  have hP : va_P G vwCl [(h0, .inr (7, [.null, .int 0, .int 0, .int 0, .int 0, .int 0]))] H := hP
  have hD : va_D A [(h0, .inr (7, [.null, .int 0, .int 0, .int 0, .int 0, .int 0]))] := hD
  refine lv_aload_n hx hb dX7_init_9 rfl (lv_at hl 0 rfl) ?_
  refine lv_iconst (v := 0) hx hb dX7_init_10 (by decide) ?_
  refine va_put (ci := 7) (v := .int 0) (ty := .int) (C := RX7) (T := TX7) (N := 6) hx hb hts inX7 tyX7 tyX7_ok nmX7 hown hK hP hD hS 0 rfl rfl 2 (by decide) (hts _ gm_55) (fun _ h9 => h9) rfl (by decide +kernel) rfl rfl (Nat.le_of_ble_eq_true rfl) dX7_init_11 (fun H locs hP hD hS => ?_)
  have hP : va_P G vwCl [(h0, .inr (7, [.null, .int 0, .int 0, .int 0, .int 0, .int 0]))] H := hP
  have hD : va_D A [(h0, .inr (7, [.null, .int 0, .int 0, .int 0, .int 0, .int 0]))] := hD
  refine lv_aload_n hx hb dX7_init_14 rfl (lv_at hl 0 rfl) ?_
  refine lv_iconst (v := 0) hx hb dX7_init_15 (by decide) ?_
  refine va_put (ci := 7) (v := .int 0) (ty := .int) (C := RX7) (T := TX7) (N := 6) hx hb hts inX7 tyX7 tyX7_ok nmX7 hown hK hP hD hS 0 rfl rfl 3 (by decide) (hts _ gm_56) (fun _ h9 => h9) rfl (by decide +kernel) rfl rfl (Nat.le_of_ble_eq_true rfl) dX7_init_16 (fun H locs hP hD hS => ?_)
  have hP : va_P G vwCl [(h0, .inr (7, [.null, .int 0, .int 0, .int 0, .int 0, .int 0]))] H := hP
  have hD : va_D A [(h0, .inr (7, [.null, .int 0, .int 0, .int 0, .int 0, .int 0]))] := hD
  refine lv_aload_n hx hb dX7_init_19 rfl (lv_at hl 0 rfl) ?_
  refine lv_iconst (v := 0) hx hb dX7_init_20 (by decide) ?_
  refine va_put (ci := 7) (v := .int 0) (ty := .int) (C := RX7) (T := TX7) (N := 6) hx hb hts inX7 tyX7 tyX7_ok nmX7 hown hK hP hD hS 0 rfl rfl 4 (by decide) (hts _ gm_57) (fun _ h9 => h9) rfl (by decide +kernel) rfl rfl (Nat.le_of_ble_eq_true rfl) dX7_init_21 (fun H locs hP hD hS => ?_)
  have hP : va_P G vwCl [(h0, .inr (7, [.null, .int 0, .int 0, .int 0, .int 0, .int 0]))] H := hP
  have hD : va_D A [(h0, .inr (7, [.null, .int 0, .int 0, .int 0, .int 0, .int 0]))] := hD
  refine lv_aload_n hx hb dX7_init_24 rfl (lv_at hl 0 rfl) ?_
  refine lv_iconst (v := 0) hx hb dX7_init_25 (by decide) ?_
  refine va_put (ci := 7) (v := .int 0) (ty := .int) (C := RX7) (T := TX7) (N := 6) hx hb hts inX7 tyX7 tyX7_ok nmX7 hown hK hP hD hS 0 rfl rfl 5 (by decide) (hts _ gm_59) (fun _ h9 => h9) rfl (by decide +kernel) rfl rfl (Nat.le_of_ble_eq_true rfl) dX7_init_26 (fun H locs hP hD hS => ?_)
  have hP : va_P G vwCl [(h0, .inr (7, [.null, .int 0, .int 0, .int 0, .int 0, .int 0]))] H := hP
  have hD : va_D A [(h0, .inr (7, [.null, .int 0, .int 0, .int 0, .int 0, .int 0]))] := hD
  refine lv_aload_n hx hb dX7_init_29 rfl (lv_at hl 0 rfl) ?_
  refine lv_aload_n hx hb dX7_init_30 rfl (lv_at hl 1 rfl) ?_
  refine va_putF (ci := 7) (v := .ref h1) (ty := .object "WellCourt$Tape") (C := RX7) (T := TX7) (N := 6) hx hb hts inX7 tyX7 tyX7_ok nmX7 hown hK hP hD hS 0 rfl rfl 0 (by decide) (hts _ gm_53) (fun _ h9 => h9) rfl hin rfl (by decide +kernel) rfl rfl (Nat.le_of_ble_eq_true rfl) dX7_init_31 (fun H locs hP hD hS => ?_)
  have hP : va_P G vwCl [(h0, .inr (7, [.ref h1, .int 0, .int 0, .int 0, .int 0, .int 0]))] H := hP
  have hD : va_D A [(h0, .inr (7, [.ref h1, .int 0, .int 0, .int 0, .int 0, .int 0]))] := hD
  exact gz_vret (cf := (fun (u : Unit) => [(h0, .inr (7, [.ref h1, .int 0, .int 0, .int 0, .int 0, .int 0]))])) (post := (fun (u : Unit) => True)) hx hb hr hlocks hK hP hD hS () [0] trivial (by decide) rfl (Nat.le_of_ble_eq_true rfl) (Nat.le_of_ble_eq_true rfl) dX7_init_34

set_option maxHeartbeats 4000000 in
set_option maxRecDepth 100000 in
/-- WellCourt$Land.<init> -/
theorem c_X3_init (l : Launch) (G : va_G) (cy : Nat → ClassId) (sz : Nat) (h0 : Nat)  : gMv l yX3_init cX3_init 1 ({ frames := 1, cells := 9, slots := 54, locals := 20 }) G cy sz [.ref h0] [(h0, .inr (3, [.null, .null, .null]))] (fun (u : (Nat → Nat) × (Nat → Nat)) => True) (fun (u : (Nat → Nat) × (Nat → Nat)) => [(h0, .inr (3, [.ref (u.1 0), .ref (u.1 1), .ref (u.1 2)])), ((u.1 0), .inl (cy 0, 6, .inl (fun _ => 0))), ((u.1 1), .inl (cy 0, 6, .inl (fun _ => 0))), ((u.1 2), .inl (cy 3, 6, .inr (.inr (.inr (.inr (fun i => if i < 6 then some (u.2 i) else none)))))), ((u.2 0), .inl (cy 0, 6, .inl (fun _ => 0))), ((u.2 1), .inl (cy 0, 6, .inl (fun _ => 0))), ((u.2 2), .inl (cy 0, 6, .inl (fun _ => 0))), ((u.2 3), .inl (cy 0, 6, .inl (fun _ => 0))), ((u.2 4), .inl (cy 0, 6, .inl (fun _ => 0))), ((u.2 5), .inl (cy 0, 6, .inl (fun _ => 0)))]) := by
  refine gz_start (fun A => gQv G cy _ _ A) (by decide) (Nat.le_of_ble_eq_true rfl) ?_
  intro p e s m below meth c A ls H hx hb hr hml hlocks hin hown hts hK hov hsz hP hD hS hA hl
  have hl : lv_has ls 1 [(0, .ref h0)] := hl
  refine lv_aload_n hx hb dX3_init_0 rfl (lv_at hl 0 rfl) ?_
  refine W.objInit hx hb hown (hts _ gm_79) (hts _ gm_30) (hts _ gm_31) rfl (by rw [hml]; exact hl.1) rfl dX3_init_1 (Nat.le_of_ble_eq_true rfl) (Nat.le_of_ble_eq_true rfl) ?_
  refine W.eq (g2 := F0 m 4 ls []) rfl ?_
  refine lv_aload_n hx hb dX3_init_4 rfl (lv_at hl 0 rfl) ?_
  refine lv_bipush (v := 6) hx hb dX3_init_5 (by decide) ?_
  refine gz_newa (atype := .int) (t0 := 0) (a0 := (6, .inl (fun _ => 0))) hx hb rfl (fun _ _ h9 => h9) (hts _ gm_98) rfl hK hP hD hS hA (fun _ => rfl) (by decide) (by decide) (Nat.le_of_ble_eq_true rfl) (Nat.le_of_ble_eq_true rfl) (Nat.le_of_ble_eq_true rfl) dX3_init_7 (fun q_1 H hP hD hS => ?_)
  have hP : va_P G vwCl [(h0, .inr (3, [.null, .null, .null])), (q_1, .inl (cy 0, 6, .inl (fun _ => 0)))] H := hP
  have hD : va_D A [(h0, .inr (3, [.null, .null, .null])), (q_1, .inl (cy 0, 6, .inl (fun _ => 0)))] := hD
  refine W.widen (k := 1) (n := 6) (Nat.le_of_ble_eq_true rfl) (Nat.le_of_ble_eq_true rfl) ?_
  refine va_putF (ci := 3) (v := .ref q_1) (ty := .array .int) (C := RX3) (T := TX3) (N := 3) hx hb hts inX3 tyX3 tyX3_ok nmX3 hown hK hP hD hS 0 rfl rfl 0 (by decide) (hts _ gm_82) (fun _ h9 => h9) rfl hin rfl (by decide +kernel) rfl rfl (Nat.le_of_ble_eq_true rfl) dX3_init_9 (fun H locs hP hD hS => ?_)
  have hP : va_P G vwCl [(h0, .inr (3, [.ref q_1, .null, .null])), (q_1, .inl (cy 0, 6, .inl (fun _ => 0)))] H := hP
  have hD : va_D A [(h0, .inr (3, [.ref q_1, .null, .null])), (q_1, .inl (cy 0, 6, .inl (fun _ => 0)))] := hD
  refine lv_aload_n hx hb dX3_init_12 rfl (lv_at hl 0 rfl) ?_
  refine lv_bipush (v := 6) hx hb dX3_init_13 (by decide) ?_
  refine gz_newa (atype := .int) (t0 := 0) (a0 := (6, .inl (fun _ => 0))) hx hb rfl (fun _ _ h9 => h9) (hts _ gm_98) rfl hK hP hD hS hA (fun _ => rfl) (by decide) (by decide) (Nat.le_of_ble_eq_true rfl) (Nat.le_of_ble_eq_true rfl) (Nat.le_of_ble_eq_true rfl) dX3_init_15 (fun q_2 H hP hD hS => ?_)
  have hP : va_P G vwCl [(h0, .inr (3, [.ref q_1, .null, .null])), (q_1, .inl (cy 0, 6, .inl (fun _ => 0))), (q_2, .inl (cy 0, 6, .inl (fun _ => 0)))] H := hP
  have hD : va_D A [(h0, .inr (3, [.ref q_1, .null, .null])), (q_1, .inl (cy 0, 6, .inl (fun _ => 0))), (q_2, .inl (cy 0, 6, .inl (fun _ => 0)))] := hD
  refine W.widen (k := 2) (n := 12) (Nat.le_of_ble_eq_true rfl) (Nat.le_of_ble_eq_true rfl) ?_
  refine va_putF (ci := 3) (v := .ref q_2) (ty := .array .int) (C := RX3) (T := TX3) (N := 3) hx hb hts inX3 tyX3 tyX3_ok nmX3 hown hK hP hD hS 0 rfl rfl 1 (by decide) (hts _ gm_85) (fun _ h9 => h9) rfl hin rfl (by decide +kernel) rfl rfl (Nat.le_of_ble_eq_true rfl) dX3_init_17 (fun H locs hP hD hS => ?_)
  have hP : va_P G vwCl [(h0, .inr (3, [.ref q_1, .ref q_2, .null])), (q_1, .inl (cy 0, 6, .inl (fun _ => 0))), (q_2, .inl (cy 0, 6, .inl (fun _ => 0)))] H := hP
  have hD : va_D A [(h0, .inr (3, [.ref q_1, .ref q_2, .null])), (q_1, .inl (cy 0, 6, .inl (fun _ => 0))), (q_2, .inl (cy 0, 6, .inl (fun _ => 0)))] := hD
  refine lv_aload_n hx hb dX3_init_20 rfl (lv_at hl 0 rfl) ?_
  refine lv_bipush (v := 6) hx hb dX3_init_21 (by decide) ?_
  refine lv_bipush (v := 6) hx hb dX3_init_23 (by decide) ?_
  refine gz_mna (N' := 6) (K' := 6) hx hb hown (hts _ gm_80) hov.1 (hts _ gm_98) hK hP hD hS hA (by decide) (by decide) (by decide) (by decide) (Nat.le_of_ble_eq_true rfl) (Nat.le_of_ble_eq_true rfl) (Nat.le_of_ble_eq_true rfl) (Nat.le_of_ble_eq_true rfl) (Nat.le_of_ble_eq_true rfl) dX3_init_25 (fun q_3 r_4 H hP hD hS => ?_)
  have hP : va_P G vwCl [(h0, .inr (3, [.ref q_1, .ref q_2, .null])), (q_1, .inl (cy 0, 6, .inl (fun _ => 0))), (q_2, .inl (cy 0, 6, .inl (fun _ => 0))), (q_3, .inl (cy 3, 6, .inr (.inr (.inr (.inr (fun i => if i < 6 then some (r_4 i) else none)))))), ((r_4 0), .inl (cy 0, 6, .inl (fun _ => 0))), ((r_4 1), .inl (cy 0, 6, .inl (fun _ => 0))), ((r_4 2), .inl (cy 0, 6, .inl (fun _ => 0))), ((r_4 3), .inl (cy 0, 6, .inl (fun _ => 0))), ((r_4 4), .inl (cy 0, 6, .inl (fun _ => 0))), ((r_4 5), .inl (cy 0, 6, .inl (fun _ => 0)))] H := hP
  have hD : va_D A [(h0, .inr (3, [.ref q_1, .ref q_2, .null])), (q_1, .inl (cy 0, 6, .inl (fun _ => 0))), (q_2, .inl (cy 0, 6, .inl (fun _ => 0))), (q_3, .inl (cy 3, 6, .inr (.inr (.inr (.inr (fun i => if i < 6 then some (r_4 i) else none)))))), ((r_4 0), .inl (cy 0, 6, .inl (fun _ => 0))), ((r_4 1), .inl (cy 0, 6, .inl (fun _ => 0))), ((r_4 2), .inl (cy 0, 6, .inl (fun _ => 0))), ((r_4 3), .inl (cy 0, 6, .inl (fun _ => 0))), ((r_4 4), .inl (cy 0, 6, .inl (fun _ => 0))), ((r_4 5), .inl (cy 0, 6, .inl (fun _ => 0)))] := hD
  refine W.widen (k := 9) (n := 54) (Nat.le_of_ble_eq_true rfl) (Nat.le_of_ble_eq_true rfl) ?_
  refine va_putF (ci := 3) (v := .ref q_3) (ty := .array (.array .int)) (C := RX3) (T := TX3) (N := 3) hx hb hts inX3 tyX3 tyX3_ok nmX3 hown hK hP hD hS 0 rfl rfl 2 (by decide) (hts _ gm_88) (fun _ h9 => h9) rfl hin rfl (by decide +kernel) rfl rfl (Nat.le_of_ble_eq_true rfl) dX3_init_29 (fun H locs hP hD hS => ?_)
  have hP : va_P G vwCl [(h0, .inr (3, [.ref q_1, .ref q_2, .ref q_3])), (q_1, .inl (cy 0, 6, .inl (fun _ => 0))), (q_2, .inl (cy 0, 6, .inl (fun _ => 0))), (q_3, .inl (cy 3, 6, .inr (.inr (.inr (.inr (fun i => if i < 6 then some (r_4 i) else none)))))), ((r_4 0), .inl (cy 0, 6, .inl (fun _ => 0))), ((r_4 1), .inl (cy 0, 6, .inl (fun _ => 0))), ((r_4 2), .inl (cy 0, 6, .inl (fun _ => 0))), ((r_4 3), .inl (cy 0, 6, .inl (fun _ => 0))), ((r_4 4), .inl (cy 0, 6, .inl (fun _ => 0))), ((r_4 5), .inl (cy 0, 6, .inl (fun _ => 0)))] H := hP
  have hD : va_D A [(h0, .inr (3, [.ref q_1, .ref q_2, .ref q_3])), (q_1, .inl (cy 0, 6, .inl (fun _ => 0))), (q_2, .inl (cy 0, 6, .inl (fun _ => 0))), (q_3, .inl (cy 3, 6, .inr (.inr (.inr (.inr (fun i => if i < 6 then some (r_4 i) else none)))))), ((r_4 0), .inl (cy 0, 6, .inl (fun _ => 0))), ((r_4 1), .inl (cy 0, 6, .inl (fun _ => 0))), ((r_4 2), .inl (cy 0, 6, .inl (fun _ => 0))), ((r_4 3), .inl (cy 0, 6, .inl (fun _ => 0))), ((r_4 4), .inl (cy 0, 6, .inl (fun _ => 0))), ((r_4 5), .inl (cy 0, 6, .inl (fun _ => 0)))] := hD
  exact gz_vret (cf := (fun (u : (Nat → Nat) × (Nat → Nat)) => [(h0, .inr (3, [.ref (u.1 0), .ref (u.1 1), .ref (u.1 2)])), ((u.1 0), .inl (cy 0, 6, .inl (fun _ => 0))), ((u.1 1), .inl (cy 0, 6, .inl (fun _ => 0))), ((u.1 2), .inl (cy 3, 6, .inr (.inr (.inr (.inr (fun i => if i < 6 then some (u.2 i) else none)))))), ((u.2 0), .inl (cy 0, 6, .inl (fun _ => 0))), ((u.2 1), .inl (cy 0, 6, .inl (fun _ => 0))), ((u.2 2), .inl (cy 0, 6, .inl (fun _ => 0))), ((u.2 3), .inl (cy 0, 6, .inl (fun _ => 0))), ((u.2 4), .inl (cy 0, 6, .inl (fun _ => 0))), ((u.2 5), .inl (cy 0, 6, .inl (fun _ => 0)))])) (post := (fun (u : (Nat → Nat) × (Nat → Nat)) => True)) hx hb hr hlocks hK hP hD hS ((fun k => match k with | 0 => q_1 | 1 => q_2 | 2 => q_3 | _ => 0), r_4) [0, 1, 2, 3, 4, 5, 6, 7, 8, 9] trivial (by decide) rfl (Nat.le_of_ble_eq_true rfl) (Nat.le_of_ble_eq_true rfl) dX3_init_32

set_option maxHeartbeats 4000000 in
set_option maxRecDepth 100000 in
/-- WellCourt$Calendar.<init> -/
theorem c_X0_init (l : Launch) (G : va_G) (cy : Nat → ClassId) (sz : Nat) (h0 : Nat)  : gMv l yX0_init cX0_init 2 ({ frames := 1, cells := 7, slots := 1206, locals := 23 }) G cy sz [.ref h0] [(h0, .inr (0, [.null]))] (fun (u : (Nat → Nat) × (Nat → Nat)) => True) (fun (u : (Nat → Nat) × (Nat → Nat)) => [(h0, .inr (0, [.ref (u.1 0)])), ((u.1 0), .inl (cy 3, 6, .inr (.inr (.inr (.inr (fun i => if i < 6 then some (u.2 i) else none)))))), ((u.2 0), .inl (cy 0, 200, .inl (fun _ => (-1)))), ((u.2 1), .inl (cy 0, 200, .inl (fun _ => (-1)))), ((u.2 2), .inl (cy 0, 200, .inl (fun _ => (-1)))), ((u.2 3), .inl (cy 0, 200, .inl (fun _ => (-1)))), ((u.2 4), .inl (cy 0, 200, .inl (fun _ => (-1)))), ((u.2 5), .inl (cy 0, 200, .inl (fun _ => (-1))))]) := by
  refine gz_start (fun A => gQv G cy _ _ A) (by decide) (Nat.le_of_ble_eq_true rfl) ?_
  intro p e s m below meth c A ls H hx hb hr hml hlocks hin hown hts hK hov hsz hP hD hS hA hl
  have hl : lv_has ls 2 [(0, .ref h0)] := hl
  refine lv_aload_n hx hb dX0_init_0 rfl (lv_at hl 0 rfl) ?_
  refine W.objInit hx hb hown (hts _ gm_104) (hts _ gm_30) (hts _ gm_31) rfl (by rw [hml]; exact hl.1) rfl dX0_init_1 (Nat.le_of_ble_eq_true rfl) (Nat.le_of_ble_eq_true rfl) ?_
  refine W.eq (g2 := F0 m 4 ls []) rfl ?_
  refine lv_aload_n hx hb dX0_init_4 rfl (lv_at hl 0 rfl) ?_
  refine lv_bipush (v := 6) hx hb dX0_init_5 (by decide) ?_
  refine lv_sipush (v := 200) hx hb dX0_init_7 (by decide) ?_
  refine gz_mna (N' := 6) (K' := 200) hx hb hown (hts _ gm_105) hov.1 (hts _ gm_98) hK hP hD hS hA (by decide) (by decide) (by decide) (by decide) (Nat.le_of_ble_eq_true rfl) (Nat.le_of_ble_eq_true rfl) (Nat.le_of_ble_eq_true rfl) (Nat.le_of_ble_eq_true rfl) (Nat.le_of_ble_eq_true rfl) dX0_init_10 (fun q_1 r_2 H hP hD hS => ?_)
  have hP : va_P G vwCl [(h0, .inr (0, [.null])), (q_1, .inl (cy 3, 6, .inr (.inr (.inr (.inr (fun i => if i < 6 then some (r_2 i) else none)))))), ((r_2 0), .inl (cy 0, 200, .inl (fun _ => 0))), ((r_2 1), .inl (cy 0, 200, .inl (fun _ => 0))), ((r_2 2), .inl (cy 0, 200, .inl (fun _ => 0))), ((r_2 3), .inl (cy 0, 200, .inl (fun _ => 0))), ((r_2 4), .inl (cy 0, 200, .inl (fun _ => 0))), ((r_2 5), .inl (cy 0, 200, .inl (fun _ => 0)))] H := hP
  have hD : va_D A [(h0, .inr (0, [.null])), (q_1, .inl (cy 3, 6, .inr (.inr (.inr (.inr (fun i => if i < 6 then some (r_2 i) else none)))))), ((r_2 0), .inl (cy 0, 200, .inl (fun _ => 0))), ((r_2 1), .inl (cy 0, 200, .inl (fun _ => 0))), ((r_2 2), .inl (cy 0, 200, .inl (fun _ => 0))), ((r_2 3), .inl (cy 0, 200, .inl (fun _ => 0))), ((r_2 4), .inl (cy 0, 200, .inl (fun _ => 0))), ((r_2 5), .inl (cy 0, 200, .inl (fun _ => 0)))] := hD
  refine W.widen (k := 7) (n := 1206) (Nat.le_of_ble_eq_true rfl) (Nat.le_of_ble_eq_true rfl) ?_
  refine va_putF (ci := 0) (v := .ref q_1) (ty := .array (.array .int)) (C := RX0) (T := TX0) (N := 1) hx hb hts inX0 tyX0 tyX0_ok nmX0 hown hK hP hD hS 0 rfl rfl 0 (by decide) (hts _ gm_109) (fun _ h9 => h9) rfl hin rfl (by decide +kernel) rfl rfl (Nat.le_of_ble_eq_true rfl) dX0_init_14 (fun H locs hP hD hS => ?_)
  have hP : va_P G vwCl [(h0, .inr (0, [.ref q_1])), (q_1, .inl (cy 3, 6, .inr (.inr (.inr (.inr (fun i => if i < 6 then some (r_2 i) else none)))))), ((r_2 0), .inl (cy 0, 200, .inl (fun _ => 0))), ((r_2 1), .inl (cy 0, 200, .inl (fun _ => 0))), ((r_2 2), .inl (cy 0, 200, .inl (fun _ => 0))), ((r_2 3), .inl (cy 0, 200, .inl (fun _ => 0))), ((r_2 4), .inl (cy 0, 200, .inl (fun _ => 0))), ((r_2 5), .inl (cy 0, 200, .inl (fun _ => 0)))] H := hP
  have hD : va_D A [(h0, .inr (0, [.ref q_1])), (q_1, .inl (cy 3, 6, .inr (.inr (.inr (.inr (fun i => if i < 6 then some (r_2 i) else none)))))), ((r_2 0), .inl (cy 0, 200, .inl (fun _ => 0))), ((r_2 1), .inl (cy 0, 200, .inl (fun _ => 0))), ((r_2 2), .inl (cy 0, 200, .inl (fun _ => 0))), ((r_2 3), .inl (cy 0, 200, .inl (fun _ => 0))), ((r_2 4), .inl (cy 0, 200, .inl (fun _ => 0))), ((r_2 5), .inl (cy 0, 200, .inl (fun _ => 0)))] := hD
  refine lv_iconst (v := 0) hx hb dX0_init_17 (by decide) ?_
  refine lv_istore_n (lv' := [(1, .int 0), (0, .ref h0)]) hx hb dX0_init_18 rfl hl (by decide) rfl (fun ls hl => ?_)
  refine lv_iload_n hx hb dX0_init_19 rfl (lv_at hl 0 rfl) ?_
  refine lv_bipush (v := 6) hx hb dX0_init_20 (by decide) ?_
  refine lv_icmp_ge (tgt := 41) hx hb dX0_init_22 (by decide) (fun h9 => absurd h9 (by decide)) (fun _ => ?_)
  refine lv_aload_n hx hb dX0_init_25 rfl (lv_at hl 1 rfl) ?_
  refine va_get (ci := 0) (v := .ref q_1) (C := RX0) (T := TX0) (N := 1) hx hb hts inX0 hown hK hP 0 rfl rfl 0 (by decide) (hts _ gm_109) (fun _ h9 => h9) rfl dX0_init_26 ?_
  refine lv_iload_n hx hb dX0_init_29 rfl (lv_at hl 0 rfl) ?_
  refine gz_alda hx hb hK hP 1 rfl (vp_in_iff.mpr (by decide)) dX0_init_30 (v := .ref (r_2 0)) rfl ?_
  refine lv_iconst (v := (-1)) hx hb dX0_init_31 (by decide) ?_
  refine gz_aftv (va_runS (As := [.ref (r_2 0), .int (-1)]) (rest := []) ⟨hx, hb, hml, hown, hts⟩ (c_fill l G cy H.size (r_2 0) 200 (fun _ => 0) (-1) (by decide)) ⟨(gz_cb (n := 2) hts gm_106 gm_6 gm_108 ⟨by decide +kernel, by decide +kernel, by decide +kernel⟩ ⟨Nat.le_of_ble_eq_true rfl, Nat.le_of_ble_eq_true rfl⟩), hts _ gm_107⟩ (gz_preS hK hov hP hD [2] (by decide) rfl) rfl rfl hl.1 rfl (lv_room (Nat.le_of_ble_eq_true rfl)) dX0_init_32 ⟨Nat.le_of_ble_eq_true rfl, Nat.le_of_ble_eq_true rfl⟩) hP hD hS hA [2] [0, 1, 3, 4, 5, 6, 7] rfl rfl (by decide) (by decide) (fun u_3 H locs hw_3 hP hD hS => ?_)
  have hP : va_P G vwCl [(h0, .inr (0, [.ref q_1])), (q_1, .inl (cy 3, 6, .inr (.inr (.inr (.inr (fun i => if i < 6 then some (r_2 i) else none)))))), ((r_2 1), .inl (cy 0, 200, .inl (fun _ => 0))), ((r_2 2), .inl (cy 0, 200, .inl (fun _ => 0))), ((r_2 3), .inl (cy 0, 200, .inl (fun _ => 0))), ((r_2 4), .inl (cy 0, 200, .inl (fun _ => 0))), ((r_2 5), .inl (cy 0, 200, .inl (fun _ => 0))), ((r_2 0), .inl (cy 0, 200, .inl (fun _ => (-1))))] H := hP
  have hD : va_D A [(h0, .inr (0, [.ref q_1])), (q_1, .inl (cy 3, 6, .inr (.inr (.inr (.inr (fun i => if i < 6 then some (r_2 i) else none)))))), ((r_2 1), .inl (cy 0, 200, .inl (fun _ => 0))), ((r_2 2), .inl (cy 0, 200, .inl (fun _ => 0))), ((r_2 3), .inl (cy 0, 200, .inl (fun _ => 0))), ((r_2 4), .inl (cy 0, 200, .inl (fun _ => 0))), ((r_2 5), .inl (cy 0, 200, .inl (fun _ => 0))), ((r_2 0), .inl (cy 0, 200, .inl (fun _ => (-1))))] := hD
  refine lv_iinc (v := (1)) (lv' := [(1, .int 1), (0, .ref h0)]) hx hb dX0_init_35 hl (k := 0) rfl (by decide) (by decide) rfl (fun ls hl => ?_)
  refine lv_goto (tgt := 19) hx hb dX0_init_38 (by decide) ?_
  refine lv_iload_n hx hb dX0_init_19 rfl (lv_at hl 0 rfl) ?_
  refine lv_bipush (v := 6) hx hb dX0_init_20 (by decide) ?_
  refine lv_icmp_ge (tgt := 41) hx hb dX0_init_22 (by decide) (fun h9 => absurd h9 (by decide)) (fun _ => ?_)
  refine lv_aload_n hx hb dX0_init_25 rfl (lv_at hl 1 rfl) ?_
  refine va_get (ci := 0) (v := .ref q_1) (C := RX0) (T := TX0) (N := 1) hx hb hts inX0 hown hK hP 0 rfl rfl 0 (by decide) (hts _ gm_109) (fun _ h9 => h9) rfl dX0_init_26 ?_
  refine lv_iload_n hx hb dX0_init_29 rfl (lv_at hl 0 rfl) ?_
  refine gz_alda hx hb hK hP 1 rfl (vp_in_iff.mpr (by decide)) dX0_init_30 (v := .ref (r_2 1)) rfl ?_
  refine lv_iconst (v := (-1)) hx hb dX0_init_31 (by decide) ?_
  refine gz_aftv (va_runS (As := [.ref (r_2 1), .int (-1)]) (rest := []) ⟨hx, hb, hml, hown, hts⟩ (c_fill l G cy H.size (r_2 1) 200 (fun _ => 0) (-1) (by decide)) ⟨(gz_cb (n := 2) hts gm_106 gm_6 gm_108 ⟨by decide +kernel, by decide +kernel, by decide +kernel⟩ ⟨Nat.le_of_ble_eq_true rfl, Nat.le_of_ble_eq_true rfl⟩), hts _ gm_107⟩ (gz_preS hK hov hP hD [2] (by decide) rfl) rfl rfl hl.1 rfl (lv_room (Nat.le_of_ble_eq_true rfl)) dX0_init_32 ⟨Nat.le_of_ble_eq_true rfl, Nat.le_of_ble_eq_true rfl⟩) hP hD hS hA [2] [0, 1, 3, 4, 5, 6, 7] rfl rfl (by decide) (by decide) (fun u_4 H locs hw_4 hP hD hS => ?_)
  have hP : va_P G vwCl [(h0, .inr (0, [.ref q_1])), (q_1, .inl (cy 3, 6, .inr (.inr (.inr (.inr (fun i => if i < 6 then some (r_2 i) else none)))))), ((r_2 2), .inl (cy 0, 200, .inl (fun _ => 0))), ((r_2 3), .inl (cy 0, 200, .inl (fun _ => 0))), ((r_2 4), .inl (cy 0, 200, .inl (fun _ => 0))), ((r_2 5), .inl (cy 0, 200, .inl (fun _ => 0))), ((r_2 0), .inl (cy 0, 200, .inl (fun _ => (-1)))), ((r_2 1), .inl (cy 0, 200, .inl (fun _ => (-1))))] H := hP
  have hD : va_D A [(h0, .inr (0, [.ref q_1])), (q_1, .inl (cy 3, 6, .inr (.inr (.inr (.inr (fun i => if i < 6 then some (r_2 i) else none)))))), ((r_2 2), .inl (cy 0, 200, .inl (fun _ => 0))), ((r_2 3), .inl (cy 0, 200, .inl (fun _ => 0))), ((r_2 4), .inl (cy 0, 200, .inl (fun _ => 0))), ((r_2 5), .inl (cy 0, 200, .inl (fun _ => 0))), ((r_2 0), .inl (cy 0, 200, .inl (fun _ => (-1)))), ((r_2 1), .inl (cy 0, 200, .inl (fun _ => (-1))))] := hD
  refine lv_iinc (v := (2)) (lv' := [(1, .int 2), (0, .ref h0)]) hx hb dX0_init_35 hl (k := 0) rfl (by decide) (by decide) rfl (fun ls hl => ?_)
  refine lv_goto (tgt := 19) hx hb dX0_init_38 (by decide) ?_
  refine lv_iload_n hx hb dX0_init_19 rfl (lv_at hl 0 rfl) ?_
  refine lv_bipush (v := 6) hx hb dX0_init_20 (by decide) ?_
  refine lv_icmp_ge (tgt := 41) hx hb dX0_init_22 (by decide) (fun h9 => absurd h9 (by decide)) (fun _ => ?_)
  refine lv_aload_n hx hb dX0_init_25 rfl (lv_at hl 1 rfl) ?_
  refine va_get (ci := 0) (v := .ref q_1) (C := RX0) (T := TX0) (N := 1) hx hb hts inX0 hown hK hP 0 rfl rfl 0 (by decide) (hts _ gm_109) (fun _ h9 => h9) rfl dX0_init_26 ?_
  refine lv_iload_n hx hb dX0_init_29 rfl (lv_at hl 0 rfl) ?_
  refine gz_alda hx hb hK hP 1 rfl (vp_in_iff.mpr (by decide)) dX0_init_30 (v := .ref (r_2 2)) rfl ?_
  refine lv_iconst (v := (-1)) hx hb dX0_init_31 (by decide) ?_
  refine gz_aftv (va_runS (As := [.ref (r_2 2), .int (-1)]) (rest := []) ⟨hx, hb, hml, hown, hts⟩ (c_fill l G cy H.size (r_2 2) 200 (fun _ => 0) (-1) (by decide)) ⟨(gz_cb (n := 2) hts gm_106 gm_6 gm_108 ⟨by decide +kernel, by decide +kernel, by decide +kernel⟩ ⟨Nat.le_of_ble_eq_true rfl, Nat.le_of_ble_eq_true rfl⟩), hts _ gm_107⟩ (gz_preS hK hov hP hD [2] (by decide) rfl) rfl rfl hl.1 rfl (lv_room (Nat.le_of_ble_eq_true rfl)) dX0_init_32 ⟨Nat.le_of_ble_eq_true rfl, Nat.le_of_ble_eq_true rfl⟩) hP hD hS hA [2] [0, 1, 3, 4, 5, 6, 7] rfl rfl (by decide) (by decide) (fun u_5 H locs hw_5 hP hD hS => ?_)
  have hP : va_P G vwCl [(h0, .inr (0, [.ref q_1])), (q_1, .inl (cy 3, 6, .inr (.inr (.inr (.inr (fun i => if i < 6 then some (r_2 i) else none)))))), ((r_2 3), .inl (cy 0, 200, .inl (fun _ => 0))), ((r_2 4), .inl (cy 0, 200, .inl (fun _ => 0))), ((r_2 5), .inl (cy 0, 200, .inl (fun _ => 0))), ((r_2 0), .inl (cy 0, 200, .inl (fun _ => (-1)))), ((r_2 1), .inl (cy 0, 200, .inl (fun _ => (-1)))), ((r_2 2), .inl (cy 0, 200, .inl (fun _ => (-1))))] H := hP
  have hD : va_D A [(h0, .inr (0, [.ref q_1])), (q_1, .inl (cy 3, 6, .inr (.inr (.inr (.inr (fun i => if i < 6 then some (r_2 i) else none)))))), ((r_2 3), .inl (cy 0, 200, .inl (fun _ => 0))), ((r_2 4), .inl (cy 0, 200, .inl (fun _ => 0))), ((r_2 5), .inl (cy 0, 200, .inl (fun _ => 0))), ((r_2 0), .inl (cy 0, 200, .inl (fun _ => (-1)))), ((r_2 1), .inl (cy 0, 200, .inl (fun _ => (-1)))), ((r_2 2), .inl (cy 0, 200, .inl (fun _ => (-1))))] := hD
  refine lv_iinc (v := (3)) (lv' := [(1, .int 3), (0, .ref h0)]) hx hb dX0_init_35 hl (k := 0) rfl (by decide) (by decide) rfl (fun ls hl => ?_)
  refine lv_goto (tgt := 19) hx hb dX0_init_38 (by decide) ?_
  refine lv_iload_n hx hb dX0_init_19 rfl (lv_at hl 0 rfl) ?_
  refine lv_bipush (v := 6) hx hb dX0_init_20 (by decide) ?_
  refine lv_icmp_ge (tgt := 41) hx hb dX0_init_22 (by decide) (fun h9 => absurd h9 (by decide)) (fun _ => ?_)
  refine lv_aload_n hx hb dX0_init_25 rfl (lv_at hl 1 rfl) ?_
  refine va_get (ci := 0) (v := .ref q_1) (C := RX0) (T := TX0) (N := 1) hx hb hts inX0 hown hK hP 0 rfl rfl 0 (by decide) (hts _ gm_109) (fun _ h9 => h9) rfl dX0_init_26 ?_
  refine lv_iload_n hx hb dX0_init_29 rfl (lv_at hl 0 rfl) ?_
  refine gz_alda hx hb hK hP 1 rfl (vp_in_iff.mpr (by decide)) dX0_init_30 (v := .ref (r_2 3)) rfl ?_
  refine lv_iconst (v := (-1)) hx hb dX0_init_31 (by decide) ?_
  refine gz_aftv (va_runS (As := [.ref (r_2 3), .int (-1)]) (rest := []) ⟨hx, hb, hml, hown, hts⟩ (c_fill l G cy H.size (r_2 3) 200 (fun _ => 0) (-1) (by decide)) ⟨(gz_cb (n := 2) hts gm_106 gm_6 gm_108 ⟨by decide +kernel, by decide +kernel, by decide +kernel⟩ ⟨Nat.le_of_ble_eq_true rfl, Nat.le_of_ble_eq_true rfl⟩), hts _ gm_107⟩ (gz_preS hK hov hP hD [2] (by decide) rfl) rfl rfl hl.1 rfl (lv_room (Nat.le_of_ble_eq_true rfl)) dX0_init_32 ⟨Nat.le_of_ble_eq_true rfl, Nat.le_of_ble_eq_true rfl⟩) hP hD hS hA [2] [0, 1, 3, 4, 5, 6, 7] rfl rfl (by decide) (by decide) (fun u_6 H locs hw_6 hP hD hS => ?_)
  have hP : va_P G vwCl [(h0, .inr (0, [.ref q_1])), (q_1, .inl (cy 3, 6, .inr (.inr (.inr (.inr (fun i => if i < 6 then some (r_2 i) else none)))))), ((r_2 4), .inl (cy 0, 200, .inl (fun _ => 0))), ((r_2 5), .inl (cy 0, 200, .inl (fun _ => 0))), ((r_2 0), .inl (cy 0, 200, .inl (fun _ => (-1)))), ((r_2 1), .inl (cy 0, 200, .inl (fun _ => (-1)))), ((r_2 2), .inl (cy 0, 200, .inl (fun _ => (-1)))), ((r_2 3), .inl (cy 0, 200, .inl (fun _ => (-1))))] H := hP
  have hD : va_D A [(h0, .inr (0, [.ref q_1])), (q_1, .inl (cy 3, 6, .inr (.inr (.inr (.inr (fun i => if i < 6 then some (r_2 i) else none)))))), ((r_2 4), .inl (cy 0, 200, .inl (fun _ => 0))), ((r_2 5), .inl (cy 0, 200, .inl (fun _ => 0))), ((r_2 0), .inl (cy 0, 200, .inl (fun _ => (-1)))), ((r_2 1), .inl (cy 0, 200, .inl (fun _ => (-1)))), ((r_2 2), .inl (cy 0, 200, .inl (fun _ => (-1)))), ((r_2 3), .inl (cy 0, 200, .inl (fun _ => (-1))))] := hD
  refine lv_iinc (v := (4)) (lv' := [(1, .int 4), (0, .ref h0)]) hx hb dX0_init_35 hl (k := 0) rfl (by decide) (by decide) rfl (fun ls hl => ?_)
  refine lv_goto (tgt := 19) hx hb dX0_init_38 (by decide) ?_
  refine lv_iload_n hx hb dX0_init_19 rfl (lv_at hl 0 rfl) ?_
  refine lv_bipush (v := 6) hx hb dX0_init_20 (by decide) ?_
  refine lv_icmp_ge (tgt := 41) hx hb dX0_init_22 (by decide) (fun h9 => absurd h9 (by decide)) (fun _ => ?_)
  refine lv_aload_n hx hb dX0_init_25 rfl (lv_at hl 1 rfl) ?_
  refine va_get (ci := 0) (v := .ref q_1) (C := RX0) (T := TX0) (N := 1) hx hb hts inX0 hown hK hP 0 rfl rfl 0 (by decide) (hts _ gm_109) (fun _ h9 => h9) rfl dX0_init_26 ?_
  refine lv_iload_n hx hb dX0_init_29 rfl (lv_at hl 0 rfl) ?_
  refine gz_alda hx hb hK hP 1 rfl (vp_in_iff.mpr (by decide)) dX0_init_30 (v := .ref (r_2 4)) rfl ?_
  refine lv_iconst (v := (-1)) hx hb dX0_init_31 (by decide) ?_
  refine gz_aftv (va_runS (As := [.ref (r_2 4), .int (-1)]) (rest := []) ⟨hx, hb, hml, hown, hts⟩ (c_fill l G cy H.size (r_2 4) 200 (fun _ => 0) (-1) (by decide)) ⟨(gz_cb (n := 2) hts gm_106 gm_6 gm_108 ⟨by decide +kernel, by decide +kernel, by decide +kernel⟩ ⟨Nat.le_of_ble_eq_true rfl, Nat.le_of_ble_eq_true rfl⟩), hts _ gm_107⟩ (gz_preS hK hov hP hD [2] (by decide) rfl) rfl rfl hl.1 rfl (lv_room (Nat.le_of_ble_eq_true rfl)) dX0_init_32 ⟨Nat.le_of_ble_eq_true rfl, Nat.le_of_ble_eq_true rfl⟩) hP hD hS hA [2] [0, 1, 3, 4, 5, 6, 7] rfl rfl (by decide) (by decide) (fun u_7 H locs hw_7 hP hD hS => ?_)
  have hP : va_P G vwCl [(h0, .inr (0, [.ref q_1])), (q_1, .inl (cy 3, 6, .inr (.inr (.inr (.inr (fun i => if i < 6 then some (r_2 i) else none)))))), ((r_2 5), .inl (cy 0, 200, .inl (fun _ => 0))), ((r_2 0), .inl (cy 0, 200, .inl (fun _ => (-1)))), ((r_2 1), .inl (cy 0, 200, .inl (fun _ => (-1)))), ((r_2 2), .inl (cy 0, 200, .inl (fun _ => (-1)))), ((r_2 3), .inl (cy 0, 200, .inl (fun _ => (-1)))), ((r_2 4), .inl (cy 0, 200, .inl (fun _ => (-1))))] H := hP
  have hD : va_D A [(h0, .inr (0, [.ref q_1])), (q_1, .inl (cy 3, 6, .inr (.inr (.inr (.inr (fun i => if i < 6 then some (r_2 i) else none)))))), ((r_2 5), .inl (cy 0, 200, .inl (fun _ => 0))), ((r_2 0), .inl (cy 0, 200, .inl (fun _ => (-1)))), ((r_2 1), .inl (cy 0, 200, .inl (fun _ => (-1)))), ((r_2 2), .inl (cy 0, 200, .inl (fun _ => (-1)))), ((r_2 3), .inl (cy 0, 200, .inl (fun _ => (-1)))), ((r_2 4), .inl (cy 0, 200, .inl (fun _ => (-1))))] := hD
  refine lv_iinc (v := (5)) (lv' := [(1, .int 5), (0, .ref h0)]) hx hb dX0_init_35 hl (k := 0) rfl (by decide) (by decide) rfl (fun ls hl => ?_)
  refine lv_goto (tgt := 19) hx hb dX0_init_38 (by decide) ?_
  refine lv_iload_n hx hb dX0_init_19 rfl (lv_at hl 0 rfl) ?_
  refine lv_bipush (v := 6) hx hb dX0_init_20 (by decide) ?_
  refine lv_icmp_ge (tgt := 41) hx hb dX0_init_22 (by decide) (fun h9 => absurd h9 (by decide)) (fun _ => ?_)
  refine lv_aload_n hx hb dX0_init_25 rfl (lv_at hl 1 rfl) ?_
  refine va_get (ci := 0) (v := .ref q_1) (C := RX0) (T := TX0) (N := 1) hx hb hts inX0 hown hK hP 0 rfl rfl 0 (by decide) (hts _ gm_109) (fun _ h9 => h9) rfl dX0_init_26 ?_
  refine lv_iload_n hx hb dX0_init_29 rfl (lv_at hl 0 rfl) ?_
  refine gz_alda hx hb hK hP 1 rfl (vp_in_iff.mpr (by decide)) dX0_init_30 (v := .ref (r_2 5)) rfl ?_
  refine lv_iconst (v := (-1)) hx hb dX0_init_31 (by decide) ?_
  refine gz_aftv (va_runS (As := [.ref (r_2 5), .int (-1)]) (rest := []) ⟨hx, hb, hml, hown, hts⟩ (c_fill l G cy H.size (r_2 5) 200 (fun _ => 0) (-1) (by decide)) ⟨(gz_cb (n := 2) hts gm_106 gm_6 gm_108 ⟨by decide +kernel, by decide +kernel, by decide +kernel⟩ ⟨Nat.le_of_ble_eq_true rfl, Nat.le_of_ble_eq_true rfl⟩), hts _ gm_107⟩ (gz_preS hK hov hP hD [2] (by decide) rfl) rfl rfl hl.1 rfl (lv_room (Nat.le_of_ble_eq_true rfl)) dX0_init_32 ⟨Nat.le_of_ble_eq_true rfl, Nat.le_of_ble_eq_true rfl⟩) hP hD hS hA [2] [0, 1, 3, 4, 5, 6, 7] rfl rfl (by decide) (by decide) (fun u_8 H locs hw_8 hP hD hS => ?_)
  have hP : va_P G vwCl [(h0, .inr (0, [.ref q_1])), (q_1, .inl (cy 3, 6, .inr (.inr (.inr (.inr (fun i => if i < 6 then some (r_2 i) else none)))))), ((r_2 0), .inl (cy 0, 200, .inl (fun _ => (-1)))), ((r_2 1), .inl (cy 0, 200, .inl (fun _ => (-1)))), ((r_2 2), .inl (cy 0, 200, .inl (fun _ => (-1)))), ((r_2 3), .inl (cy 0, 200, .inl (fun _ => (-1)))), ((r_2 4), .inl (cy 0, 200, .inl (fun _ => (-1)))), ((r_2 5), .inl (cy 0, 200, .inl (fun _ => (-1))))] H := hP
  have hD : va_D A [(h0, .inr (0, [.ref q_1])), (q_1, .inl (cy 3, 6, .inr (.inr (.inr (.inr (fun i => if i < 6 then some (r_2 i) else none)))))), ((r_2 0), .inl (cy 0, 200, .inl (fun _ => (-1)))), ((r_2 1), .inl (cy 0, 200, .inl (fun _ => (-1)))), ((r_2 2), .inl (cy 0, 200, .inl (fun _ => (-1)))), ((r_2 3), .inl (cy 0, 200, .inl (fun _ => (-1)))), ((r_2 4), .inl (cy 0, 200, .inl (fun _ => (-1)))), ((r_2 5), .inl (cy 0, 200, .inl (fun _ => (-1))))] := hD
  refine lv_iinc (v := (6)) (lv' := [(1, .int 6), (0, .ref h0)]) hx hb dX0_init_35 hl (k := 0) rfl (by decide) (by decide) rfl (fun ls hl => ?_)
  refine lv_goto (tgt := 19) hx hb dX0_init_38 (by decide) ?_
  refine lv_iload_n hx hb dX0_init_19 rfl (lv_at hl 0 rfl) ?_
  refine lv_bipush (v := 6) hx hb dX0_init_20 (by decide) ?_
  refine lv_icmp_ge (tgt := 41) hx hb dX0_init_22 (by decide) (fun _ => ?_) (fun h9 => absurd (by decide) h9)
  exact gz_vret (cf := (fun (u : (Nat → Nat) × (Nat → Nat)) => [(h0, .inr (0, [.ref (u.1 0)])), ((u.1 0), .inl (cy 3, 6, .inr (.inr (.inr (.inr (fun i => if i < 6 then some (u.2 i) else none)))))), ((u.2 0), .inl (cy 0, 200, .inl (fun _ => (-1)))), ((u.2 1), .inl (cy 0, 200, .inl (fun _ => (-1)))), ((u.2 2), .inl (cy 0, 200, .inl (fun _ => (-1)))), ((u.2 3), .inl (cy 0, 200, .inl (fun _ => (-1)))), ((u.2 4), .inl (cy 0, 200, .inl (fun _ => (-1)))), ((u.2 5), .inl (cy 0, 200, .inl (fun _ => (-1))))])) (post := (fun (u : (Nat → Nat) × (Nat → Nat)) => True)) hx hb hr hlocks hK hP hD hS ((fun k => match k with | 0 => q_1 | _ => 0), r_2) [0, 1, 2, 3, 4, 5, 6, 7] trivial (by decide) rfl (Nat.le_of_ble_eq_true rfl) (Nat.le_of_ble_eq_true rfl) dX0_init_41

set_option maxHeartbeats 4000000 in
set_option maxRecDepth 100000 in
/-- WellCourt$Day.<init> -/
theorem c_X1_init (l : Launch) (G : va_G) (cy : Nat → ClassId) (sz : Nat) (h0 : Nat)  : gMv l yX1_init cX1_init 1 ({ frames := 1, cells := 3, slots := 18, locals := 23 }) G cy sz [.ref h0] [(h0, .inr (1, [.null, .null, .null]))] (fun (u : (Nat → Nat)) => True) (fun (u : (Nat → Nat)) => [(h0, .inr (1, [.ref (u 0), .ref (u 1), .ref (u 2)])), ((u 0), .inl (cy 0, 6, .inl (fun _ => 0))), ((u 1), .inl (cy 0, 6, .inl (fun _ => (-1)))), ((u 2), .inl (cy 0, 6, .inl (fun _ => (-1))))]) := by
  refine gz_start (fun A => gQv G cy _ _ A) (by decide) (Nat.le_of_ble_eq_true rfl) ?_
  intro p e s m below meth c A ls H hx hb hr hml hlocks hin hown hts hK hov hsz hP hD hS hA hl
  have hl : lv_has ls 1 [(0, .ref h0)] := hl
  refine lv_aload_n hx hb dX1_init_0 rfl (lv_at hl 0 rfl) ?_
  refine W.objInit hx hb hown (hts _ gm_118) (hts _ gm_30) (hts _ gm_31) rfl (by rw [hml]; exact hl.1) rfl dX1_init_1 (Nat.le_of_ble_eq_true rfl) (Nat.le_of_ble_eq_true rfl) ?_
  refine W.eq (g2 := F0 m 4 ls []) rfl ?_
  refine lv_aload_n hx hb dX1_init_4 rfl (lv_at hl 0 rfl) ?_
  refine lv_bipush (v := 6) hx hb dX1_init_5 (by decide) ?_
  refine gz_newa (atype := .int) (t0 := 0) (a0 := (6, .inl (fun _ => 0))) hx hb rfl (fun _ _ h9 => h9) (hts _ gm_98) rfl hK hP hD hS hA (fun _ => rfl) (by decide) (by decide) (Nat.le_of_ble_eq_true rfl) (Nat.le_of_ble_eq_true rfl) (Nat.le_of_ble_eq_true rfl) dX1_init_7 (fun q_1 H hP hD hS => ?_)
  have hP : va_P G vwCl [(h0, .inr (1, [.null, .null, .null])), (q_1, .inl (cy 0, 6, .inl (fun _ => 0)))] H := hP
  have hD : va_D A [(h0, .inr (1, [.null, .null, .null])), (q_1, .inl (cy 0, 6, .inl (fun _ => 0)))] := hD
  refine W.widen (k := 1) (n := 6) (Nat.le_of_ble_eq_true rfl) (Nat.le_of_ble_eq_true rfl) ?_
  refine va_putF (ci := 1) (v := .ref q_1) (ty := .array .int) (C := RX1) (T := TX1) (N := 3) hx hb hts inX1 tyX1 tyX1_ok nmX1 hown hK hP hD hS 0 rfl rfl 0 (by decide) (hts _ gm_120) (fun _ h9 => h9) rfl hin rfl (by decide +kernel) rfl rfl (Nat.le_of_ble_eq_true rfl) dX1_init_9 (fun H locs hP hD hS => ?_)
  have hP : va_P G vwCl [(h0, .inr (1, [.ref q_1, .null, .null])), (q_1, .inl (cy 0, 6, .inl (fun _ => 0)))] H := hP
  have hD : va_D A [(h0, .inr (1, [.ref q_1, .null, .null])), (q_1, .inl (cy 0, 6, .inl (fun _ => 0)))] := hD
  refine lv_aload_n hx hb dX1_init_12 rfl (lv_at hl 0 rfl) ?_
  refine lv_bipush (v := 6) hx hb dX1_init_13 (by decide) ?_
  refine gz_newa (atype := .int) (t0 := 0) (a0 := (6, .inl (fun _ => 0))) hx hb rfl (fun _ _ h9 => h9) (hts _ gm_98) rfl hK hP hD hS hA (fun _ => rfl) (by decide) (by decide) (Nat.le_of_ble_eq_true rfl) (Nat.le_of_ble_eq_true rfl) (Nat.le_of_ble_eq_true rfl) dX1_init_15 (fun q_2 H hP hD hS => ?_)
  have hP : va_P G vwCl [(h0, .inr (1, [.ref q_1, .null, .null])), (q_1, .inl (cy 0, 6, .inl (fun _ => 0))), (q_2, .inl (cy 0, 6, .inl (fun _ => 0)))] H := hP
  have hD : va_D A [(h0, .inr (1, [.ref q_1, .null, .null])), (q_1, .inl (cy 0, 6, .inl (fun _ => 0))), (q_2, .inl (cy 0, 6, .inl (fun _ => 0)))] := hD
  refine W.widen (k := 2) (n := 12) (Nat.le_of_ble_eq_true rfl) (Nat.le_of_ble_eq_true rfl) ?_
  refine va_putF (ci := 1) (v := .ref q_2) (ty := .array .int) (C := RX1) (T := TX1) (N := 3) hx hb hts inX1 tyX1 tyX1_ok nmX1 hown hK hP hD hS 0 rfl rfl 1 (by decide) (hts _ gm_123) (fun _ h9 => h9) rfl hin rfl (by decide +kernel) rfl rfl (Nat.le_of_ble_eq_true rfl) dX1_init_17 (fun H locs hP hD hS => ?_)
  have hP : va_P G vwCl [(h0, .inr (1, [.ref q_1, .ref q_2, .null])), (q_1, .inl (cy 0, 6, .inl (fun _ => 0))), (q_2, .inl (cy 0, 6, .inl (fun _ => 0)))] H := hP
  have hD : va_D A [(h0, .inr (1, [.ref q_1, .ref q_2, .null])), (q_1, .inl (cy 0, 6, .inl (fun _ => 0))), (q_2, .inl (cy 0, 6, .inl (fun _ => 0)))] := hD
  refine lv_aload_n hx hb dX1_init_20 rfl (lv_at hl 0 rfl) ?_
  refine lv_bipush (v := 6) hx hb dX1_init_21 (by decide) ?_
  refine gz_newa (atype := .int) (t0 := 0) (a0 := (6, .inl (fun _ => 0))) hx hb rfl (fun _ _ h9 => h9) (hts _ gm_98) rfl hK hP hD hS hA (fun _ => rfl) (by decide) (by decide) (Nat.le_of_ble_eq_true rfl) (Nat.le_of_ble_eq_true rfl) (Nat.le_of_ble_eq_true rfl) dX1_init_23 (fun q_3 H hP hD hS => ?_)
  have hP : va_P G vwCl [(h0, .inr (1, [.ref q_1, .ref q_2, .null])), (q_1, .inl (cy 0, 6, .inl (fun _ => 0))), (q_2, .inl (cy 0, 6, .inl (fun _ => 0))), (q_3, .inl (cy 0, 6, .inl (fun _ => 0)))] H := hP
  have hD : va_D A [(h0, .inr (1, [.ref q_1, .ref q_2, .null])), (q_1, .inl (cy 0, 6, .inl (fun _ => 0))), (q_2, .inl (cy 0, 6, .inl (fun _ => 0))), (q_3, .inl (cy 0, 6, .inl (fun _ => 0)))] := hD
  refine W.widen (k := 3) (n := 18) (Nat.le_of_ble_eq_true rfl) (Nat.le_of_ble_eq_true rfl) ?_
  refine va_putF (ci := 1) (v := .ref q_3) (ty := .array .int) (C := RX1) (T := TX1) (N := 3) hx hb hts inX1 tyX1 tyX1_ok nmX1 hown hK hP hD hS 0 rfl rfl 2 (by decide) (hts _ gm_125) (fun _ h9 => h9) rfl hin rfl (by decide +kernel) rfl rfl (Nat.le_of_ble_eq_true rfl) dX1_init_25 (fun H locs hP hD hS => ?_)
  have hP : va_P G vwCl [(h0, .inr (1, [.ref q_1, .ref q_2, .ref q_3])), (q_1, .inl (cy 0, 6, .inl (fun _ => 0))), (q_2, .inl (cy 0, 6, .inl (fun _ => 0))), (q_3, .inl (cy 0, 6, .inl (fun _ => 0)))] H := hP
  have hD : va_D A [(h0, .inr (1, [.ref q_1, .ref q_2, .ref q_3])), (q_1, .inl (cy 0, 6, .inl (fun _ => 0))), (q_2, .inl (cy 0, 6, .inl (fun _ => 0))), (q_3, .inl (cy 0, 6, .inl (fun _ => 0)))] := hD
  refine lv_aload_n hx hb dX1_init_28 rfl (lv_at hl 0 rfl) ?_
  refine va_get (ci := 1) (v := .ref q_2) (C := RX1) (T := TX1) (N := 3) hx hb hts inX1 hown hK hP 0 rfl rfl 1 (by decide) (hts _ gm_123) (fun _ h9 => h9) rfl dX1_init_29 ?_
  refine lv_iconst (v := (-1)) hx hb dX1_init_32 (by decide) ?_
  refine gz_aftv (va_runS (As := [.ref q_2, .int (-1)]) (rest := []) ⟨hx, hb, hml, hown, hts⟩ (c_fill l G cy H.size q_2 6 (fun _ => 0) (-1) (by decide)) ⟨(gz_cb (n := 2) hts gm_119 gm_6 gm_108 ⟨by decide +kernel, by decide +kernel, by decide +kernel⟩ ⟨Nat.le_of_ble_eq_true rfl, Nat.le_of_ble_eq_true rfl⟩), hts _ gm_107⟩ (gz_preS hK hov hP hD [2] (by decide) rfl) rfl rfl hl.1 rfl (lv_room (Nat.le_of_ble_eq_true rfl)) dX1_init_33 ⟨Nat.le_of_ble_eq_true rfl, Nat.le_of_ble_eq_true rfl⟩) hP hD hS hA [2] [0, 1, 3] rfl rfl (by decide) (by decide) (fun u_4 H locs hw_4 hP hD hS => ?_)
  have hP : va_P G vwCl [(h0, .inr (1, [.ref q_1, .ref q_2, .ref q_3])), (q_1, .inl (cy 0, 6, .inl (fun _ => 0))), (q_3, .inl (cy 0, 6, .inl (fun _ => 0))), (q_2, .inl (cy 0, 6, .inl (fun _ => (-1))))] H := hP
  have hD : va_D A [(h0, .inr (1, [.ref q_1, .ref q_2, .ref q_3])), (q_1, .inl (cy 0, 6, .inl (fun _ => 0))), (q_3, .inl (cy 0, 6, .inl (fun _ => 0))), (q_2, .inl (cy 0, 6, .inl (fun _ => (-1))))] := hD
  refine lv_aload_n hx hb dX1_init_36 rfl (lv_at hl 0 rfl) ?_
  refine va_get (ci := 1) (v := .ref q_3) (C := RX1) (T := TX1) (N := 3) hx hb hts inX1 hown hK hP 0 rfl rfl 2 (by decide) (hts _ gm_125) (fun _ h9 => h9) rfl dX1_init_37 ?_
  refine lv_iconst (v := (-1)) hx hb dX1_init_40 (by decide) ?_
  refine gz_aftv (va_runS (As := [.ref q_3, .int (-1)]) (rest := []) ⟨hx, hb, hml, hown, hts⟩ (c_fill l G cy H.size q_3 6 (fun _ => 0) (-1) (by decide)) ⟨(gz_cb (n := 2) hts gm_119 gm_6 gm_108 ⟨by decide +kernel, by decide +kernel, by decide +kernel⟩ ⟨Nat.le_of_ble_eq_true rfl, Nat.le_of_ble_eq_true rfl⟩), hts _ gm_107⟩ (gz_preS hK hov hP hD [2] (by decide) rfl) rfl rfl hl.1 rfl (lv_room (Nat.le_of_ble_eq_true rfl)) dX1_init_41 ⟨Nat.le_of_ble_eq_true rfl, Nat.le_of_ble_eq_true rfl⟩) hP hD hS hA [2] [0, 1, 3] rfl rfl (by decide) (by decide) (fun u_5 H locs hw_5 hP hD hS => ?_)
  have hP : va_P G vwCl [(h0, .inr (1, [.ref q_1, .ref q_2, .ref q_3])), (q_1, .inl (cy 0, 6, .inl (fun _ => 0))), (q_2, .inl (cy 0, 6, .inl (fun _ => (-1)))), (q_3, .inl (cy 0, 6, .inl (fun _ => (-1))))] H := hP
  have hD : va_D A [(h0, .inr (1, [.ref q_1, .ref q_2, .ref q_3])), (q_1, .inl (cy 0, 6, .inl (fun _ => 0))), (q_2, .inl (cy 0, 6, .inl (fun _ => (-1)))), (q_3, .inl (cy 0, 6, .inl (fun _ => (-1))))] := hD
  exact gz_vret (cf := (fun (u : (Nat → Nat)) => [(h0, .inr (1, [.ref (u 0), .ref (u 1), .ref (u 2)])), ((u 0), .inl (cy 0, 6, .inl (fun _ => 0))), ((u 1), .inl (cy 0, 6, .inl (fun _ => (-1)))), ((u 2), .inl (cy 0, 6, .inl (fun _ => (-1))))])) (post := (fun (u : (Nat → Nat)) => True)) hx hb hr hlocks hK hP hD hS (fun k => match k with | 0 => q_1 | 1 => q_2 | 2 => q_3 | _ => 0) [0, 1, 2, 3] trivial (by decide) rfl (Nat.le_of_ble_eq_true rfl) (Nat.le_of_ble_eq_true rfl) dX1_init_44

set_option maxHeartbeats 4000000 in
set_option maxRecDepth 100000 in
/-- WellCourt$Ledger.<init> -/
theorem c_X5_init (l : Launch) (G : va_G) (cy : Nat → ClassId) (sz : Nat) (h0 : Nat)  : gMv l yX5_init cX5_init 1 ({ frames := 1, cells := 7, slots := 1806, locals := 20 }) G cy sz [.ref h0] [(h0, .inr (5, [.null, .int 0]))] (fun (u : (Nat → Nat)) => True) (fun (u : (Nat → Nat)) => [(h0, .inr (5, [.ref (u 0), .int 0]))]) := by
  refine gz_start (fun A => gQv G cy _ _ A) (by decide) (Nat.le_of_ble_eq_true rfl) ?_
  intro p e s m below meth c A ls H hx hb hr hml hlocks hin hown hts hK hov hsz hP hD hS hA hl
  have hl : lv_has ls 1 [(0, .ref h0)] := hl
  refine lv_aload_n hx hb dX5_init_0 rfl (lv_at hl 0 rfl) ?_
  refine W.objInit hx hb hown (hts _ gm_139) (hts _ gm_30) (hts _ gm_31) rfl (by rw [hml]; exact hl.1) rfl dX5_init_1 (Nat.le_of_ble_eq_true rfl) (Nat.le_of_ble_eq_true rfl) ?_
  refine W.eq (g2 := F0 m 4 ls []) rfl ?_
  refine lv_aload_n hx hb dX5_init_4 rfl (lv_at hl 0 rfl) ?_
  refine lv_bipush (v := 6) hx hb dX5_init_5 (by decide) ?_
  refine lv_sipush (v := 300) hx hb dX5_init_7 (by decide) ?_
  refine gz_mna (N' := 6) (K' := 300) hx hb hown (hts _ gm_140) hov.1 (hts _ gm_98) hK hP hD hS hA (by decide) (by decide) (by decide) (by decide) (Nat.le_of_ble_eq_true rfl) (Nat.le_of_ble_eq_true rfl) (Nat.le_of_ble_eq_true rfl) (Nat.le_of_ble_eq_true rfl) (Nat.le_of_ble_eq_true rfl) dX5_init_10 (fun q_1 r_2 H hP hD hS => ?_)
  have hP : va_P G vwCl [(h0, .inr (5, [.null, .int 0]))] H := va_P.sub hP [0] rfl
  have hD : va_D A [(h0, .inr (5, [.null, .int 0]))] := va_D.sub hD [0] (by decide) rfl
  refine W.widen (k := 7) (n := 1806) (Nat.le_of_ble_eq_true rfl) (Nat.le_of_ble_eq_true rfl) ?_
  refine va_putF (ci := 5) (v := .ref q_1) (ty := .array (.array .int)) (C := RX5) (T := TX5) (N := 2) hx hb hts inX5 tyX5 tyX5_ok nmX5 hown hK hP hD hS 0 rfl rfl 0 (by decide) (hts _ gm_141) (fun _ h9 => h9) rfl hin rfl (by decide +kernel) rfl rfl (Nat.le_of_ble_eq_true rfl) dX5_init_14 (fun H locs hP hD hS => ?_)
  have hP : va_P G vwCl [(h0, .inr (5, [.ref q_1, .int 0]))] H := hP
  have hD : va_D A [(h0, .inr (5, [.ref q_1, .int 0]))] := hD
  refine lv_aload_n hx hb dX5_init_17 rfl (lv_at hl 0 rfl) ?_
  refine lv_iconst (v := 0) hx hb dX5_init_18 (by decide) ?_
  refine va_put (ci := 5) (v := .int 0) (ty := .int) (C := RX5) (T := TX5) (N := 2) hx hb hts inX5 tyX5 tyX5_ok nmX5 hown hK hP hD hS 0 rfl rfl 1 (by decide) (hts _ gm_143) (fun _ h9 => h9) rfl (by decide +kernel) rfl rfl (Nat.le_of_ble_eq_true rfl) dX5_init_19 (fun H locs hP hD hS => ?_)
  have hP : va_P G vwCl [(h0, .inr (5, [.ref q_1, .int 0]))] H := hP
  have hD : va_D A [(h0, .inr (5, [.ref q_1, .int 0]))] := hD
  exact gz_vret (cf := (fun (u : (Nat → Nat)) => [(h0, .inr (5, [.ref (u 0), .int 0]))])) (post := (fun (u : (Nat → Nat)) => True)) hx hb hr hlocks hK hP hD hS (fun k => match k with | 0 => q_1 | _ => 0) [0] trivial (by decide) rfl (Nat.le_of_ble_eq_true rfl) (Nat.le_of_ble_eq_true rfl) dX5_init_22

set_option maxHeartbeats 4000000 in
set_option maxRecDepth 100000 in
/-- WellCourt$Flock.<init> -/
theorem c_X2_init (l : Launch) (G : va_G) (cy : Nat → ClassId) (sz : Nat) (h0 : Nat)  : gMv l yX2_init cX2_init 1 ({ frames := 1, cells := 5, slots := 20, locals := 23 }) G cy sz [.ref h0] [(h0, .inr (2, [.null, .null, .null, .null, .null]))] (fun (u : (Nat → Nat)) => True) (fun (u : (Nat → Nat)) => [(h0, .inr (2, [.ref (u 0), .ref (u 1), .ref (u 2), .ref (u 3), .ref (u 4)])), ((u 0), .inl (cy 0, 4, .inl (fun _ => (-1))))]) := by
  refine gz_start (fun A => gQv G cy _ _ A) (by decide) (Nat.le_of_ble_eq_true rfl) ?_
  intro p e s m below meth c A ls H hx hb hr hml hlocks hin hown hts hK hov hsz hP hD hS hA hl
  have hl : lv_has ls 1 [(0, .ref h0)] := hl
  refine lv_aload_n hx hb dX2_init_0 rfl (lv_at hl 0 rfl) ?_
  refine W.objInit hx hb hown (hts _ gm_155) (hts _ gm_30) (hts _ gm_31) rfl (by rw [hml]; exact hl.1) rfl dX2_init_1 (Nat.le_of_ble_eq_true rfl) (Nat.le_of_ble_eq_true rfl) ?_
  refine W.eq (g2 := F0 m 4 ls []) rfl ?_
  refine lv_aload_n hx hb dX2_init_4 rfl (lv_at hl 0 rfl) ?_
  refine lv_iconst (v := 4) hx hb dX2_init_5 (by decide) ?_
  refine gz_newa (atype := .int) (t0 := 0) (a0 := (4, .inl (fun _ => 0))) hx hb rfl (fun _ _ h9 => h9) (hts _ gm_98) rfl hK hP hD hS hA (fun _ => rfl) (by decide) (by decide) (Nat.le_of_ble_eq_true rfl) (Nat.le_of_ble_eq_true rfl) (Nat.le_of_ble_eq_true rfl) dX2_init_6 (fun q_1 H hP hD hS => ?_)
  have hP : va_P G vwCl [(h0, .inr (2, [.null, .null, .null, .null, .null])), (q_1, .inl (cy 0, 4, .inl (fun _ => 0)))] H := hP
  have hD : va_D A [(h0, .inr (2, [.null, .null, .null, .null, .null])), (q_1, .inl (cy 0, 4, .inl (fun _ => 0)))] := hD
  refine W.widen (k := 1) (n := 4) (Nat.le_of_ble_eq_true rfl) (Nat.le_of_ble_eq_true rfl) ?_
  refine va_putF (ci := 2) (v := .ref q_1) (ty := .array .int) (C := RX2) (T := TX2) (N := 5) hx hb hts inX2 tyX2 tyX2_ok nmX2 hown hK hP hD hS 0 rfl rfl 0 (by decide) (hts _ gm_157) (fun _ h9 => h9) rfl hin rfl (by decide +kernel) rfl rfl (Nat.le_of_ble_eq_true rfl) dX2_init_8 (fun H locs hP hD hS => ?_)
  have hP : va_P G vwCl [(h0, .inr (2, [.ref q_1, .null, .null, .null, .null])), (q_1, .inl (cy 0, 4, .inl (fun _ => 0)))] H := hP
  have hD : va_D A [(h0, .inr (2, [.ref q_1, .null, .null, .null, .null])), (q_1, .inl (cy 0, 4, .inl (fun _ => 0)))] := hD
  refine lv_aload_n hx hb dX2_init_11 rfl (lv_at hl 0 rfl) ?_
  refine lv_iconst (v := 4) hx hb dX2_init_12 (by decide) ?_
  refine gz_newa (atype := .int) (t0 := 0) (a0 := (4, .inl (fun _ => 0))) hx hb rfl (fun _ _ h9 => h9) (hts _ gm_98) rfl hK hP hD hS hA (fun _ => rfl) (by decide) (by decide) (Nat.le_of_ble_eq_true rfl) (Nat.le_of_ble_eq_true rfl) (Nat.le_of_ble_eq_true rfl) dX2_init_13 (fun q_2 H hP hD hS => ?_)
  have hP : va_P G vwCl [(h0, .inr (2, [.ref q_1, .null, .null, .null, .null])), (q_1, .inl (cy 0, 4, .inl (fun _ => 0))), (q_2, .inl (cy 0, 4, .inl (fun _ => 0)))] H := hP
  have hD : va_D A [(h0, .inr (2, [.ref q_1, .null, .null, .null, .null])), (q_1, .inl (cy 0, 4, .inl (fun _ => 0))), (q_2, .inl (cy 0, 4, .inl (fun _ => 0)))] := hD
  refine W.widen (k := 2) (n := 8) (Nat.le_of_ble_eq_true rfl) (Nat.le_of_ble_eq_true rfl) ?_
  refine va_putF (ci := 2) (v := .ref q_2) (ty := .array .int) (C := RX2) (T := TX2) (N := 5) hx hb hts inX2 tyX2 tyX2_ok nmX2 hown hK hP hD hS 0 rfl rfl 1 (by decide) (hts _ gm_160) (fun _ h9 => h9) rfl hin rfl (by decide +kernel) rfl rfl (Nat.le_of_ble_eq_true rfl) dX2_init_15 (fun H locs hP hD hS => ?_)
  have hP : va_P G vwCl [(h0, .inr (2, [.ref q_1, .ref q_2, .null, .null, .null])), (q_1, .inl (cy 0, 4, .inl (fun _ => 0)))] H := va_P.sub hP [0, 1] rfl
  have hD : va_D A [(h0, .inr (2, [.ref q_1, .ref q_2, .null, .null, .null])), (q_1, .inl (cy 0, 4, .inl (fun _ => 0)))] := va_D.sub hD [0, 1] (by decide) rfl
  refine lv_aload_n hx hb dX2_init_18 rfl (lv_at hl 0 rfl) ?_
  refine lv_iconst (v := 4) hx hb dX2_init_19 (by decide) ?_
  refine gz_newa (atype := .int) (t0 := 0) (a0 := (4, .inl (fun _ => 0))) hx hb rfl (fun _ _ h9 => h9) (hts _ gm_98) rfl hK hP hD hS hA (fun _ => rfl) (by decide) (by decide) (Nat.le_of_ble_eq_true rfl) (Nat.le_of_ble_eq_true rfl) (Nat.le_of_ble_eq_true rfl) dX2_init_20 (fun q_3 H hP hD hS => ?_)
  have hP : va_P G vwCl [(h0, .inr (2, [.ref q_1, .ref q_2, .null, .null, .null])), (q_1, .inl (cy 0, 4, .inl (fun _ => 0))), (q_3, .inl (cy 0, 4, .inl (fun _ => 0)))] H := hP
  have hD : va_D A [(h0, .inr (2, [.ref q_1, .ref q_2, .null, .null, .null])), (q_1, .inl (cy 0, 4, .inl (fun _ => 0))), (q_3, .inl (cy 0, 4, .inl (fun _ => 0)))] := hD
  refine W.widen (k := 3) (n := 12) (Nat.le_of_ble_eq_true rfl) (Nat.le_of_ble_eq_true rfl) ?_
  refine va_putF (ci := 2) (v := .ref q_3) (ty := .array .int) (C := RX2) (T := TX2) (N := 5) hx hb hts inX2 tyX2 tyX2_ok nmX2 hown hK hP hD hS 0 rfl rfl 2 (by decide) (hts _ gm_162) (fun _ h9 => h9) rfl hin rfl (by decide +kernel) rfl rfl (Nat.le_of_ble_eq_true rfl) dX2_init_22 (fun H locs hP hD hS => ?_)
  have hP : va_P G vwCl [(h0, .inr (2, [.ref q_1, .ref q_2, .ref q_3, .null, .null])), (q_1, .inl (cy 0, 4, .inl (fun _ => 0)))] H := va_P.sub hP [0, 1] rfl
  have hD : va_D A [(h0, .inr (2, [.ref q_1, .ref q_2, .ref q_3, .null, .null])), (q_1, .inl (cy 0, 4, .inl (fun _ => 0)))] := va_D.sub hD [0, 1] (by decide) rfl
  refine lv_aload_n hx hb dX2_init_25 rfl (lv_at hl 0 rfl) ?_
  refine lv_iconst (v := 4) hx hb dX2_init_26 (by decide) ?_
  refine gz_newa (atype := .int) (t0 := 0) (a0 := (4, .inl (fun _ => 0))) hx hb rfl (fun _ _ h9 => h9) (hts _ gm_98) rfl hK hP hD hS hA (fun _ => rfl) (by decide) (by decide) (Nat.le_of_ble_eq_true rfl) (Nat.le_of_ble_eq_true rfl) (Nat.le_of_ble_eq_true rfl) dX2_init_27 (fun q_4 H hP hD hS => ?_)
  have hP : va_P G vwCl [(h0, .inr (2, [.ref q_1, .ref q_2, .ref q_3, .null, .null])), (q_1, .inl (cy 0, 4, .inl (fun _ => 0))), (q_4, .inl (cy 0, 4, .inl (fun _ => 0)))] H := hP
  have hD : va_D A [(h0, .inr (2, [.ref q_1, .ref q_2, .ref q_3, .null, .null])), (q_1, .inl (cy 0, 4, .inl (fun _ => 0))), (q_4, .inl (cy 0, 4, .inl (fun _ => 0)))] := hD
  refine W.widen (k := 4) (n := 16) (Nat.le_of_ble_eq_true rfl) (Nat.le_of_ble_eq_true rfl) ?_
  refine va_putF (ci := 2) (v := .ref q_4) (ty := .array .int) (C := RX2) (T := TX2) (N := 5) hx hb hts inX2 tyX2 tyX2_ok nmX2 hown hK hP hD hS 0 rfl rfl 3 (by decide) (hts _ gm_164) (fun _ h9 => h9) rfl hin rfl (by decide +kernel) rfl rfl (Nat.le_of_ble_eq_true rfl) dX2_init_29 (fun H locs hP hD hS => ?_)
  have hP : va_P G vwCl [(h0, .inr (2, [.ref q_1, .ref q_2, .ref q_3, .ref q_4, .null])), (q_1, .inl (cy 0, 4, .inl (fun _ => 0)))] H := va_P.sub hP [0, 1] rfl
  have hD : va_D A [(h0, .inr (2, [.ref q_1, .ref q_2, .ref q_3, .ref q_4, .null])), (q_1, .inl (cy 0, 4, .inl (fun _ => 0)))] := va_D.sub hD [0, 1] (by decide) rfl
  refine lv_aload_n hx hb dX2_init_32 rfl (lv_at hl 0 rfl) ?_
  refine lv_iconst (v := 4) hx hb dX2_init_33 (by decide) ?_
  refine gz_newa (atype := .int) (t0 := 0) (a0 := (4, .inl (fun _ => 0))) hx hb rfl (fun _ _ h9 => h9) (hts _ gm_98) rfl hK hP hD hS hA (fun _ => rfl) (by decide) (by decide) (Nat.le_of_ble_eq_true rfl) (Nat.le_of_ble_eq_true rfl) (Nat.le_of_ble_eq_true rfl) dX2_init_34 (fun q_5 H hP hD hS => ?_)
  have hP : va_P G vwCl [(h0, .inr (2, [.ref q_1, .ref q_2, .ref q_3, .ref q_4, .null])), (q_1, .inl (cy 0, 4, .inl (fun _ => 0))), (q_5, .inl (cy 0, 4, .inl (fun _ => 0)))] H := hP
  have hD : va_D A [(h0, .inr (2, [.ref q_1, .ref q_2, .ref q_3, .ref q_4, .null])), (q_1, .inl (cy 0, 4, .inl (fun _ => 0))), (q_5, .inl (cy 0, 4, .inl (fun _ => 0)))] := hD
  refine W.widen (k := 5) (n := 20) (Nat.le_of_ble_eq_true rfl) (Nat.le_of_ble_eq_true rfl) ?_
  refine va_putF (ci := 2) (v := .ref q_5) (ty := .array .int) (C := RX2) (T := TX2) (N := 5) hx hb hts inX2 tyX2 tyX2_ok nmX2 hown hK hP hD hS 0 rfl rfl 4 (by decide) (hts _ gm_167) (fun _ h9 => h9) rfl hin rfl (by decide +kernel) rfl rfl (Nat.le_of_ble_eq_true rfl) dX2_init_36 (fun H locs hP hD hS => ?_)
  have hP : va_P G vwCl [(h0, .inr (2, [.ref q_1, .ref q_2, .ref q_3, .ref q_4, .ref q_5])), (q_1, .inl (cy 0, 4, .inl (fun _ => 0)))] H := va_P.sub hP [0, 1] rfl
  have hD : va_D A [(h0, .inr (2, [.ref q_1, .ref q_2, .ref q_3, .ref q_4, .ref q_5])), (q_1, .inl (cy 0, 4, .inl (fun _ => 0)))] := va_D.sub hD [0, 1] (by decide) rfl
  refine lv_aload_n hx hb dX2_init_39 rfl (lv_at hl 0 rfl) ?_
  refine va_get (ci := 2) (v := .ref q_1) (C := RX2) (T := TX2) (N := 5) hx hb hts inX2 hown hK hP 0 rfl rfl 0 (by decide) (hts _ gm_157) (fun _ h9 => h9) rfl dX2_init_40 ?_
  refine lv_iconst (v := (-1)) hx hb dX2_init_43 (by decide) ?_
  refine gz_aftv (va_runS (As := [.ref q_1, .int (-1)]) (rest := []) ⟨hx, hb, hml, hown, hts⟩ (c_fill l G cy H.size q_1 4 (fun _ => 0) (-1) (by decide)) ⟨(gz_cb (n := 2) hts gm_156 gm_6 gm_108 ⟨by decide +kernel, by decide +kernel, by decide +kernel⟩ ⟨Nat.le_of_ble_eq_true rfl, Nat.le_of_ble_eq_true rfl⟩), hts _ gm_107⟩ (gz_preS hK hov hP hD [1] (by decide) rfl) rfl rfl hl.1 rfl (lv_room (Nat.le_of_ble_eq_true rfl)) dX2_init_44 ⟨Nat.le_of_ble_eq_true rfl, Nat.le_of_ble_eq_true rfl⟩) hP hD hS hA [1] [0] rfl rfl (by decide) (by decide) (fun u_6 H locs hw_6 hP hD hS => ?_)
  have hP : va_P G vwCl [(h0, .inr (2, [.ref q_1, .ref q_2, .ref q_3, .ref q_4, .ref q_5])), (q_1, .inl (cy 0, 4, .inl (fun _ => (-1))))] H := hP
  have hD : va_D A [(h0, .inr (2, [.ref q_1, .ref q_2, .ref q_3, .ref q_4, .ref q_5])), (q_1, .inl (cy 0, 4, .inl (fun _ => (-1))))] := hD
  exact gz_vret (cf := (fun (u : (Nat → Nat)) => [(h0, .inr (2, [.ref (u 0), .ref (u 1), .ref (u 2), .ref (u 3), .ref (u 4)])), ((u 0), .inl (cy 0, 4, .inl (fun _ => (-1))))])) (post := (fun (u : (Nat → Nat)) => True)) hx hb hr hlocks hK hP hD hS (fun k => match k with | 0 => q_1 | 1 => q_2 | 2 => q_3 | 3 => q_4 | 4 => q_5 | _ => 0) [0, 1] trivial (by decide) rfl (Nat.le_of_ble_eq_true rfl) (Nat.le_of_ble_eq_true rfl) dX2_init_47

set_option maxHeartbeats 4000000 in
set_option maxRecDepth 100000 in
/-- WellCourt$Law.<init> -/
theorem c_X4_init (l : Launch) (G : va_G) (cy : Nat → ClassId) (sz : Nat) (h0 : Nat)  : gMv l yX4_init cX4_init 1 ({ frames := 1, cells := 17, slots := 596, locals := 20 }) G cy sz [.ref h0] [(h0, .inr (4, [.int 0, .null, .null, .null, .null, .int 0, .null, .null, .null, .int 0, .null, .null, .null, .null]))] (fun (u : (Nat → Nat)) => True) (fun (u : (Nat → Nat)) => [(h0, .inr (4, [.int 0, .ref (u 0), .ref (u 1), .ref (u 2), .ref (u 3), .int 0, .ref (u 4), .ref (u 5), .ref (u 6), .int 0, .ref (u 7), .ref (u 8), .ref (u 9), .ref (u 10)])), ((u 1), .inl (cy 0, 6, .inl (fun _ => 0))), ((u 2), .inl (cy 0, 6, .inl (fun _ => 0))), ((u 3), .inl (cy 0, 6, .inl (fun _ => 0)))]) := by
  refine gz_start (fun A => gQv G cy _ _ A) (by decide) (Nat.le_of_ble_eq_true rfl) ?_
  intro p e s m below meth c A ls H hx hb hr hml hlocks hin hown hts hK hov hsz hP hD hS hA hl
  have hl : lv_has ls 1 [(0, .ref h0)] := hl
  refine lv_aload_n hx hb dX4_init_0 rfl (lv_at hl 0 rfl) ?_
  refine W.objInit hx hb hown (hts _ gm_186) (hts _ gm_30) (hts _ gm_31) rfl (by rw [hml]; exact hl.1) rfl dX4_init_1 (Nat.le_of_ble_eq_true rfl) (Nat.le_of_ble_eq_true rfl) ?_
  refine W.eq (g2 := F0 m 4 ls []) rfl ?_
  refine lv_aload_n hx hb dX4_init_4 rfl (lv_at hl 0 rfl) ?_
  refine lv_iconst (v := 0) hx hb dX4_init_5 (by decide) ?_
  refine va_put (ci := 4) (v := .int 0) (ty := .int) (C := RX4) (T := TX4) (N := 14) hx hb hts inX4 tyX4 tyX4_ok nmX4 hown hK hP hD hS 0 rfl rfl 0 (by decide) (hts _ gm_188) (fun _ h9 => h9) rfl (by decide +kernel) rfl rfl (Nat.le_of_ble_eq_true rfl) dX4_init_6 (fun H locs hP hD hS => ?_)
  have hP : va_P G vwCl [(h0, .inr (4, [.int 0, .null, .null, .null, .null, .int 0, .null, .null, .null, .int 0, .null, .null, .null, .null]))] H := hP
  have hD : va_D A [(h0, .inr (4, [.int 0, .null, .null, .null, .null, .int 0, .null, .null, .null, .int 0, .null, .null, .null, .null]))] := hD
  refine lv_aload_n hx hb dX4_init_9 rfl (lv_at hl 0 rfl) ?_
  refine lv_bipush (v := 6) hx hb dX4_init_10 (by decide) ?_
  refine lv_bipush (v := 72) hx hb dX4_init_12 (by decide) ?_
  refine gz_mna (N' := 6) (K' := 72) hx hb hown (hts _ gm_187) hov.1 (hts _ gm_98) hK hP hD hS hA (by decide) (by decide) (by decide) (by decide) (Nat.le_of_ble_eq_true rfl) (Nat.le_of_ble_eq_true rfl) (Nat.le_of_ble_eq_true rfl) (Nat.le_of_ble_eq_true rfl) (Nat.le_of_ble_eq_true rfl) dX4_init_14 (fun q_1 r_2 H hP hD hS => ?_)
  have hP : va_P G vwCl [(h0, .inr (4, [.int 0, .null, .null, .null, .null, .int 0, .null, .null, .null, .int 0, .null, .null, .null, .null]))] H := va_P.sub hP [0] rfl
  have hD : va_D A [(h0, .inr (4, [.int 0, .null, .null, .null, .null, .int 0, .null, .null, .null, .int 0, .null, .null, .null, .null]))] := va_D.sub hD [0] (by decide) rfl
  refine W.widen (k := 7) (n := 438) (Nat.le_of_ble_eq_true rfl) (Nat.le_of_ble_eq_true rfl) ?_
  refine va_putF (ci := 4) (v := .ref q_1) (ty := .array (.array .int)) (C := RX4) (T := TX4) (N := 14) hx hb hts inX4 tyX4 tyX4_ok nmX4 hown hK hP hD hS 0 rfl rfl 1 (by decide) (hts _ gm_191) (fun _ h9 => h9) rfl hin rfl (by decide +kernel) rfl rfl (Nat.le_of_ble_eq_true rfl) dX4_init_18 (fun H locs hP hD hS => ?_)
  have hP : va_P G vwCl [(h0, .inr (4, [.int 0, .ref q_1, .null, .null, .null, .int 0, .null, .null, .null, .int 0, .null, .null, .null, .null]))] H := hP
  have hD : va_D A [(h0, .inr (4, [.int 0, .ref q_1, .null, .null, .null, .int 0, .null, .null, .null, .int 0, .null, .null, .null, .null]))] := hD
  refine lv_aload_n hx hb dX4_init_21 rfl (lv_at hl 0 rfl) ?_
  refine lv_bipush (v := 6) hx hb dX4_init_22 (by decide) ?_
  refine gz_newa (atype := .int) (t0 := 0) (a0 := (6, .inl (fun _ => 0))) hx hb rfl (fun _ _ h9 => h9) (hts _ gm_98) rfl hK hP hD hS hA (fun _ => rfl) (by decide) (by decide) (Nat.le_of_ble_eq_true rfl) (Nat.le_of_ble_eq_true rfl) (Nat.le_of_ble_eq_true rfl) dX4_init_24 (fun q_3 H hP hD hS => ?_)
  have hP : va_P G vwCl [(h0, .inr (4, [.int 0, .ref q_1, .null, .null, .null, .int 0, .null, .null, .null, .int 0, .null, .null, .null, .null])), (q_3, .inl (cy 0, 6, .inl (fun _ => 0)))] H := hP
  have hD : va_D A [(h0, .inr (4, [.int 0, .ref q_1, .null, .null, .null, .int 0, .null, .null, .null, .int 0, .null, .null, .null, .null])), (q_3, .inl (cy 0, 6, .inl (fun _ => 0)))] := hD
  refine W.widen (k := 8) (n := 444) (Nat.le_of_ble_eq_true rfl) (Nat.le_of_ble_eq_true rfl) ?_
  refine va_putF (ci := 4) (v := .ref q_3) (ty := .array .int) (C := RX4) (T := TX4) (N := 14) hx hb hts inX4 tyX4 tyX4_ok nmX4 hown hK hP hD hS 0 rfl rfl 2 (by decide) (hts _ gm_192) (fun _ h9 => h9) rfl hin rfl (by decide +kernel) rfl rfl (Nat.le_of_ble_eq_true rfl) dX4_init_26 (fun H locs hP hD hS => ?_)
  have hP : va_P G vwCl [(h0, .inr (4, [.int 0, .ref q_1, .ref q_3, .null, .null, .int 0, .null, .null, .null, .int 0, .null, .null, .null, .null])), (q_3, .inl (cy 0, 6, .inl (fun _ => 0)))] H := hP
  have hD : va_D A [(h0, .inr (4, [.int 0, .ref q_1, .ref q_3, .null, .null, .int 0, .null, .null, .null, .int 0, .null, .null, .null, .null])), (q_3, .inl (cy 0, 6, .inl (fun _ => 0)))] := hD
  refine lv_aload_n hx hb dX4_init_29 rfl (lv_at hl 0 rfl) ?_
  refine lv_bipush (v := 6) hx hb dX4_init_30 (by decide) ?_
  refine gz_newa (atype := .int) (t0 := 0) (a0 := (6, .inl (fun _ => 0))) hx hb rfl (fun _ _ h9 => h9) (hts _ gm_98) rfl hK hP hD hS hA (fun _ => rfl) (by decide) (by decide) (Nat.le_of_ble_eq_true rfl) (Nat.le_of_ble_eq_true rfl) (Nat.le_of_ble_eq_true rfl) dX4_init_32 (fun q_4 H hP hD hS => ?_)
  have hP : va_P G vwCl [(h0, .inr (4, [.int 0, .ref q_1, .ref q_3, .null, .null, .int 0, .null, .null, .null, .int 0, .null, .null, .null, .null])), (q_3, .inl (cy 0, 6, .inl (fun _ => 0))), (q_4, .inl (cy 0, 6, .inl (fun _ => 0)))] H := hP
  have hD : va_D A [(h0, .inr (4, [.int 0, .ref q_1, .ref q_3, .null, .null, .int 0, .null, .null, .null, .int 0, .null, .null, .null, .null])), (q_3, .inl (cy 0, 6, .inl (fun _ => 0))), (q_4, .inl (cy 0, 6, .inl (fun _ => 0)))] := hD
  refine W.widen (k := 9) (n := 450) (Nat.le_of_ble_eq_true rfl) (Nat.le_of_ble_eq_true rfl) ?_
  refine va_putF (ci := 4) (v := .ref q_4) (ty := .array .int) (C := RX4) (T := TX4) (N := 14) hx hb hts inX4 tyX4 tyX4_ok nmX4 hown hK hP hD hS 0 rfl rfl 3 (by decide) (hts _ gm_193) (fun _ h9 => h9) rfl hin rfl (by decide +kernel) rfl rfl (Nat.le_of_ble_eq_true rfl) dX4_init_34 (fun H locs hP hD hS => ?_)
  have hP : va_P G vwCl [(h0, .inr (4, [.int 0, .ref q_1, .ref q_3, .ref q_4, .null, .int 0, .null, .null, .null, .int 0, .null, .null, .null, .null])), (q_3, .inl (cy 0, 6, .inl (fun _ => 0))), (q_4, .inl (cy 0, 6, .inl (fun _ => 0)))] H := hP
  have hD : va_D A [(h0, .inr (4, [.int 0, .ref q_1, .ref q_3, .ref q_4, .null, .int 0, .null, .null, .null, .int 0, .null, .null, .null, .null])), (q_3, .inl (cy 0, 6, .inl (fun _ => 0))), (q_4, .inl (cy 0, 6, .inl (fun _ => 0)))] := hD
  refine lv_aload_n hx hb dX4_init_37 rfl (lv_at hl 0 rfl) ?_
  refine lv_bipush (v := 6) hx hb dX4_init_38 (by decide) ?_
  refine gz_newa (atype := .int) (t0 := 0) (a0 := (6, .inl (fun _ => 0))) hx hb rfl (fun _ _ h9 => h9) (hts _ gm_98) rfl hK hP hD hS hA (fun _ => rfl) (by decide) (by decide) (Nat.le_of_ble_eq_true rfl) (Nat.le_of_ble_eq_true rfl) (Nat.le_of_ble_eq_true rfl) dX4_init_40 (fun q_5 H hP hD hS => ?_)
  have hP : va_P G vwCl [(h0, .inr (4, [.int 0, .ref q_1, .ref q_3, .ref q_4, .null, .int 0, .null, .null, .null, .int 0, .null, .null, .null, .null])), (q_3, .inl (cy 0, 6, .inl (fun _ => 0))), (q_4, .inl (cy 0, 6, .inl (fun _ => 0))), (q_5, .inl (cy 0, 6, .inl (fun _ => 0)))] H := hP
  have hD : va_D A [(h0, .inr (4, [.int 0, .ref q_1, .ref q_3, .ref q_4, .null, .int 0, .null, .null, .null, .int 0, .null, .null, .null, .null])), (q_3, .inl (cy 0, 6, .inl (fun _ => 0))), (q_4, .inl (cy 0, 6, .inl (fun _ => 0))), (q_5, .inl (cy 0, 6, .inl (fun _ => 0)))] := hD
  refine W.widen (k := 10) (n := 456) (Nat.le_of_ble_eq_true rfl) (Nat.le_of_ble_eq_true rfl) ?_
  refine va_putF (ci := 4) (v := .ref q_5) (ty := .array .int) (C := RX4) (T := TX4) (N := 14) hx hb hts inX4 tyX4 tyX4_ok nmX4 hown hK hP hD hS 0 rfl rfl 4 (by decide) (hts _ gm_194) (fun _ h9 => h9) rfl hin rfl (by decide +kernel) rfl rfl (Nat.le_of_ble_eq_true rfl) dX4_init_42 (fun H locs hP hD hS => ?_)
  have hP : va_P G vwCl [(h0, .inr (4, [.int 0, .ref q_1, .ref q_3, .ref q_4, .ref q_5, .int 0, .null, .null, .null, .int 0, .null, .null, .null, .null])), (q_3, .inl (cy 0, 6, .inl (fun _ => 0))), (q_4, .inl (cy 0, 6, .inl (fun _ => 0))), (q_5, .inl (cy 0, 6, .inl (fun _ => 0)))] H := hP
  have hD : va_D A [(h0, .inr (4, [.int 0, .ref q_1, .ref q_3, .ref q_4, .ref q_5, .int 0, .null, .null, .null, .int 0, .null, .null, .null, .null])), (q_3, .inl (cy 0, 6, .inl (fun _ => 0))), (q_4, .inl (cy 0, 6, .inl (fun _ => 0))), (q_5, .inl (cy 0, 6, .inl (fun _ => 0)))] := hD
  refine lv_aload_n hx hb dX4_init_45 rfl (lv_at hl 0 rfl) ?_
  refine lv_iconst (v := 0) hx hb dX4_init_46 (by decide) ?_
  refine va_put (ci := 4) (v := .int 0) (ty := .int) (C := RX4) (T := TX4) (N := 14) hx hb hts inX4 tyX4 tyX4_ok nmX4 hown hK hP hD hS 0 rfl rfl 5 (by decide) (hts _ gm_195) (fun _ h9 => h9) rfl (by decide +kernel) rfl rfl (Nat.le_of_ble_eq_true rfl) dX4_init_47 (fun H locs hP hD hS => ?_)
  have hP : va_P G vwCl [(h0, .inr (4, [.int 0, .ref q_1, .ref q_3, .ref q_4, .ref q_5, .int 0, .null, .null, .null, .int 0, .null, .null, .null, .null])), (q_3, .inl (cy 0, 6, .inl (fun _ => 0))), (q_4, .inl (cy 0, 6, .inl (fun _ => 0))), (q_5, .inl (cy 0, 6, .inl (fun _ => 0)))] H := hP
  have hD : va_D A [(h0, .inr (4, [.int 0, .ref q_1, .ref q_3, .ref q_4, .ref q_5, .int 0, .null, .null, .null, .int 0, .null, .null, .null, .null])), (q_3, .inl (cy 0, 6, .inl (fun _ => 0))), (q_4, .inl (cy 0, 6, .inl (fun _ => 0))), (q_5, .inl (cy 0, 6, .inl (fun _ => 0)))] := hD
  refine lv_aload_n hx hb dX4_init_50 rfl (lv_at hl 0 rfl) ?_
  refine lv_bipush (v := 20) hx hb dX4_init_51 (by decide) ?_
  refine gz_newa (atype := .int) (t0 := 0) (a0 := (20, .inl (fun _ => 0))) hx hb rfl (fun _ _ h9 => h9) (hts _ gm_98) rfl hK hP hD hS hA (fun _ => rfl) (by decide) (by decide) (Nat.le_of_ble_eq_true rfl) (Nat.le_of_ble_eq_true rfl) (Nat.le_of_ble_eq_true rfl) dX4_init_53 (fun q_6 H hP hD hS => ?_)
  have hP : va_P G vwCl [(h0, .inr (4, [.int 0, .ref q_1, .ref q_3, .ref q_4, .ref q_5, .int 0, .null, .null, .null, .int 0, .null, .null, .null, .null])), (q_3, .inl (cy 0, 6, .inl (fun _ => 0))), (q_4, .inl (cy 0, 6, .inl (fun _ => 0))), (q_5, .inl (cy 0, 6, .inl (fun _ => 0))), (q_6, .inl (cy 0, 20, .inl (fun _ => 0)))] H := hP
  have hD : va_D A [(h0, .inr (4, [.int 0, .ref q_1, .ref q_3, .ref q_4, .ref q_5, .int 0, .null, .null, .null, .int 0, .null, .null, .null, .null])), (q_3, .inl (cy 0, 6, .inl (fun _ => 0))), (q_4, .inl (cy 0, 6, .inl (fun _ => 0))), (q_5, .inl (cy 0, 6, .inl (fun _ => 0))), (q_6, .inl (cy 0, 20, .inl (fun _ => 0)))] := hD
  refine W.widen (k := 11) (n := 476) (Nat.le_of_ble_eq_true rfl) (Nat.le_of_ble_eq_true rfl) ?_
  refine va_putF (ci := 4) (v := .ref q_6) (ty := .array .int) (C := RX4) (T := TX4) (N := 14) hx hb hts inX4 tyX4 tyX4_ok nmX4 hown hK hP hD hS 0 rfl rfl 6 (by decide) (hts _ gm_196) (fun _ h9 => h9) rfl hin rfl (by decide +kernel) rfl rfl (Nat.le_of_ble_eq_true rfl) dX4_init_55 (fun H locs hP hD hS => ?_)
  have hP : va_P G vwCl [(h0, .inr (4, [.int 0, .ref q_1, .ref q_3, .ref q_4, .ref q_5, .int 0, .ref q_6, .null, .null, .int 0, .null, .null, .null, .null])), (q_3, .inl (cy 0, 6, .inl (fun _ => 0))), (q_4, .inl (cy 0, 6, .inl (fun _ => 0))), (q_5, .inl (cy 0, 6, .inl (fun _ => 0)))] H := va_P.sub hP [0, 1, 2, 3] rfl
  have hD : va_D A [(h0, .inr (4, [.int 0, .ref q_1, .ref q_3, .ref q_4, .ref q_5, .int 0, .ref q_6, .null, .null, .int 0, .null, .null, .null, .null])), (q_3, .inl (cy 0, 6, .inl (fun _ => 0))), (q_4, .inl (cy 0, 6, .inl (fun _ => 0))), (q_5, .inl (cy 0, 6, .inl (fun _ => 0)))] := va_D.sub hD [0, 1, 2, 3] (by decide) rfl
  refine lv_aload_n hx hb dX4_init_58 rfl (lv_at hl 0 rfl) ?_
  refine lv_bipush (v := 20) hx hb dX4_init_59 (by decide) ?_
  refine gz_newa (atype := .int) (t0 := 0) (a0 := (20, .inl (fun _ => 0))) hx hb rfl (fun _ _ h9 => h9) (hts _ gm_98) rfl hK hP hD hS hA (fun _ => rfl) (by decide) (by decide) (Nat.le_of_ble_eq_true rfl) (Nat.le_of_ble_eq_true rfl) (Nat.le_of_ble_eq_true rfl) dX4_init_61 (fun q_7 H hP hD hS => ?_)
  have hP : va_P G vwCl [(h0, .inr (4, [.int 0, .ref q_1, .ref q_3, .ref q_4, .ref q_5, .int 0, .ref q_6, .null, .null, .int 0, .null, .null, .null, .null])), (q_3, .inl (cy 0, 6, .inl (fun _ => 0))), (q_4, .inl (cy 0, 6, .inl (fun _ => 0))), (q_5, .inl (cy 0, 6, .inl (fun _ => 0))), (q_7, .inl (cy 0, 20, .inl (fun _ => 0)))] H := hP
  have hD : va_D A [(h0, .inr (4, [.int 0, .ref q_1, .ref q_3, .ref q_4, .ref q_5, .int 0, .ref q_6, .null, .null, .int 0, .null, .null, .null, .null])), (q_3, .inl (cy 0, 6, .inl (fun _ => 0))), (q_4, .inl (cy 0, 6, .inl (fun _ => 0))), (q_5, .inl (cy 0, 6, .inl (fun _ => 0))), (q_7, .inl (cy 0, 20, .inl (fun _ => 0)))] := hD
  refine W.widen (k := 12) (n := 496) (Nat.le_of_ble_eq_true rfl) (Nat.le_of_ble_eq_true rfl) ?_
  refine va_putF (ci := 4) (v := .ref q_7) (ty := .array .int) (C := RX4) (T := TX4) (N := 14) hx hb hts inX4 tyX4 tyX4_ok nmX4 hown hK hP hD hS 0 rfl rfl 7 (by decide) (hts _ gm_197) (fun _ h9 => h9) rfl hin rfl (by decide +kernel) rfl rfl (Nat.le_of_ble_eq_true rfl) dX4_init_63 (fun H locs hP hD hS => ?_)
  have hP : va_P G vwCl [(h0, .inr (4, [.int 0, .ref q_1, .ref q_3, .ref q_4, .ref q_5, .int 0, .ref q_6, .ref q_7, .null, .int 0, .null, .null, .null, .null])), (q_3, .inl (cy 0, 6, .inl (fun _ => 0))), (q_4, .inl (cy 0, 6, .inl (fun _ => 0))), (q_5, .inl (cy 0, 6, .inl (fun _ => 0)))] H := va_P.sub hP [0, 1, 2, 3] rfl
  have hD : va_D A [(h0, .inr (4, [.int 0, .ref q_1, .ref q_3, .ref q_4, .ref q_5, .int 0, .ref q_6, .ref q_7, .null, .int 0, .null, .null, .null, .null])), (q_3, .inl (cy 0, 6, .inl (fun _ => 0))), (q_4, .inl (cy 0, 6, .inl (fun _ => 0))), (q_5, .inl (cy 0, 6, .inl (fun _ => 0)))] := va_D.sub hD [0, 1, 2, 3] (by decide) rfl
  refine lv_aload_n hx hb dX4_init_66 rfl (lv_at hl 0 rfl) ?_
  refine lv_bipush (v := 20) hx hb dX4_init_67 (by decide) ?_
  refine gz_newa (atype := .int) (t0 := 0) (a0 := (20, .inl (fun _ => 0))) hx hb rfl (fun _ _ h9 => h9) (hts _ gm_98) rfl hK hP hD hS hA (fun _ => rfl) (by decide) (by decide) (Nat.le_of_ble_eq_true rfl) (Nat.le_of_ble_eq_true rfl) (Nat.le_of_ble_eq_true rfl) dX4_init_69 (fun q_8 H hP hD hS => ?_)
  have hP : va_P G vwCl [(h0, .inr (4, [.int 0, .ref q_1, .ref q_3, .ref q_4, .ref q_5, .int 0, .ref q_6, .ref q_7, .null, .int 0, .null, .null, .null, .null])), (q_3, .inl (cy 0, 6, .inl (fun _ => 0))), (q_4, .inl (cy 0, 6, .inl (fun _ => 0))), (q_5, .inl (cy 0, 6, .inl (fun _ => 0))), (q_8, .inl (cy 0, 20, .inl (fun _ => 0)))] H := hP
  have hD : va_D A [(h0, .inr (4, [.int 0, .ref q_1, .ref q_3, .ref q_4, .ref q_5, .int 0, .ref q_6, .ref q_7, .null, .int 0, .null, .null, .null, .null])), (q_3, .inl (cy 0, 6, .inl (fun _ => 0))), (q_4, .inl (cy 0, 6, .inl (fun _ => 0))), (q_5, .inl (cy 0, 6, .inl (fun _ => 0))), (q_8, .inl (cy 0, 20, .inl (fun _ => 0)))] := hD
  refine W.widen (k := 13) (n := 516) (Nat.le_of_ble_eq_true rfl) (Nat.le_of_ble_eq_true rfl) ?_
  refine va_putF (ci := 4) (v := .ref q_8) (ty := .array .int) (C := RX4) (T := TX4) (N := 14) hx hb hts inX4 tyX4 tyX4_ok nmX4 hown hK hP hD hS 0 rfl rfl 8 (by decide) (hts _ gm_198) (fun _ h9 => h9) rfl hin rfl (by decide +kernel) rfl rfl (Nat.le_of_ble_eq_true rfl) dX4_init_71 (fun H locs hP hD hS => ?_)
  have hP : va_P G vwCl [(h0, .inr (4, [.int 0, .ref q_1, .ref q_3, .ref q_4, .ref q_5, .int 0, .ref q_6, .ref q_7, .ref q_8, .int 0, .null, .null, .null, .null])), (q_3, .inl (cy 0, 6, .inl (fun _ => 0))), (q_4, .inl (cy 0, 6, .inl (fun _ => 0))), (q_5, .inl (cy 0, 6, .inl (fun _ => 0)))] H := va_P.sub hP [0, 1, 2, 3] rfl
  have hD : va_D A [(h0, .inr (4, [.int 0, .ref q_1, .ref q_3, .ref q_4, .ref q_5, .int 0, .ref q_6, .ref q_7, .ref q_8, .int 0, .null, .null, .null, .null])), (q_3, .inl (cy 0, 6, .inl (fun _ => 0))), (q_4, .inl (cy 0, 6, .inl (fun _ => 0))), (q_5, .inl (cy 0, 6, .inl (fun _ => 0)))] := va_D.sub hD [0, 1, 2, 3] (by decide) rfl
  refine lv_aload_n hx hb dX4_init_74 rfl (lv_at hl 0 rfl) ?_
  refine lv_iconst (v := 0) hx hb dX4_init_75 (by decide) ?_
  refine va_put (ci := 4) (v := .int 0) (ty := .int) (C := RX4) (T := TX4) (N := 14) hx hb hts inX4 tyX4 tyX4_ok nmX4 hown hK hP hD hS 0 rfl rfl 9 (by decide) (hts _ gm_199) (fun _ h9 => h9) rfl (by decide +kernel) rfl rfl (Nat.le_of_ble_eq_true rfl) dX4_init_76 (fun H locs hP hD hS => ?_)
  have hP : va_P G vwCl [(h0, .inr (4, [.int 0, .ref q_1, .ref q_3, .ref q_4, .ref q_5, .int 0, .ref q_6, .ref q_7, .ref q_8, .int 0, .null, .null, .null, .null])), (q_3, .inl (cy 0, 6, .inl (fun _ => 0))), (q_4, .inl (cy 0, 6, .inl (fun _ => 0))), (q_5, .inl (cy 0, 6, .inl (fun _ => 0)))] H := hP
  have hD : va_D A [(h0, .inr (4, [.int 0, .ref q_1, .ref q_3, .ref q_4, .ref q_5, .int 0, .ref q_6, .ref q_7, .ref q_8, .int 0, .null, .null, .null, .null])), (q_3, .inl (cy 0, 6, .inl (fun _ => 0))), (q_4, .inl (cy 0, 6, .inl (fun _ => 0))), (q_5, .inl (cy 0, 6, .inl (fun _ => 0)))] := hD
  refine lv_aload_n hx hb dX4_init_79 rfl (lv_at hl 0 rfl) ?_
  refine lv_bipush (v := 20) hx hb dX4_init_80 (by decide) ?_
  refine gz_newa (atype := .int) (t0 := 0) (a0 := (20, .inl (fun _ => 0))) hx hb rfl (fun _ _ h9 => h9) (hts _ gm_98) rfl hK hP hD hS hA (fun _ => rfl) (by decide) (by decide) (Nat.le_of_ble_eq_true rfl) (Nat.le_of_ble_eq_true rfl) (Nat.le_of_ble_eq_true rfl) dX4_init_82 (fun q_9 H hP hD hS => ?_)
  have hP : va_P G vwCl [(h0, .inr (4, [.int 0, .ref q_1, .ref q_3, .ref q_4, .ref q_5, .int 0, .ref q_6, .ref q_7, .ref q_8, .int 0, .null, .null, .null, .null])), (q_3, .inl (cy 0, 6, .inl (fun _ => 0))), (q_4, .inl (cy 0, 6, .inl (fun _ => 0))), (q_5, .inl (cy 0, 6, .inl (fun _ => 0))), (q_9, .inl (cy 0, 20, .inl (fun _ => 0)))] H := hP
  have hD : va_D A [(h0, .inr (4, [.int 0, .ref q_1, .ref q_3, .ref q_4, .ref q_5, .int 0, .ref q_6, .ref q_7, .ref q_8, .int 0, .null, .null, .null, .null])), (q_3, .inl (cy 0, 6, .inl (fun _ => 0))), (q_4, .inl (cy 0, 6, .inl (fun _ => 0))), (q_5, .inl (cy 0, 6, .inl (fun _ => 0))), (q_9, .inl (cy 0, 20, .inl (fun _ => 0)))] := hD
  refine W.widen (k := 14) (n := 536) (Nat.le_of_ble_eq_true rfl) (Nat.le_of_ble_eq_true rfl) ?_
  refine va_putF (ci := 4) (v := .ref q_9) (ty := .array .int) (C := RX4) (T := TX4) (N := 14) hx hb hts inX4 tyX4 tyX4_ok nmX4 hown hK hP hD hS 0 rfl rfl 10 (by decide) (hts _ gm_200) (fun _ h9 => h9) rfl hin rfl (by decide +kernel) rfl rfl (Nat.le_of_ble_eq_true rfl) dX4_init_84 (fun H locs hP hD hS => ?_)
  have hP : va_P G vwCl [(h0, .inr (4, [.int 0, .ref q_1, .ref q_3, .ref q_4, .ref q_5, .int 0, .ref q_6, .ref q_7, .ref q_8, .int 0, .ref q_9, .null, .null, .null])), (q_3, .inl (cy 0, 6, .inl (fun _ => 0))), (q_4, .inl (cy 0, 6, .inl (fun _ => 0))), (q_5, .inl (cy 0, 6, .inl (fun _ => 0)))] H := va_P.sub hP [0, 1, 2, 3] rfl
  have hD : va_D A [(h0, .inr (4, [.int 0, .ref q_1, .ref q_3, .ref q_4, .ref q_5, .int 0, .ref q_6, .ref q_7, .ref q_8, .int 0, .ref q_9, .null, .null, .null])), (q_3, .inl (cy 0, 6, .inl (fun _ => 0))), (q_4, .inl (cy 0, 6, .inl (fun _ => 0))), (q_5, .inl (cy 0, 6, .inl (fun _ => 0)))] := va_D.sub hD [0, 1, 2, 3] (by decide) rfl
  refine lv_aload_n hx hb dX4_init_87 rfl (lv_at hl 0 rfl) ?_
  refine lv_bipush (v := 20) hx hb dX4_init_88 (by decide) ?_
  refine gz_newa (atype := .int) (t0 := 0) (a0 := (20, .inl (fun _ => 0))) hx hb rfl (fun _ _ h9 => h9) (hts _ gm_98) rfl hK hP hD hS hA (fun _ => rfl) (by decide) (by decide) (Nat.le_of_ble_eq_true rfl) (Nat.le_of_ble_eq_true rfl) (Nat.le_of_ble_eq_true rfl) dX4_init_90 (fun q_10 H hP hD hS => ?_)
  have hP : va_P G vwCl [(h0, .inr (4, [.int 0, .ref q_1, .ref q_3, .ref q_4, .ref q_5, .int 0, .ref q_6, .ref q_7, .ref q_8, .int 0, .ref q_9, .null, .null, .null])), (q_3, .inl (cy 0, 6, .inl (fun _ => 0))), (q_4, .inl (cy 0, 6, .inl (fun _ => 0))), (q_5, .inl (cy 0, 6, .inl (fun _ => 0))), (q_10, .inl (cy 0, 20, .inl (fun _ => 0)))] H := hP
  have hD : va_D A [(h0, .inr (4, [.int 0, .ref q_1, .ref q_3, .ref q_4, .ref q_5, .int 0, .ref q_6, .ref q_7, .ref q_8, .int 0, .ref q_9, .null, .null, .null])), (q_3, .inl (cy 0, 6, .inl (fun _ => 0))), (q_4, .inl (cy 0, 6, .inl (fun _ => 0))), (q_5, .inl (cy 0, 6, .inl (fun _ => 0))), (q_10, .inl (cy 0, 20, .inl (fun _ => 0)))] := hD
  refine W.widen (k := 15) (n := 556) (Nat.le_of_ble_eq_true rfl) (Nat.le_of_ble_eq_true rfl) ?_
  refine va_putF (ci := 4) (v := .ref q_10) (ty := .array .int) (C := RX4) (T := TX4) (N := 14) hx hb hts inX4 tyX4 tyX4_ok nmX4 hown hK hP hD hS 0 rfl rfl 11 (by decide) (hts _ gm_201) (fun _ h9 => h9) rfl hin rfl (by decide +kernel) rfl rfl (Nat.le_of_ble_eq_true rfl) dX4_init_92 (fun H locs hP hD hS => ?_)
  have hP : va_P G vwCl [(h0, .inr (4, [.int 0, .ref q_1, .ref q_3, .ref q_4, .ref q_5, .int 0, .ref q_6, .ref q_7, .ref q_8, .int 0, .ref q_9, .ref q_10, .null, .null])), (q_3, .inl (cy 0, 6, .inl (fun _ => 0))), (q_4, .inl (cy 0, 6, .inl (fun _ => 0))), (q_5, .inl (cy 0, 6, .inl (fun _ => 0)))] H := va_P.sub hP [0, 1, 2, 3] rfl
  have hD : va_D A [(h0, .inr (4, [.int 0, .ref q_1, .ref q_3, .ref q_4, .ref q_5, .int 0, .ref q_6, .ref q_7, .ref q_8, .int 0, .ref q_9, .ref q_10, .null, .null])), (q_3, .inl (cy 0, 6, .inl (fun _ => 0))), (q_4, .inl (cy 0, 6, .inl (fun _ => 0))), (q_5, .inl (cy 0, 6, .inl (fun _ => 0)))] := va_D.sub hD [0, 1, 2, 3] (by decide) rfl
  refine lv_aload_n hx hb dX4_init_95 rfl (lv_at hl 0 rfl) ?_
  refine lv_bipush (v := 20) hx hb dX4_init_96 (by decide) ?_
  refine gz_newa (atype := .int) (t0 := 0) (a0 := (20, .inl (fun _ => 0))) hx hb rfl (fun _ _ h9 => h9) (hts _ gm_98) rfl hK hP hD hS hA (fun _ => rfl) (by decide) (by decide) (Nat.le_of_ble_eq_true rfl) (Nat.le_of_ble_eq_true rfl) (Nat.le_of_ble_eq_true rfl) dX4_init_98 (fun q_11 H hP hD hS => ?_)
  have hP : va_P G vwCl [(h0, .inr (4, [.int 0, .ref q_1, .ref q_3, .ref q_4, .ref q_5, .int 0, .ref q_6, .ref q_7, .ref q_8, .int 0, .ref q_9, .ref q_10, .null, .null])), (q_3, .inl (cy 0, 6, .inl (fun _ => 0))), (q_4, .inl (cy 0, 6, .inl (fun _ => 0))), (q_5, .inl (cy 0, 6, .inl (fun _ => 0))), (q_11, .inl (cy 0, 20, .inl (fun _ => 0)))] H := hP
  have hD : va_D A [(h0, .inr (4, [.int 0, .ref q_1, .ref q_3, .ref q_4, .ref q_5, .int 0, .ref q_6, .ref q_7, .ref q_8, .int 0, .ref q_9, .ref q_10, .null, .null])), (q_3, .inl (cy 0, 6, .inl (fun _ => 0))), (q_4, .inl (cy 0, 6, .inl (fun _ => 0))), (q_5, .inl (cy 0, 6, .inl (fun _ => 0))), (q_11, .inl (cy 0, 20, .inl (fun _ => 0)))] := hD
  refine W.widen (k := 16) (n := 576) (Nat.le_of_ble_eq_true rfl) (Nat.le_of_ble_eq_true rfl) ?_
  refine va_putF (ci := 4) (v := .ref q_11) (ty := .array .int) (C := RX4) (T := TX4) (N := 14) hx hb hts inX4 tyX4 tyX4_ok nmX4 hown hK hP hD hS 0 rfl rfl 12 (by decide) (hts _ gm_202) (fun _ h9 => h9) rfl hin rfl (by decide +kernel) rfl rfl (Nat.le_of_ble_eq_true rfl) dX4_init_100 (fun H locs hP hD hS => ?_)
  have hP : va_P G vwCl [(h0, .inr (4, [.int 0, .ref q_1, .ref q_3, .ref q_4, .ref q_5, .int 0, .ref q_6, .ref q_7, .ref q_8, .int 0, .ref q_9, .ref q_10, .ref q_11, .null])), (q_3, .inl (cy 0, 6, .inl (fun _ => 0))), (q_4, .inl (cy 0, 6, .inl (fun _ => 0))), (q_5, .inl (cy 0, 6, .inl (fun _ => 0)))] H := va_P.sub hP [0, 1, 2, 3] rfl
  have hD : va_D A [(h0, .inr (4, [.int 0, .ref q_1, .ref q_3, .ref q_4, .ref q_5, .int 0, .ref q_6, .ref q_7, .ref q_8, .int 0, .ref q_9, .ref q_10, .ref q_11, .null])), (q_3, .inl (cy 0, 6, .inl (fun _ => 0))), (q_4, .inl (cy 0, 6, .inl (fun _ => 0))), (q_5, .inl (cy 0, 6, .inl (fun _ => 0)))] := va_D.sub hD [0, 1, 2, 3] (by decide) rfl
  refine lv_aload_n hx hb dX4_init_103 rfl (lv_at hl 0 rfl) ?_
  refine lv_bipush (v := 20) hx hb dX4_init_104 (by decide) ?_
  refine gz_newa (atype := .int) (t0 := 0) (a0 := (20, .inl (fun _ => 0))) hx hb rfl (fun _ _ h9 => h9) (hts _ gm_98) rfl hK hP hD hS hA (fun _ => rfl) (by decide) (by decide) (Nat.le_of_ble_eq_true rfl) (Nat.le_of_ble_eq_true rfl) (Nat.le_of_ble_eq_true rfl) dX4_init_106 (fun q_12 H hP hD hS => ?_)
  have hP : va_P G vwCl [(h0, .inr (4, [.int 0, .ref q_1, .ref q_3, .ref q_4, .ref q_5, .int 0, .ref q_6, .ref q_7, .ref q_8, .int 0, .ref q_9, .ref q_10, .ref q_11, .null])), (q_3, .inl (cy 0, 6, .inl (fun _ => 0))), (q_4, .inl (cy 0, 6, .inl (fun _ => 0))), (q_5, .inl (cy 0, 6, .inl (fun _ => 0))), (q_12, .inl (cy 0, 20, .inl (fun _ => 0)))] H := hP
  have hD : va_D A [(h0, .inr (4, [.int 0, .ref q_1, .ref q_3, .ref q_4, .ref q_5, .int 0, .ref q_6, .ref q_7, .ref q_8, .int 0, .ref q_9, .ref q_10, .ref q_11, .null])), (q_3, .inl (cy 0, 6, .inl (fun _ => 0))), (q_4, .inl (cy 0, 6, .inl (fun _ => 0))), (q_5, .inl (cy 0, 6, .inl (fun _ => 0))), (q_12, .inl (cy 0, 20, .inl (fun _ => 0)))] := hD
  refine W.widen (k := 17) (n := 596) (Nat.le_of_ble_eq_true rfl) (Nat.le_of_ble_eq_true rfl) ?_
  refine va_putF (ci := 4) (v := .ref q_12) (ty := .array .int) (C := RX4) (T := TX4) (N := 14) hx hb hts inX4 tyX4 tyX4_ok nmX4 hown hK hP hD hS 0 rfl rfl 13 (by decide) (hts _ gm_203) (fun _ h9 => h9) rfl hin rfl (by decide +kernel) rfl rfl (Nat.le_of_ble_eq_true rfl) dX4_init_108 (fun H locs hP hD hS => ?_)
  have hP : va_P G vwCl [(h0, .inr (4, [.int 0, .ref q_1, .ref q_3, .ref q_4, .ref q_5, .int 0, .ref q_6, .ref q_7, .ref q_8, .int 0, .ref q_9, .ref q_10, .ref q_11, .ref q_12])), (q_3, .inl (cy 0, 6, .inl (fun _ => 0))), (q_4, .inl (cy 0, 6, .inl (fun _ => 0))), (q_5, .inl (cy 0, 6, .inl (fun _ => 0)))] H := va_P.sub hP [0, 1, 2, 3] rfl
  have hD : va_D A [(h0, .inr (4, [.int 0, .ref q_1, .ref q_3, .ref q_4, .ref q_5, .int 0, .ref q_6, .ref q_7, .ref q_8, .int 0, .ref q_9, .ref q_10, .ref q_11, .ref q_12])), (q_3, .inl (cy 0, 6, .inl (fun _ => 0))), (q_4, .inl (cy 0, 6, .inl (fun _ => 0))), (q_5, .inl (cy 0, 6, .inl (fun _ => 0)))] := va_D.sub hD [0, 1, 2, 3] (by decide) rfl
  exact gz_vret (cf := (fun (u : (Nat → Nat)) => [(h0, .inr (4, [.int 0, .ref (u 0), .ref (u 1), .ref (u 2), .ref (u 3), .int 0, .ref (u 4), .ref (u 5), .ref (u 6), .int 0, .ref (u 7), .ref (u 8), .ref (u 9), .ref (u 10)])), ((u 1), .inl (cy 0, 6, .inl (fun _ => 0))), ((u 2), .inl (cy 0, 6, .inl (fun _ => 0))), ((u 3), .inl (cy 0, 6, .inl (fun _ => 0)))])) (post := (fun (u : (Nat → Nat)) => True)) hx hb hr hlocks hK hP hD hS (fun k => match k with | 0 => q_1 | 1 => q_3 | 2 => q_4 | 3 => q_5 | 4 => q_6 | 5 => q_7 | 6 => q_8 | 7 => q_9 | 8 => q_10 | 9 => q_11 | 10 => q_12 | _ => 0) [0, 1, 2, 3] trivial (by decide) rfl (Nat.le_of_ble_eq_true rfl) (Nat.le_of_ble_eq_true rfl) dX4_init_111

set_option maxHeartbeats 4000000 in
set_option maxRecDepth 100000 in
/-- WellCourt$Planner.<init> -/
theorem c_X6_init (l : Launch) (G : va_G) (cy : Nat → ClassId) (sz : Nat) (h0 : Nat) (h1 : Nat) (h2 : Nat) (h3 : Nat) (h4 : Nat)  : gMv l yX6_init cX6_init 6 ({ frames := 2, cells := 111, slots := 667, locals := 43 }) G cy sz [.ref h0, .ref h1, .ref h2, .ref h3, .ref h4] [(h0, .inr (6, [.null, .null, .null, .null, .int 0, .null, .null, .null, .null, .null, .int 0, .int 0, .null, .int 0, .int 0]))] (fun (u : (Nat → Nat)) => True) (fun (u : (Nat → Nat)) => [(h0, .inr (6, [.ref h1, .ref h2, .ref h3, .ref h4, .int 0, .ref (u 0), .ref (u 1), .ref (u 2), .ref (u 3), .ref (u 4), .int 0, .int 0, .ref (u 5), .int 0, .int 0]))]) := by
  refine gz_start (fun A => gQv G cy _ _ A) (by decide) (Nat.le_of_ble_eq_true rfl) ?_
  intro p e s m below meth c A ls H hx hb hr hml hlocks hin hown hts hK hov hsz hP hD hS hA hl
  have hl : lv_has ls 6 [(0, .ref h0), (1, .ref h1), (2, .ref h2), (3, .ref h3), (4, .ref h4)] := hl
  refine lv_aload_n hx hb dX6_init_0 rfl (lv_at hl 0 rfl) ?_
  refine W.objInit hx hb hown (hts _ gm_238) (hts _ gm_30) (hts _ gm_31) rfl (by rw [hml]; exact hl.1) rfl dX6_init_1 (Nat.le_of_ble_eq_true rfl) (Nat.le_of_ble_eq_true rfl) ?_
  refine W.eq (g2 := F0 m 4 ls []) rfl ?_
  refine lv_aload_n hx hb dX6_init_4 rfl (lv_at hl 0 rfl) ?_
  refine lv_iconst (v := 0) hx hb dX6_init_5 (by decide) ?_
  refine va_put (ci := 6) (v := .int 0) (ty := .int) (C := RX6) (T := TX6) (N := 15) hx hb hts inX6 tyX6 tyX6_ok nmX6 hown hK hP hD hS 0 rfl rfl 4 (by decide) (hts _ gm_247) (fun _ h9 => h9) rfl (by decide +kernel) rfl rfl (Nat.le_of_ble_eq_true rfl) dX6_init_6 (fun H locs hP hD hS => ?_)
  have hP : va_P G vwCl [(h0, .inr (6, [.null, .null, .null, .null, .int 0, .null, .null, .null, .null, .null, .int 0, .int 0, .null, .int 0, .int 0]))] H := hP
  have hD : va_D A [(h0, .inr (6, [.null, .null, .null, .null, .int 0, .null, .null, .null, .null, .null, .int 0, .int 0, .null, .int 0, .int 0]))] := hD
  refine lv_aload_n hx hb dX6_init_9 rfl (lv_at hl 0 rfl) ?_
  refine lv_bipush (v := 15) hx hb dX6_init_10 (by decide) ?_
  refine gz_newq hx hb hown (hts _ gm_239) hov.2.1 hK hP hD hS hA (by decide) (N' := 15) (by decide) (Nat.le_of_ble_eq_true rfl) (Nat.le_of_ble_eq_true rfl) (Nat.le_of_ble_eq_true rfl) dX6_init_12 (fun q_1 H hP hD hS => ?_)
  have hP : va_P G vwCl [(h0, .inr (6, [.null, .null, .null, .null, .int 0, .null, .null, .null, .null, .null, .int 0, .int 0, .null, .int 0, .int 0])), (q_1, .inl (cy 4, 15, .inr (.inr (.inr (.inr (fun _ => none))))))] H := hP
  have hD : va_D A [(h0, .inr (6, [.null, .null, .null, .null, .int 0, .null, .null, .null, .null, .null, .int 0, .int 0, .null, .int 0, .int 0])), (q_1, .inl (cy 4, 15, .inr (.inr (.inr (.inr (fun _ => none))))))] := hD
  refine W.widen (k := 1) (n := 15) (Nat.le_of_ble_eq_true rfl) (Nat.le_of_ble_eq_true rfl) ?_
  refine va_putF (ci := 6) (v := .ref q_1) (ty := .array (.object "WellCourt$Day")) (C := RX6) (T := TX6) (N := 15) hx hb hts inX6 tyX6 tyX6_ok nmX6 hown hK hP hD hS 0 rfl rfl 5 (by decide) (hts _ gm_248) (fun _ h9 => h9) rfl hin rfl (by decide +kernel) rfl rfl (Nat.le_of_ble_eq_true rfl) dX6_init_15 (fun H locs hP hD hS => ?_)
  have hP : va_P G vwCl [(h0, .inr (6, [.null, .null, .null, .null, .int 0, .ref q_1, .null, .null, .null, .null, .int 0, .int 0, .null, .int 0, .int 0])), (q_1, .inl (cy 4, 15, .inr (.inr (.inr (.inr (fun _ => none))))))] H := hP
  have hD : va_D A [(h0, .inr (6, [.null, .null, .null, .null, .int 0, .ref q_1, .null, .null, .null, .null, .int 0, .int 0, .null, .int 0, .int 0])), (q_1, .inl (cy 4, 15, .inr (.inr (.inr (.inr (fun _ => none))))))] := hD
  refine lv_aload_n hx hb dX6_init_18 rfl (lv_at hl 0 rfl) ?_
  refine lv_bipush (v := 15) hx hb dX6_init_19 (by decide) ?_
  refine lv_iconst (v := 4) hx hb dX6_init_21 (by decide) ?_
  refine gz_mna (N' := 15) (K' := 4) hx hb hown (hts _ gm_241) hov.1 (hts _ gm_98) hK hP hD hS hA (by decide) (by decide) (by decide) (by decide) (Nat.le_of_ble_eq_true rfl) (Nat.le_of_ble_eq_true rfl) (Nat.le_of_ble_eq_true rfl) (Nat.le_of_ble_eq_true rfl) (Nat.le_of_ble_eq_true rfl) dX6_init_22 (fun q_2 r_3 H hP hD hS => ?_)
  have hP : va_P G vwCl [(h0, .inr (6, [.null, .null, .null, .null, .int 0, .ref q_1, .null, .null, .null, .null, .int 0, .int 0, .null, .int 0, .int 0])), (q_1, .inl (cy 4, 15, .inr (.inr (.inr (.inr (fun _ => none))))))] H := va_P.sub hP [0, 1] rfl
  have hD : va_D A [(h0, .inr (6, [.null, .null, .null, .null, .int 0, .ref q_1, .null, .null, .null, .null, .int 0, .int 0, .null, .int 0, .int 0])), (q_1, .inl (cy 4, 15, .inr (.inr (.inr (.inr (fun _ => none))))))] := va_D.sub hD [0, 1] (by decide) rfl
  refine W.widen (k := 17) (n := 90) (Nat.le_of_ble_eq_true rfl) (Nat.le_of_ble_eq_true rfl) ?_
  refine va_putF (ci := 6) (v := .ref q_2) (ty := .array (.array .int)) (C := RX6) (T := TX6) (N := 15) hx hb hts inX6 tyX6 tyX6_ok nmX6 hown hK hP hD hS 0 rfl rfl 6 (by decide) (hts _ gm_249) (fun _ h9 => h9) rfl hin rfl (by decide +kernel) rfl rfl (Nat.le_of_ble_eq_true rfl) dX6_init_26 (fun H locs hP hD hS => ?_)
  have hP : va_P G vwCl [(h0, .inr (6, [.null, .null, .null, .null, .int 0, .ref q_1, .ref q_2, .null, .null, .null, .int 0, .int 0, .null, .int 0, .int 0])), (q_1, .inl (cy 4, 15, .inr (.inr (.inr (.inr (fun _ => none))))))] H := hP
  have hD : va_D A [(h0, .inr (6, [.null, .null, .null, .null, .int 0, .ref q_1, .ref q_2, .null, .null, .null, .int 0, .int 0, .null, .int 0, .int 0])), (q_1, .inl (cy 4, 15, .inr (.inr (.inr (.inr (fun _ => none))))))] := hD
  refine lv_aload_n hx hb dX6_init_29 rfl (lv_at hl 0 rfl) ?_
  refine lv_bipush (v := 15) hx hb dX6_init_30 (by decide) ?_
  refine lv_iconst (v := 4) hx hb dX6_init_32 (by decide) ?_
  refine gz_mna (N' := 15) (K' := 4) hx hb hown (hts _ gm_241) hov.1 (hts _ gm_98) hK hP hD hS hA (by decide) (by decide) (by decide) (by decide) (Nat.le_of_ble_eq_true rfl) (Nat.le_of_ble_eq_true rfl) (Nat.le_of_ble_eq_true rfl) (Nat.le_of_ble_eq_true rfl) (Nat.le_of_ble_eq_true rfl) dX6_init_33 (fun q_4 r_5 H hP hD hS => ?_)
  have hP : va_P G vwCl [(h0, .inr (6, [.null, .null, .null, .null, .int 0, .ref q_1, .ref q_2, .null, .null, .null, .int 0, .int 0, .null, .int 0, .int 0])), (q_1, .inl (cy 4, 15, .inr (.inr (.inr (.inr (fun _ => none))))))] H := va_P.sub hP [0, 1] rfl
  have hD : va_D A [(h0, .inr (6, [.null, .null, .null, .null, .int 0, .ref q_1, .ref q_2, .null, .null, .null, .int 0, .int 0, .null, .int 0, .int 0])), (q_1, .inl (cy 4, 15, .inr (.inr (.inr (.inr (fun _ => none))))))] := va_D.sub hD [0, 1] (by decide) rfl
  refine W.widen (k := 33) (n := 165) (Nat.le_of_ble_eq_true rfl) (Nat.le_of_ble_eq_true rfl) ?_
  refine va_putF (ci := 6) (v := .ref q_4) (ty := .array (.array .int)) (C := RX6) (T := TX6) (N := 15) hx hb hts inX6 tyX6 tyX6_ok nmX6 hown hK hP hD hS 0 rfl rfl 7 (by decide) (hts _ gm_250) (fun _ h9 => h9) rfl hin rfl (by decide +kernel) rfl rfl (Nat.le_of_ble_eq_true rfl) dX6_init_37 (fun H locs hP hD hS => ?_)
  have hP : va_P G vwCl [(h0, .inr (6, [.null, .null, .null, .null, .int 0, .ref q_1, .ref q_2, .ref q_4, .null, .null, .int 0, .int 0, .null, .int 0, .int 0])), (q_1, .inl (cy 4, 15, .inr (.inr (.inr (.inr (fun _ => none))))))] H := hP
  have hD : va_D A [(h0, .inr (6, [.null, .null, .null, .null, .int 0, .ref q_1, .ref q_2, .ref q_4, .null, .null, .int 0, .int 0, .null, .int 0, .int 0])), (q_1, .inl (cy 4, 15, .inr (.inr (.inr (.inr (fun _ => none))))))] := hD
  refine lv_aload_n hx hb dX6_init_40 rfl (lv_at hl 0 rfl) ?_
  refine lv_bipush (v := 15) hx hb dX6_init_41 (by decide) ?_
  refine lv_iconst (v := 4) hx hb dX6_init_43 (by decide) ?_
  refine gz_mna (N' := 15) (K' := 4) hx hb hown (hts _ gm_241) hov.1 (hts _ gm_98) hK hP hD hS hA (by decide) (by decide) (by decide) (by decide) (Nat.le_of_ble_eq_true rfl) (Nat.le_of_ble_eq_true rfl) (Nat.le_of_ble_eq_true rfl) (Nat.le_of_ble_eq_true rfl) (Nat.le_of_ble_eq_true rfl) dX6_init_44 (fun q_6 r_7 H hP hD hS => ?_)
  have hP : va_P G vwCl [(h0, .inr (6, [.null, .null, .null, .null, .int 0, .ref q_1, .ref q_2, .ref q_4, .null, .null, .int 0, .int 0, .null, .int 0, .int 0])), (q_1, .inl (cy 4, 15, .inr (.inr (.inr (.inr (fun _ => none))))))] H := va_P.sub hP [0, 1] rfl
  have hD : va_D A [(h0, .inr (6, [.null, .null, .null, .null, .int 0, .ref q_1, .ref q_2, .ref q_4, .null, .null, .int 0, .int 0, .null, .int 0, .int 0])), (q_1, .inl (cy 4, 15, .inr (.inr (.inr (.inr (fun _ => none))))))] := va_D.sub hD [0, 1] (by decide) rfl
  refine W.widen (k := 49) (n := 240) (Nat.le_of_ble_eq_true rfl) (Nat.le_of_ble_eq_true rfl) ?_
  refine va_putF (ci := 6) (v := .ref q_6) (ty := .array (.array .int)) (C := RX6) (T := TX6) (N := 15) hx hb hts inX6 tyX6 tyX6_ok nmX6 hown hK hP hD hS 0 rfl rfl 8 (by decide) (hts _ gm_251) (fun _ h9 => h9) rfl hin rfl (by decide +kernel) rfl rfl (Nat.le_of_ble_eq_true rfl) dX6_init_48 (fun H locs hP hD hS => ?_)
  have hP : va_P G vwCl [(h0, .inr (6, [.null, .null, .null, .null, .int 0, .ref q_1, .ref q_2, .ref q_4, .ref q_6, .null, .int 0, .int 0, .null, .int 0, .int 0])), (q_1, .inl (cy 4, 15, .inr (.inr (.inr (.inr (fun _ => none))))))] H := hP
  have hD : va_D A [(h0, .inr (6, [.null, .null, .null, .null, .int 0, .ref q_1, .ref q_2, .ref q_4, .ref q_6, .null, .int 0, .int 0, .null, .int 0, .int 0])), (q_1, .inl (cy 4, 15, .inr (.inr (.inr (.inr (fun _ => none))))))] := hD
  refine lv_aload_n hx hb dX6_init_51 rfl (lv_at hl 0 rfl) ?_
  refine lv_bipush (v := 56) hx hb dX6_init_52 (by decide) ?_
  refine gz_newa (atype := .int) (t0 := 0) (a0 := (56, .inl (fun _ => 0))) hx hb rfl (fun _ _ h9 => h9) (hts _ gm_98) rfl hK hP hD hS hA (fun _ => rfl) (by decide) (by decide) (Nat.le_of_ble_eq_true rfl) (Nat.le_of_ble_eq_true rfl) (Nat.le_of_ble_eq_true rfl) dX6_init_54 (fun q_8 H hP hD hS => ?_)
  have hP : va_P G vwCl [(h0, .inr (6, [.null, .null, .null, .null, .int 0, .ref q_1, .ref q_2, .ref q_4, .ref q_6, .null, .int 0, .int 0, .null, .int 0, .int 0])), (q_1, .inl (cy 4, 15, .inr (.inr (.inr (.inr (fun _ => none)))))), (q_8, .inl (cy 0, 56, .inl (fun _ => 0)))] H := hP
  have hD : va_D A [(h0, .inr (6, [.null, .null, .null, .null, .int 0, .ref q_1, .ref q_2, .ref q_4, .ref q_6, .null, .int 0, .int 0, .null, .int 0, .int 0])), (q_1, .inl (cy 4, 15, .inr (.inr (.inr (.inr (fun _ => none)))))), (q_8, .inl (cy 0, 56, .inl (fun _ => 0)))] := hD
  refine W.widen (k := 50) (n := 296) (Nat.le_of_ble_eq_true rfl) (Nat.le_of_ble_eq_true rfl) ?_
  refine va_putF (ci := 6) (v := .ref q_8) (ty := .array .int) (C := RX6) (T := TX6) (N := 15) hx hb hts inX6 tyX6 tyX6_ok nmX6 hown hK hP hD hS 0 rfl rfl 9 (by decide) (hts _ gm_252) (fun _ h9 => h9) rfl hin rfl (by decide +kernel) rfl rfl (Nat.le_of_ble_eq_true rfl) dX6_init_56 (fun H locs hP hD hS => ?_)
  have hP : va_P G vwCl [(h0, .inr (6, [.null, .null, .null, .null, .int 0, .ref q_1, .ref q_2, .ref q_4, .ref q_6, .ref q_8, .int 0, .int 0, .null, .int 0, .int 0])), (q_1, .inl (cy 4, 15, .inr (.inr (.inr (.inr (fun _ => none))))))] H := va_P.sub hP [0, 1] rfl
  have hD : va_D A [(h0, .inr (6, [.null, .null, .null, .null, .int 0, .ref q_1, .ref q_2, .ref q_4, .ref q_6, .ref q_8, .int 0, .int 0, .null, .int 0, .int 0])), (q_1, .inl (cy 4, 15, .inr (.inr (.inr (.inr (fun _ => none))))))] := va_D.sub hD [0, 1] (by decide) rfl
  refine lv_aload_n hx hb dX6_init_59 rfl (lv_at hl 0 rfl) ?_
  refine lv_iconst (v := 0) hx hb dX6_init_60 (by decide) ?_
  refine va_put (ci := 6) (v := .int 0) (ty := .int) (C := RX6) (T := TX6) (N := 15) hx hb hts inX6 tyX6 tyX6_ok nmX6 hown hK hP hD hS 0 rfl rfl 10 (by decide) (hts _ gm_253) (fun _ h9 => h9) rfl (by decide +kernel) rfl rfl (Nat.le_of_ble_eq_true rfl) dX6_init_61 (fun H locs hP hD hS => ?_)
  have hP : va_P G vwCl [(h0, .inr (6, [.null, .null, .null, .null, .int 0, .ref q_1, .ref q_2, .ref q_4, .ref q_6, .ref q_8, .int 0, .int 0, .null, .int 0, .int 0])), (q_1, .inl (cy 4, 15, .inr (.inr (.inr (.inr (fun _ => none))))))] H := hP
  have hD : va_D A [(h0, .inr (6, [.null, .null, .null, .null, .int 0, .ref q_1, .ref q_2, .ref q_4, .ref q_6, .ref q_8, .int 0, .int 0, .null, .int 0, .int 0])), (q_1, .inl (cy 4, 15, .inr (.inr (.inr (.inr (fun _ => none))))))] := hD
  refine lv_aload_n hx hb dX6_init_64 rfl (lv_at hl 0 rfl) ?_
  refine lv_iconst (v := 0) hx hb dX6_init_65 (by decide) ?_
  refine va_put (ci := 6) (v := .int 0) (ty := .int) (C := RX6) (T := TX6) (N := 15) hx hb hts inX6 tyX6 tyX6_ok nmX6 hown hK hP hD hS 0 rfl rfl 11 (by decide) (hts _ gm_255) (fun _ h9 => h9) rfl (by decide +kernel) rfl rfl (Nat.le_of_ble_eq_true rfl) dX6_init_66 (fun H locs hP hD hS => ?_)
  have hP : va_P G vwCl [(h0, .inr (6, [.null, .null, .null, .null, .int 0, .ref q_1, .ref q_2, .ref q_4, .ref q_6, .ref q_8, .int 0, .int 0, .null, .int 0, .int 0])), (q_1, .inl (cy 4, 15, .inr (.inr (.inr (.inr (fun _ => none))))))] H := hP
  have hD : va_D A [(h0, .inr (6, [.null, .null, .null, .null, .int 0, .ref q_1, .ref q_2, .ref q_4, .ref q_6, .ref q_8, .int 0, .int 0, .null, .int 0, .int 0])), (q_1, .inl (cy 4, 15, .inr (.inr (.inr (.inr (fun _ => none))))))] := hD
  refine lv_aload_n hx hb dX6_init_69 rfl (lv_at hl 0 rfl) ?_
  refine lv_bipush (v := 56) hx hb dX6_init_70 (by decide) ?_
  refine gz_newa (atype := .int) (t0 := 0) (a0 := (56, .inl (fun _ => 0))) hx hb rfl (fun _ _ h9 => h9) (hts _ gm_98) rfl hK hP hD hS hA (fun _ => rfl) (by decide) (by decide) (Nat.le_of_ble_eq_true rfl) (Nat.le_of_ble_eq_true rfl) (Nat.le_of_ble_eq_true rfl) dX6_init_72 (fun q_9 H hP hD hS => ?_)
  have hP : va_P G vwCl [(h0, .inr (6, [.null, .null, .null, .null, .int 0, .ref q_1, .ref q_2, .ref q_4, .ref q_6, .ref q_8, .int 0, .int 0, .null, .int 0, .int 0])), (q_1, .inl (cy 4, 15, .inr (.inr (.inr (.inr (fun _ => none)))))), (q_9, .inl (cy 0, 56, .inl (fun _ => 0)))] H := hP
  have hD : va_D A [(h0, .inr (6, [.null, .null, .null, .null, .int 0, .ref q_1, .ref q_2, .ref q_4, .ref q_6, .ref q_8, .int 0, .int 0, .null, .int 0, .int 0])), (q_1, .inl (cy 4, 15, .inr (.inr (.inr (.inr (fun _ => none)))))), (q_9, .inl (cy 0, 56, .inl (fun _ => 0)))] := hD
  refine W.widen (k := 51) (n := 352) (Nat.le_of_ble_eq_true rfl) (Nat.le_of_ble_eq_true rfl) ?_
  refine va_putF (ci := 6) (v := .ref q_9) (ty := .array .int) (C := RX6) (T := TX6) (N := 15) hx hb hts inX6 tyX6 tyX6_ok nmX6 hown hK hP hD hS 0 rfl rfl 12 (by decide) (hts _ gm_257) (fun _ h9 => h9) rfl hin rfl (by decide +kernel) rfl rfl (Nat.le_of_ble_eq_true rfl) dX6_init_74 (fun H locs hP hD hS => ?_)
  have hP : va_P G vwCl [(h0, .inr (6, [.null, .null, .null, .null, .int 0, .ref q_1, .ref q_2, .ref q_4, .ref q_6, .ref q_8, .int 0, .int 0, .ref q_9, .int 0, .int 0])), (q_1, .inl (cy 4, 15, .inr (.inr (.inr (.inr (fun _ => none))))))] H := va_P.sub hP [0, 1] rfl
  have hD : va_D A [(h0, .inr (6, [.null, .null, .null, .null, .int 0, .ref q_1, .ref q_2, .ref q_4, .ref q_6, .ref q_8, .int 0, .int 0, .ref q_9, .int 0, .int 0])), (q_1, .inl (cy 4, 15, .inr (.inr (.inr (.inr (fun _ => none))))))] := va_D.sub hD [0, 1] (by decide) rfl
  refine lv_aload_n hx hb dX6_init_77 rfl (lv_at hl 0 rfl) ?_
  refine lv_iconst (v := 0) hx hb dX6_init_78 (by decide) ?_
  refine va_put (ci := 6) (v := .int 0) (ty := .int) (C := RX6) (T := TX6) (N := 15) hx hb hts inX6 tyX6 tyX6_ok nmX6 hown hK hP hD hS 0 rfl rfl 13 (by decide) (hts _ gm_258) (fun _ h9 => h9) rfl (by decide +kernel) rfl rfl (Nat.le_of_ble_eq_true rfl) dX6_init_79 (fun H locs hP hD hS => ?_)
  have hP : va_P G vwCl [(h0, .inr (6, [.null, .null, .null, .null, .int 0, .ref q_1, .ref q_2, .ref q_4, .ref q_6, .ref q_8, .int 0, .int 0, .ref q_9, .int 0, .int 0])), (q_1, .inl (cy 4, 15, .inr (.inr (.inr (.inr (fun _ => none))))))] H := hP
  have hD : va_D A [(h0, .inr (6, [.null, .null, .null, .null, .int 0, .ref q_1, .ref q_2, .ref q_4, .ref q_6, .ref q_8, .int 0, .int 0, .ref q_9, .int 0, .int 0])), (q_1, .inl (cy 4, 15, .inr (.inr (.inr (.inr (fun _ => none))))))] := hD
  refine lv_aload_n hx hb dX6_init_82 rfl (lv_at hl 0 rfl) ?_
  refine lv_iconst (v := 0) hx hb dX6_init_83 (by decide) ?_
  refine va_put (ci := 6) (v := .int 0) (ty := .int) (C := RX6) (T := TX6) (N := 15) hx hb hts inX6 tyX6 tyX6_ok nmX6 hown hK hP hD hS 0 rfl rfl 14 (by decide) (hts _ gm_259) (fun _ h9 => h9) rfl (by decide +kernel) rfl rfl (Nat.le_of_ble_eq_true rfl) dX6_init_84 (fun H locs hP hD hS => ?_)
  have hP : va_P G vwCl [(h0, .inr (6, [.null, .null, .null, .null, .int 0, .ref q_1, .ref q_2, .ref q_4, .ref q_6, .ref q_8, .int 0, .int 0, .ref q_9, .int 0, .int 0])), (q_1, .inl (cy 4, 15, .inr (.inr (.inr (.inr (fun _ => none))))))] H := hP
  have hD : va_D A [(h0, .inr (6, [.null, .null, .null, .null, .int 0, .ref q_1, .ref q_2, .ref q_4, .ref q_6, .ref q_8, .int 0, .int 0, .ref q_9, .int 0, .int 0])), (q_1, .inl (cy 4, 15, .inr (.inr (.inr (.inr (fun _ => none))))))] := hD
  refine lv_aload_n hx hb dX6_init_87 rfl (lv_at hl 0 rfl) ?_
  refine lv_aload_n hx hb dX6_init_88 rfl (lv_at hl 1 rfl) ?_
  refine va_putF (ci := 6) (v := .ref h1) (ty := .object "WellCourt$Land") (C := RX6) (T := TX6) (N := 15) hx hb hts inX6 tyX6 tyX6_ok nmX6 hown hK hP hD hS 0 rfl rfl 0 (by decide) (hts _ gm_243) (fun _ h9 => h9) rfl hin rfl (by decide +kernel) rfl rfl (Nat.le_of_ble_eq_true rfl) dX6_init_89 (fun H locs hP hD hS => ?_)
  have hP : va_P G vwCl [(h0, .inr (6, [.ref h1, .null, .null, .null, .int 0, .ref q_1, .ref q_2, .ref q_4, .ref q_6, .ref q_8, .int 0, .int 0, .ref q_9, .int 0, .int 0])), (q_1, .inl (cy 4, 15, .inr (.inr (.inr (.inr (fun _ => none))))))] H := hP
  have hD : va_D A [(h0, .inr (6, [.ref h1, .null, .null, .null, .int 0, .ref q_1, .ref q_2, .ref q_4, .ref q_6, .ref q_8, .int 0, .int 0, .ref q_9, .int 0, .int 0])), (q_1, .inl (cy 4, 15, .inr (.inr (.inr (.inr (fun _ => none))))))] := hD
  refine lv_aload_n hx hb dX6_init_92 rfl (lv_at hl 0 rfl) ?_
  refine lv_aload_n hx hb dX6_init_93 rfl (lv_at hl 2 rfl) ?_
  refine va_putF (ci := 6) (v := .ref h2) (ty := .object "WellCourt$Calendar") (C := RX6) (T := TX6) (N := 15) hx hb hts inX6 tyX6 tyX6_ok nmX6 hown hK hP hD hS 0 rfl rfl 1 (by decide) (hts _ gm_244) (fun _ h9 => h9) rfl hin rfl (by decide +kernel) rfl rfl (Nat.le_of_ble_eq_true rfl) dX6_init_94 (fun H locs hP hD hS => ?_)
  have hP : va_P G vwCl [(h0, .inr (6, [.ref h1, .ref h2, .null, .null, .int 0, .ref q_1, .ref q_2, .ref q_4, .ref q_6, .ref q_8, .int 0, .int 0, .ref q_9, .int 0, .int 0])), (q_1, .inl (cy 4, 15, .inr (.inr (.inr (.inr (fun _ => none))))))] H := hP
  have hD : va_D A [(h0, .inr (6, [.ref h1, .ref h2, .null, .null, .int 0, .ref q_1, .ref q_2, .ref q_4, .ref q_6, .ref q_8, .int 0, .int 0, .ref q_9, .int 0, .int 0])), (q_1, .inl (cy 4, 15, .inr (.inr (.inr (.inr (fun _ => none))))))] := hD
  refine lv_aload_n hx hb dX6_init_97 rfl (lv_at hl 0 rfl) ?_
  refine lv_aload_n hx hb dX6_init_98 rfl (lv_at hl 3 rfl) ?_
  refine va_putF (ci := 6) (v := .ref h3) (ty := .object "WellCourt$Flock") (C := RX6) (T := TX6) (N := 15) hx hb hts inX6 tyX6 tyX6_ok nmX6 hown hK hP hD hS 0 rfl rfl 2 (by decide) (hts _ gm_245) (fun _ h9 => h9) rfl hin rfl (by decide +kernel) rfl rfl (Nat.le_of_ble_eq_true rfl) dX6_init_99 (fun H locs hP hD hS => ?_)
  have hP : va_P G vwCl [(h0, .inr (6, [.ref h1, .ref h2, .ref h3, .null, .int 0, .ref q_1, .ref q_2, .ref q_4, .ref q_6, .ref q_8, .int 0, .int 0, .ref q_9, .int 0, .int 0])), (q_1, .inl (cy 4, 15, .inr (.inr (.inr (.inr (fun _ => none))))))] H := hP
  have hD : va_D A [(h0, .inr (6, [.ref h1, .ref h2, .ref h3, .null, .int 0, .ref q_1, .ref q_2, .ref q_4, .ref q_6, .ref q_8, .int 0, .int 0, .ref q_9, .int 0, .int 0])), (q_1, .inl (cy 4, 15, .inr (.inr (.inr (.inr (fun _ => none))))))] := hD
  refine lv_aload_n hx hb dX6_init_102 rfl (lv_at hl 0 rfl) ?_
  refine lv_aload hx hb dX6_init_103 (lv_at hl 4 rfl) ?_
  refine va_put (ci := 6) (v := .ref h4) (ty := .object "WellCourt$Law") (C := RX6) (T := TX6) (N := 15) hx hb hts inX6 tyX6 tyX6_ok nmX6 hown hK hP hD hS 0 rfl rfl 3 (by decide) (hts _ gm_246) (fun _ h9 => h9) rfl (by decide +kernel) rfl rfl (Nat.le_of_ble_eq_true rfl) dX6_init_105 (fun H locs hP hD hS => ?_)
  have hP : va_P G vwCl [(h0, .inr (6, [.ref h1, .ref h2, .ref h3, .ref h4, .int 0, .ref q_1, .ref q_2, .ref q_4, .ref q_6, .ref q_8, .int 0, .int 0, .ref q_9, .int 0, .int 0])), (q_1, .inl (cy 4, 15, .inr (.inr (.inr (.inr (fun _ => none))))))] H := hP
  have hD : va_D A [(h0, .inr (6, [.ref h1, .ref h2, .ref h3, .ref h4, .int 0, .ref q_1, .ref q_2, .ref q_4, .ref q_6, .ref q_8, .int 0, .int 0, .ref q_9, .int 0, .int 0])), (q_1, .inl (cy 4, 15, .inr (.inr (.inr (.inr (fun _ => none))))))] := hD
  refine lv_iconst (v := 0) hx hb dX6_init_108 (by decide) ?_
  refine lv_istore (lv' := [(5, .int 0), (0, .ref h0), (1, .ref h1), (2, .ref h2), (3, .ref h3), (4, .ref h4)]) hx hb dX6_init_109 hl (by decide) rfl (fun ls hl => ?_)
  refine lv_iload hx hb dX6_init_111 (lv_at hl 0 rfl) ?_
  refine lv_bipush (v := 14) hx hb dX6_init_113 (by decide) ?_
  refine lv_icmp_gt (tgt := 138) hx hb dX6_init_115 (by decide) (fun h9 => absurd h9 (by decide)) (fun _ => ?_)
  refine lv_aload_n hx hb dX6_init_118 rfl (lv_at hl 1 rfl) ?_
  refine va_get (ci := 6) (v := .ref q_1) (C := RX6) (T := TX6) (N := 15) hx hb hts inX6 hown hK hP 0 rfl rfl 5 (by decide) (hts _ gm_248) (fun _ h9 => h9) rfl dX6_init_119 ?_
  refine lv_iload hx hb dX6_init_122 (lv_at hl 0 rfl) ?_
  refine va_new (ci := 1) (fs := [.null, .null, .null]) (C := RX1) (T := TX1) (N := 3) hx hb hts inX1 tyX1 tyX1_ok hown (hts _ gm_239) (hts _ gm_114) (hts _ gm_7) hK hP hD hS hA rfl dfX1 (Nat.le_of_ble_eq_true rfl) (Nat.le_of_ble_eq_true rfl) dX6_init_124 (fun q_10 H hP hD hS => ?_)
  have hP : va_P G vwCl [(h0, .inr (6, [.ref h1, .ref h2, .ref h3, .ref h4, .int 0, .ref q_1, .ref q_2, .ref q_4, .ref q_6, .ref q_8, .int 0, .int 0, .ref q_9, .int 0, .int 0])), (q_1, .inl (cy 4, 15, .inr (.inr (.inr (.inr (fun _ => none)))))), (q_10, .inr (1, [.null, .null, .null]))] H := hP
  have hD : va_D A [(h0, .inr (6, [.ref h1, .ref h2, .ref h3, .ref h4, .int 0, .ref q_1, .ref q_2, .ref q_4, .ref q_6, .ref q_8, .int 0, .int 0, .ref q_9, .int 0, .int 0])), (q_1, .inl (cy 4, 15, .inr (.inr (.inr (.inr (fun _ => none)))))), (q_10, .inr (1, [.null, .null, .null]))] := hD
  refine W.widen (k := 52) (n := 355) (Nat.le_of_ble_eq_true rfl) (Nat.le_of_ble_eq_true rfl) ?_
  refine lv_dup hx hb dX6_init_127 rfl ?_
  refine gz_aftv (va_runI (As := []) (rest := [.ref q_10, .int 0, .ref q_1]) ⟨hx, hb, hml, hown, hts⟩ (c_X1_init l G cy H.size q_10 ) ⟨(gz_cb (n := 0) hts gm_242 gm_7 gm_117 ⟨by decide +kernel, by decide +kernel, by decide +kernel⟩ ⟨Nat.le_of_ble_eq_true rfl, Nat.le_of_ble_eq_true rfl⟩), rfl, hts _ gm_116⟩ (gz_preS hK hov hP hD [2] (by decide) rfl) rfl rfl hl.1 rfl (lv_room (Nat.le_of_ble_eq_true rfl)) dX6_init_128 ⟨Nat.le_of_ble_eq_true rfl, Nat.le_of_ble_eq_true rfl⟩) hP hD hS hA [2] [0, 1] rfl rfl (by decide) (by decide) (fun u_11 H locs hw_11 hP hD hS => ?_)
  have hP : va_P G vwCl [(h0, .inr (6, [.ref h1, .ref h2, .ref h3, .ref h4, .int 0, .ref q_1, .ref q_2, .ref q_4, .ref q_6, .ref q_8, .int 0, .int 0, .ref q_9, .int 0, .int 0])), (q_1, .inl (cy 4, 15, .inr (.inr (.inr (.inr (fun _ => none)))))), (q_10, .inr (1, [.ref (u_11 0), .ref (u_11 1), .ref (u_11 2)])), ((u_11 0), .inl (cy 0, 6, .inl (fun _ => 0))), ((u_11 1), .inl (cy 0, 6, .inl (fun _ => (-1)))), ((u_11 2), .inl (cy 0, 6, .inl (fun _ => (-1))))] H := hP
  have hD : va_D A [(h0, .inr (6, [.ref h1, .ref h2, .ref h3, .ref h4, .int 0, .ref q_1, .ref q_2, .ref q_4, .ref q_6, .ref q_8, .int 0, .int 0, .ref q_9, .int 0, .int 0])), (q_1, .inl (cy 4, 15, .inr (.inr (.inr (.inr (fun _ => none)))))), (q_10, .inr (1, [.ref (u_11 0), .ref (u_11 1), .ref (u_11 2)])), ((u_11 0), .inl (cy 0, 6, .inl (fun _ => 0))), ((u_11 1), .inl (cy 0, 6, .inl (fun _ => (-1)))), ((u_11 2), .inl (cy 0, 6, .inl (fun _ => (-1))))] := hD
  refine W.widen (k := 55) (n := 373) (Nat.le_of_ble_eq_true rfl) (Nat.le_of_ble_eq_true rfl) ?_
  refine va_astq hx hb hK hP hD hS 1 4 2 1 rfl rfl rfl rfl (vp_in_iff.mpr (by decide)) dX6_init_131 (fun H locs hP hD hS => ?_)
  obtain ⟨f_12, ef_12⟩ : ∃ g : Nat → Option Nat, g = va_up (fun _ => none) (0 : Int32).toNatClampNeg (some q_10) := ⟨_, rfl⟩
  have hP : va_P G vwCl [(h0, .inr (6, [.ref h1, .ref h2, .ref h3, .ref h4, .int 0, .ref q_1, .ref q_2, .ref q_4, .ref q_6, .ref q_8, .int 0, .int 0, .ref q_9, .int 0, .int 0])), (q_1, .inl (cy 4, 15, .inr (.inr (.inr (.inr f_12))))), (q_10, .inr (1, [.ref (u_11 0), .ref (u_11 1), .ref (u_11 2)])), ((u_11 0), .inl (cy 0, 6, .inl (fun _ => 0))), ((u_11 1), .inl (cy 0, 6, .inl (fun _ => (-1)))), ((u_11 2), .inl (cy 0, 6, .inl (fun _ => (-1))))] H := ef_12 ▸ hP
  have hD : va_D A [(h0, .inr (6, [.ref h1, .ref h2, .ref h3, .ref h4, .int 0, .ref q_1, .ref q_2, .ref q_4, .ref q_6, .ref q_8, .int 0, .int 0, .ref q_9, .int 0, .int 0])), (q_1, .inl (cy 4, 15, .inr (.inr (.inr (.inr f_12))))), (q_10, .inr (1, [.ref (u_11 0), .ref (u_11 1), .ref (u_11 2)])), ((u_11 0), .inl (cy 0, 6, .inl (fun _ => 0))), ((u_11 1), .inl (cy 0, 6, .inl (fun _ => (-1)))), ((u_11 2), .inl (cy 0, 6, .inl (fun _ => (-1))))] := ef_12 ▸ hD
  have hP : va_P G vwCl [(h0, .inr (6, [.ref h1, .ref h2, .ref h3, .ref h4, .int 0, .ref q_1, .ref q_2, .ref q_4, .ref q_6, .ref q_8, .int 0, .int 0, .ref q_9, .int 0, .int 0])), (q_1, .inl (cy 4, 15, .inr (.inr (.inr (.inr f_12)))))] H := hP.sub [0, 1] rfl
  have hD : va_D A [(h0, .inr (6, [.ref h1, .ref h2, .ref h3, .ref h4, .int 0, .ref q_1, .ref q_2, .ref q_4, .ref q_6, .ref q_8, .int 0, .int 0, .ref q_9, .int 0, .int 0])), (q_1, .inl (cy 4, 15, .inr (.inr (.inr (.inr f_12)))))] := hD.sub [0, 1] (by decide) rfl
  refine lv_iinc (v := (1)) (lv' := [(5, .int 1), (0, .ref h0), (1, .ref h1), (2, .ref h2), (3, .ref h3), (4, .ref h4)]) hx hb dX6_init_132 hl (k := 0) rfl (by decide) (by decide) rfl (fun ls hl => ?_)
  refine lv_goto (tgt := 111) hx hb dX6_init_135 (by decide) ?_
  refine lv_iload hx hb dX6_init_111 (lv_at hl 0 rfl) ?_
  refine lv_bipush (v := 14) hx hb dX6_init_113 (by decide) ?_
  refine lv_icmp_gt (tgt := 138) hx hb dX6_init_115 (by decide) (fun h9 => absurd h9 (by decide)) (fun _ => ?_)
  refine lv_aload_n hx hb dX6_init_118 rfl (lv_at hl 1 rfl) ?_
  refine va_get (ci := 6) (v := .ref q_1) (C := RX6) (T := TX6) (N := 15) hx hb hts inX6 hown hK hP 0 rfl rfl 5 (by decide) (hts _ gm_248) (fun _ h9 => h9) rfl dX6_init_119 ?_
  refine lv_iload hx hb dX6_init_122 (lv_at hl 0 rfl) ?_
  refine va_new (ci := 1) (fs := [.null, .null, .null]) (C := RX1) (T := TX1) (N := 3) hx hb hts inX1 tyX1 tyX1_ok hown (hts _ gm_239) (hts _ gm_114) (hts _ gm_7) hK hP hD hS hA rfl dfX1 (Nat.le_of_ble_eq_true rfl) (Nat.le_of_ble_eq_true rfl) dX6_init_124 (fun q_13 H hP hD hS => ?_)
  have hP : va_P G vwCl [(h0, .inr (6, [.ref h1, .ref h2, .ref h3, .ref h4, .int 0, .ref q_1, .ref q_2, .ref q_4, .ref q_6, .ref q_8, .int 0, .int 0, .ref q_9, .int 0, .int 0])), (q_1, .inl (cy 4, 15, .inr (.inr (.inr (.inr f_12))))), (q_13, .inr (1, [.null, .null, .null]))] H := hP
  have hD : va_D A [(h0, .inr (6, [.ref h1, .ref h2, .ref h3, .ref h4, .int 0, .ref q_1, .ref q_2, .ref q_4, .ref q_6, .ref q_8, .int 0, .int 0, .ref q_9, .int 0, .int 0])), (q_1, .inl (cy 4, 15, .inr (.inr (.inr (.inr f_12))))), (q_13, .inr (1, [.null, .null, .null]))] := hD
  refine W.widen (k := 56) (n := 376) (Nat.le_of_ble_eq_true rfl) (Nat.le_of_ble_eq_true rfl) ?_
  refine lv_dup hx hb dX6_init_127 rfl ?_
  refine gz_aftv (va_runI (As := []) (rest := [.ref q_13, .int 1, .ref q_1]) ⟨hx, hb, hml, hown, hts⟩ (c_X1_init l G cy H.size q_13 ) ⟨(gz_cb (n := 0) hts gm_242 gm_7 gm_117 ⟨by decide +kernel, by decide +kernel, by decide +kernel⟩ ⟨Nat.le_of_ble_eq_true rfl, Nat.le_of_ble_eq_true rfl⟩), rfl, hts _ gm_116⟩ (gz_preS hK hov hP hD [2] (by decide) rfl) rfl rfl hl.1 rfl (lv_room (Nat.le_of_ble_eq_true rfl)) dX6_init_128 ⟨Nat.le_of_ble_eq_true rfl, Nat.le_of_ble_eq_true rfl⟩) hP hD hS hA [2] [0, 1] rfl rfl (by decide) (by decide) (fun u_14 H locs hw_14 hP hD hS => ?_)
  have hP : va_P G vwCl [(h0, .inr (6, [.ref h1, .ref h2, .ref h3, .ref h4, .int 0, .ref q_1, .ref q_2, .ref q_4, .ref q_6, .ref q_8, .int 0, .int 0, .ref q_9, .int 0, .int 0])), (q_1, .inl (cy 4, 15, .inr (.inr (.inr (.inr f_12))))), (q_13, .inr (1, [.ref (u_14 0), .ref (u_14 1), .ref (u_14 2)])), ((u_14 0), .inl (cy 0, 6, .inl (fun _ => 0))), ((u_14 1), .inl (cy 0, 6, .inl (fun _ => (-1)))), ((u_14 2), .inl (cy 0, 6, .inl (fun _ => (-1))))] H := hP
  have hD : va_D A [(h0, .inr (6, [.ref h1, .ref h2, .ref h3, .ref h4, .int 0, .ref q_1, .ref q_2, .ref q_4, .ref q_6, .ref q_8, .int 0, .int 0, .ref q_9, .int 0, .int 0])), (q_1, .inl (cy 4, 15, .inr (.inr (.inr (.inr f_12))))), (q_13, .inr (1, [.ref (u_14 0), .ref (u_14 1), .ref (u_14 2)])), ((u_14 0), .inl (cy 0, 6, .inl (fun _ => 0))), ((u_14 1), .inl (cy 0, 6, .inl (fun _ => (-1)))), ((u_14 2), .inl (cy 0, 6, .inl (fun _ => (-1))))] := hD
  refine W.widen (k := 59) (n := 394) (Nat.le_of_ble_eq_true rfl) (Nat.le_of_ble_eq_true rfl) ?_
  refine va_astq hx hb hK hP hD hS 1 4 2 1 rfl rfl rfl rfl (vp_in_iff.mpr (by decide)) dX6_init_131 (fun H locs hP hD hS => ?_)
  obtain ⟨f_15, ef_15⟩ : ∃ g : Nat → Option Nat, g = va_up f_12 (1 : Int32).toNatClampNeg (some q_13) := ⟨_, rfl⟩
  have hP : va_P G vwCl [(h0, .inr (6, [.ref h1, .ref h2, .ref h3, .ref h4, .int 0, .ref q_1, .ref q_2, .ref q_4, .ref q_6, .ref q_8, .int 0, .int 0, .ref q_9, .int 0, .int 0])), (q_1, .inl (cy 4, 15, .inr (.inr (.inr (.inr f_15))))), (q_13, .inr (1, [.ref (u_14 0), .ref (u_14 1), .ref (u_14 2)])), ((u_14 0), .inl (cy 0, 6, .inl (fun _ => 0))), ((u_14 1), .inl (cy 0, 6, .inl (fun _ => (-1)))), ((u_14 2), .inl (cy 0, 6, .inl (fun _ => (-1))))] H := ef_15 ▸ hP
  have hD : va_D A [(h0, .inr (6, [.ref h1, .ref h2, .ref h3, .ref h4, .int 0, .ref q_1, .ref q_2, .ref q_4, .ref q_6, .ref q_8, .int 0, .int 0, .ref q_9, .int 0, .int 0])), (q_1, .inl (cy 4, 15, .inr (.inr (.inr (.inr f_15))))), (q_13, .inr (1, [.ref (u_14 0), .ref (u_14 1), .ref (u_14 2)])), ((u_14 0), .inl (cy 0, 6, .inl (fun _ => 0))), ((u_14 1), .inl (cy 0, 6, .inl (fun _ => (-1)))), ((u_14 2), .inl (cy 0, 6, .inl (fun _ => (-1))))] := ef_15 ▸ hD
  have hP : va_P G vwCl [(h0, .inr (6, [.ref h1, .ref h2, .ref h3, .ref h4, .int 0, .ref q_1, .ref q_2, .ref q_4, .ref q_6, .ref q_8, .int 0, .int 0, .ref q_9, .int 0, .int 0])), (q_1, .inl (cy 4, 15, .inr (.inr (.inr (.inr f_15)))))] H := hP.sub [0, 1] rfl
  have hD : va_D A [(h0, .inr (6, [.ref h1, .ref h2, .ref h3, .ref h4, .int 0, .ref q_1, .ref q_2, .ref q_4, .ref q_6, .ref q_8, .int 0, .int 0, .ref q_9, .int 0, .int 0])), (q_1, .inl (cy 4, 15, .inr (.inr (.inr (.inr f_15)))))] := hD.sub [0, 1] (by decide) rfl
  refine lv_iinc (v := (2)) (lv' := [(5, .int 2), (0, .ref h0), (1, .ref h1), (2, .ref h2), (3, .ref h3), (4, .ref h4)]) hx hb dX6_init_132 hl (k := 0) rfl (by decide) (by decide) rfl (fun ls hl => ?_)
  refine lv_goto (tgt := 111) hx hb dX6_init_135 (by decide) ?_
  refine lv_iload hx hb dX6_init_111 (lv_at hl 0 rfl) ?_
  refine lv_bipush (v := 14) hx hb dX6_init_113 (by decide) ?_
  refine lv_icmp_gt (tgt := 138) hx hb dX6_init_115 (by decide) (fun h9 => absurd h9 (by decide)) (fun _ => ?_)
  refine lv_aload_n hx hb dX6_init_118 rfl (lv_at hl 1 rfl) ?_
  refine va_get (ci := 6) (v := .ref q_1) (C := RX6) (T := TX6) (N := 15) hx hb hts inX6 hown hK hP 0 rfl rfl 5 (by decide) (hts _ gm_248) (fun _ h9 => h9) rfl dX6_init_119 ?_
  refine lv_iload hx hb dX6_init_122 (lv_at hl 0 rfl) ?_
  refine va_new (ci := 1) (fs := [.null, .null, .null]) (C := RX1) (T := TX1) (N := 3) hx hb hts inX1 tyX1 tyX1_ok hown (hts _ gm_239) (hts _ gm_114) (hts _ gm_7) hK hP hD hS hA rfl dfX1 (Nat.le_of_ble_eq_true rfl) (Nat.le_of_ble_eq_true rfl) dX6_init_124 (fun q_16 H hP hD hS => ?_)
  have hP : va_P G vwCl [(h0, .inr (6, [.ref h1, .ref h2, .ref h3, .ref h4, .int 0, .ref q_1, .ref q_2, .ref q_4, .ref q_6, .ref q_8, .int 0, .int 0, .ref q_9, .int 0, .int 0])), (q_1, .inl (cy 4, 15, .inr (.inr (.inr (.inr f_15))))), (q_16, .inr (1, [.null, .null, .null]))] H := hP
  have hD : va_D A [(h0, .inr (6, [.ref h1, .ref h2, .ref h3, .ref h4, .int 0, .ref q_1, .ref q_2, .ref q_4, .ref q_6, .ref q_8, .int 0, .int 0, .ref q_9, .int 0, .int 0])), (q_1, .inl (cy 4, 15, .inr (.inr (.inr (.inr f_15))))), (q_16, .inr (1, [.null, .null, .null]))] := hD
  refine W.widen (k := 60) (n := 397) (Nat.le_of_ble_eq_true rfl) (Nat.le_of_ble_eq_true rfl) ?_
  refine lv_dup hx hb dX6_init_127 rfl ?_
  refine gz_aftv (va_runI (As := []) (rest := [.ref q_16, .int 2, .ref q_1]) ⟨hx, hb, hml, hown, hts⟩ (c_X1_init l G cy H.size q_16 ) ⟨(gz_cb (n := 0) hts gm_242 gm_7 gm_117 ⟨by decide +kernel, by decide +kernel, by decide +kernel⟩ ⟨Nat.le_of_ble_eq_true rfl, Nat.le_of_ble_eq_true rfl⟩), rfl, hts _ gm_116⟩ (gz_preS hK hov hP hD [2] (by decide) rfl) rfl rfl hl.1 rfl (lv_room (Nat.le_of_ble_eq_true rfl)) dX6_init_128 ⟨Nat.le_of_ble_eq_true rfl, Nat.le_of_ble_eq_true rfl⟩) hP hD hS hA [2] [0, 1] rfl rfl (by decide) (by decide) (fun u_17 H locs hw_17 hP hD hS => ?_)
  have hP : va_P G vwCl [(h0, .inr (6, [.ref h1, .ref h2, .ref h3, .ref h4, .int 0, .ref q_1, .ref q_2, .ref q_4, .ref q_6, .ref q_8, .int 0, .int 0, .ref q_9, .int 0, .int 0])), (q_1, .inl (cy 4, 15, .inr (.inr (.inr (.inr f_15))))), (q_16, .inr (1, [.ref (u_17 0), .ref (u_17 1), .ref (u_17 2)])), ((u_17 0), .inl (cy 0, 6, .inl (fun _ => 0))), ((u_17 1), .inl (cy 0, 6, .inl (fun _ => (-1)))), ((u_17 2), .inl (cy 0, 6, .inl (fun _ => (-1))))] H := hP
  have hD : va_D A [(h0, .inr (6, [.ref h1, .ref h2, .ref h3, .ref h4, .int 0, .ref q_1, .ref q_2, .ref q_4, .ref q_6, .ref q_8, .int 0, .int 0, .ref q_9, .int 0, .int 0])), (q_1, .inl (cy 4, 15, .inr (.inr (.inr (.inr f_15))))), (q_16, .inr (1, [.ref (u_17 0), .ref (u_17 1), .ref (u_17 2)])), ((u_17 0), .inl (cy 0, 6, .inl (fun _ => 0))), ((u_17 1), .inl (cy 0, 6, .inl (fun _ => (-1)))), ((u_17 2), .inl (cy 0, 6, .inl (fun _ => (-1))))] := hD
  refine W.widen (k := 63) (n := 415) (Nat.le_of_ble_eq_true rfl) (Nat.le_of_ble_eq_true rfl) ?_
  refine va_astq hx hb hK hP hD hS 1 4 2 1 rfl rfl rfl rfl (vp_in_iff.mpr (by decide)) dX6_init_131 (fun H locs hP hD hS => ?_)
  obtain ⟨f_18, ef_18⟩ : ∃ g : Nat → Option Nat, g = va_up f_15 (2 : Int32).toNatClampNeg (some q_16) := ⟨_, rfl⟩
  have hP : va_P G vwCl [(h0, .inr (6, [.ref h1, .ref h2, .ref h3, .ref h4, .int 0, .ref q_1, .ref q_2, .ref q_4, .ref q_6, .ref q_8, .int 0, .int 0, .ref q_9, .int 0, .int 0])), (q_1, .inl (cy 4, 15, .inr (.inr (.inr (.inr f_18))))), (q_16, .inr (1, [.ref (u_17 0), .ref (u_17 1), .ref (u_17 2)])), ((u_17 0), .inl (cy 0, 6, .inl (fun _ => 0))), ((u_17 1), .inl (cy 0, 6, .inl (fun _ => (-1)))), ((u_17 2), .inl (cy 0, 6, .inl (fun _ => (-1))))] H := ef_18 ▸ hP
  have hD : va_D A [(h0, .inr (6, [.ref h1, .ref h2, .ref h3, .ref h4, .int 0, .ref q_1, .ref q_2, .ref q_4, .ref q_6, .ref q_8, .int 0, .int 0, .ref q_9, .int 0, .int 0])), (q_1, .inl (cy 4, 15, .inr (.inr (.inr (.inr f_18))))), (q_16, .inr (1, [.ref (u_17 0), .ref (u_17 1), .ref (u_17 2)])), ((u_17 0), .inl (cy 0, 6, .inl (fun _ => 0))), ((u_17 1), .inl (cy 0, 6, .inl (fun _ => (-1)))), ((u_17 2), .inl (cy 0, 6, .inl (fun _ => (-1))))] := ef_18 ▸ hD
  have hP : va_P G vwCl [(h0, .inr (6, [.ref h1, .ref h2, .ref h3, .ref h4, .int 0, .ref q_1, .ref q_2, .ref q_4, .ref q_6, .ref q_8, .int 0, .int 0, .ref q_9, .int 0, .int 0])), (q_1, .inl (cy 4, 15, .inr (.inr (.inr (.inr f_18)))))] H := hP.sub [0, 1] rfl
  have hD : va_D A [(h0, .inr (6, [.ref h1, .ref h2, .ref h3, .ref h4, .int 0, .ref q_1, .ref q_2, .ref q_4, .ref q_6, .ref q_8, .int 0, .int 0, .ref q_9, .int 0, .int 0])), (q_1, .inl (cy 4, 15, .inr (.inr (.inr (.inr f_18)))))] := hD.sub [0, 1] (by decide) rfl
  refine lv_iinc (v := (3)) (lv' := [(5, .int 3), (0, .ref h0), (1, .ref h1), (2, .ref h2), (3, .ref h3), (4, .ref h4)]) hx hb dX6_init_132 hl (k := 0) rfl (by decide) (by decide) rfl (fun ls hl => ?_)
  refine lv_goto (tgt := 111) hx hb dX6_init_135 (by decide) ?_
  refine lv_iload hx hb dX6_init_111 (lv_at hl 0 rfl) ?_
  refine lv_bipush (v := 14) hx hb dX6_init_113 (by decide) ?_
  refine lv_icmp_gt (tgt := 138) hx hb dX6_init_115 (by decide) (fun h9 => absurd h9 (by decide)) (fun _ => ?_)
  refine lv_aload_n hx hb dX6_init_118 rfl (lv_at hl 1 rfl) ?_
  refine va_get (ci := 6) (v := .ref q_1) (C := RX6) (T := TX6) (N := 15) hx hb hts inX6 hown hK hP 0 rfl rfl 5 (by decide) (hts _ gm_248) (fun _ h9 => h9) rfl dX6_init_119 ?_
  refine lv_iload hx hb dX6_init_122 (lv_at hl 0 rfl) ?_
  refine va_new (ci := 1) (fs := [.null, .null, .null]) (C := RX1) (T := TX1) (N := 3) hx hb hts inX1 tyX1 tyX1_ok hown (hts _ gm_239) (hts _ gm_114) (hts _ gm_7) hK hP hD hS hA rfl dfX1 (Nat.le_of_ble_eq_true rfl) (Nat.le_of_ble_eq_true rfl) dX6_init_124 (fun q_19 H hP hD hS => ?_)
  have hP : va_P G vwCl [(h0, .inr (6, [.ref h1, .ref h2, .ref h3, .ref h4, .int 0, .ref q_1, .ref q_2, .ref q_4, .ref q_6, .ref q_8, .int 0, .int 0, .ref q_9, .int 0, .int 0])), (q_1, .inl (cy 4, 15, .inr (.inr (.inr (.inr f_18))))), (q_19, .inr (1, [.null, .null, .null]))] H := hP
  have hD : va_D A [(h0, .inr (6, [.ref h1, .ref h2, .ref h3, .ref h4, .int 0, .ref q_1, .ref q_2, .ref q_4, .ref q_6, .ref q_8, .int 0, .int 0, .ref q_9, .int 0, .int 0])), (q_1, .inl (cy 4, 15, .inr (.inr (.inr (.inr f_18))))), (q_19, .inr (1, [.null, .null, .null]))] := hD
  refine W.widen (k := 64) (n := 418) (Nat.le_of_ble_eq_true rfl) (Nat.le_of_ble_eq_true rfl) ?_
  refine lv_dup hx hb dX6_init_127 rfl ?_
  refine gz_aftv (va_runI (As := []) (rest := [.ref q_19, .int 3, .ref q_1]) ⟨hx, hb, hml, hown, hts⟩ (c_X1_init l G cy H.size q_19 ) ⟨(gz_cb (n := 0) hts gm_242 gm_7 gm_117 ⟨by decide +kernel, by decide +kernel, by decide +kernel⟩ ⟨Nat.le_of_ble_eq_true rfl, Nat.le_of_ble_eq_true rfl⟩), rfl, hts _ gm_116⟩ (gz_preS hK hov hP hD [2] (by decide) rfl) rfl rfl hl.1 rfl (lv_room (Nat.le_of_ble_eq_true rfl)) dX6_init_128 ⟨Nat.le_of_ble_eq_true rfl, Nat.le_of_ble_eq_true rfl⟩) hP hD hS hA [2] [0, 1] rfl rfl (by decide) (by decide) (fun u_20 H locs hw_20 hP hD hS => ?_)
  have hP : va_P G vwCl [(h0, .inr (6, [.ref h1, .ref h2, .ref h3, .ref h4, .int 0, .ref q_1, .ref q_2, .ref q_4, .ref q_6, .ref q_8, .int 0, .int 0, .ref q_9, .int 0, .int 0])), (q_1, .inl (cy 4, 15, .inr (.inr (.inr (.inr f_18))))), (q_19, .inr (1, [.ref (u_20 0), .ref (u_20 1), .ref (u_20 2)])), ((u_20 0), .inl (cy 0, 6, .inl (fun _ => 0))), ((u_20 1), .inl (cy 0, 6, .inl (fun _ => (-1)))), ((u_20 2), .inl (cy 0, 6, .inl (fun _ => (-1))))] H := hP
  have hD : va_D A [(h0, .inr (6, [.ref h1, .ref h2, .ref h3, .ref h4, .int 0, .ref q_1, .ref q_2, .ref q_4, .ref q_6, .ref q_8, .int 0, .int 0, .ref q_9, .int 0, .int 0])), (q_1, .inl (cy 4, 15, .inr (.inr (.inr (.inr f_18))))), (q_19, .inr (1, [.ref (u_20 0), .ref (u_20 1), .ref (u_20 2)])), ((u_20 0), .inl (cy 0, 6, .inl (fun _ => 0))), ((u_20 1), .inl (cy 0, 6, .inl (fun _ => (-1)))), ((u_20 2), .inl (cy 0, 6, .inl (fun _ => (-1))))] := hD
  refine W.widen (k := 67) (n := 436) (Nat.le_of_ble_eq_true rfl) (Nat.le_of_ble_eq_true rfl) ?_
  refine va_astq hx hb hK hP hD hS 1 4 2 1 rfl rfl rfl rfl (vp_in_iff.mpr (by decide)) dX6_init_131 (fun H locs hP hD hS => ?_)
  obtain ⟨f_21, ef_21⟩ : ∃ g : Nat → Option Nat, g = va_up f_18 (3 : Int32).toNatClampNeg (some q_19) := ⟨_, rfl⟩
  have hP : va_P G vwCl [(h0, .inr (6, [.ref h1, .ref h2, .ref h3, .ref h4, .int 0, .ref q_1, .ref q_2, .ref q_4, .ref q_6, .ref q_8, .int 0, .int 0, .ref q_9, .int 0, .int 0])), (q_1, .inl (cy 4, 15, .inr (.inr (.inr (.inr f_21))))), (q_19, .inr (1, [.ref (u_20 0), .ref (u_20 1), .ref (u_20 2)])), ((u_20 0), .inl (cy 0, 6, .inl (fun _ => 0))), ((u_20 1), .inl (cy 0, 6, .inl (fun _ => (-1)))), ((u_20 2), .inl (cy 0, 6, .inl (fun _ => (-1))))] H := ef_21 ▸ hP
  have hD : va_D A [(h0, .inr (6, [.ref h1, .ref h2, .ref h3, .ref h4, .int 0, .ref q_1, .ref q_2, .ref q_4, .ref q_6, .ref q_8, .int 0, .int 0, .ref q_9, .int 0, .int 0])), (q_1, .inl (cy 4, 15, .inr (.inr (.inr (.inr f_21))))), (q_19, .inr (1, [.ref (u_20 0), .ref (u_20 1), .ref (u_20 2)])), ((u_20 0), .inl (cy 0, 6, .inl (fun _ => 0))), ((u_20 1), .inl (cy 0, 6, .inl (fun _ => (-1)))), ((u_20 2), .inl (cy 0, 6, .inl (fun _ => (-1))))] := ef_21 ▸ hD
  have hP : va_P G vwCl [(h0, .inr (6, [.ref h1, .ref h2, .ref h3, .ref h4, .int 0, .ref q_1, .ref q_2, .ref q_4, .ref q_6, .ref q_8, .int 0, .int 0, .ref q_9, .int 0, .int 0])), (q_1, .inl (cy 4, 15, .inr (.inr (.inr (.inr f_21)))))] H := hP.sub [0, 1] rfl
  have hD : va_D A [(h0, .inr (6, [.ref h1, .ref h2, .ref h3, .ref h4, .int 0, .ref q_1, .ref q_2, .ref q_4, .ref q_6, .ref q_8, .int 0, .int 0, .ref q_9, .int 0, .int 0])), (q_1, .inl (cy 4, 15, .inr (.inr (.inr (.inr f_21)))))] := hD.sub [0, 1] (by decide) rfl
  refine lv_iinc (v := (4)) (lv' := [(5, .int 4), (0, .ref h0), (1, .ref h1), (2, .ref h2), (3, .ref h3), (4, .ref h4)]) hx hb dX6_init_132 hl (k := 0) rfl (by decide) (by decide) rfl (fun ls hl => ?_)
  refine lv_goto (tgt := 111) hx hb dX6_init_135 (by decide) ?_
  refine lv_iload hx hb dX6_init_111 (lv_at hl 0 rfl) ?_
  refine lv_bipush (v := 14) hx hb dX6_init_113 (by decide) ?_
  refine lv_icmp_gt (tgt := 138) hx hb dX6_init_115 (by decide) (fun h9 => absurd h9 (by decide)) (fun _ => ?_)
  refine lv_aload_n hx hb dX6_init_118 rfl (lv_at hl 1 rfl) ?_
  refine va_get (ci := 6) (v := .ref q_1) (C := RX6) (T := TX6) (N := 15) hx hb hts inX6 hown hK hP 0 rfl rfl 5 (by decide) (hts _ gm_248) (fun _ h9 => h9) rfl dX6_init_119 ?_
  refine lv_iload hx hb dX6_init_122 (lv_at hl 0 rfl) ?_
  refine va_new (ci := 1) (fs := [.null, .null, .null]) (C := RX1) (T := TX1) (N := 3) hx hb hts inX1 tyX1 tyX1_ok hown (hts _ gm_239) (hts _ gm_114) (hts _ gm_7) hK hP hD hS hA rfl dfX1 (Nat.le_of_ble_eq_true rfl) (Nat.le_of_ble_eq_true rfl) dX6_init_124 (fun q_22 H hP hD hS => ?_)
  have hP : va_P G vwCl [(h0, .inr (6, [.ref h1, .ref h2, .ref h3, .ref h4, .int 0, .ref q_1, .ref q_2, .ref q_4, .ref q_6, .ref q_8, .int 0, .int 0, .ref q_9, .int 0, .int 0])), (q_1, .inl (cy 4, 15, .inr (.inr (.inr (.inr f_21))))), (q_22, .inr (1, [.null, .null, .null]))] H := hP
  have hD : va_D A [(h0, .inr (6, [.ref h1, .ref h2, .ref h3, .ref h4, .int 0, .ref q_1, .ref q_2, .ref q_4, .ref q_6, .ref q_8, .int 0, .int 0, .ref q_9, .int 0, .int 0])), (q_1, .inl (cy 4, 15, .inr (.inr (.inr (.inr f_21))))), (q_22, .inr (1, [.null, .null, .null]))] := hD
  refine W.widen (k := 68) (n := 439) (Nat.le_of_ble_eq_true rfl) (Nat.le_of_ble_eq_true rfl) ?_
  refine lv_dup hx hb dX6_init_127 rfl ?_
  refine gz_aftv (va_runI (As := []) (rest := [.ref q_22, .int 4, .ref q_1]) ⟨hx, hb, hml, hown, hts⟩ (c_X1_init l G cy H.size q_22 ) ⟨(gz_cb (n := 0) hts gm_242 gm_7 gm_117 ⟨by decide +kernel, by decide +kernel, by decide +kernel⟩ ⟨Nat.le_of_ble_eq_true rfl, Nat.le_of_ble_eq_true rfl⟩), rfl, hts _ gm_116⟩ (gz_preS hK hov hP hD [2] (by decide) rfl) rfl rfl hl.1 rfl (lv_room (Nat.le_of_ble_eq_true rfl)) dX6_init_128 ⟨Nat.le_of_ble_eq_true rfl, Nat.le_of_ble_eq_true rfl⟩) hP hD hS hA [2] [0, 1] rfl rfl (by decide) (by decide) (fun u_23 H locs hw_23 hP hD hS => ?_)
  have hP : va_P G vwCl [(h0, .inr (6, [.ref h1, .ref h2, .ref h3, .ref h4, .int 0, .ref q_1, .ref q_2, .ref q_4, .ref q_6, .ref q_8, .int 0, .int 0, .ref q_9, .int 0, .int 0])), (q_1, .inl (cy 4, 15, .inr (.inr (.inr (.inr f_21))))), (q_22, .inr (1, [.ref (u_23 0), .ref (u_23 1), .ref (u_23 2)])), ((u_23 0), .inl (cy 0, 6, .inl (fun _ => 0))), ((u_23 1), .inl (cy 0, 6, .inl (fun _ => (-1)))), ((u_23 2), .inl (cy 0, 6, .inl (fun _ => (-1))))] H := hP
  have hD : va_D A [(h0, .inr (6, [.ref h1, .ref h2, .ref h3, .ref h4, .int 0, .ref q_1, .ref q_2, .ref q_4, .ref q_6, .ref q_8, .int 0, .int 0, .ref q_9, .int 0, .int 0])), (q_1, .inl (cy 4, 15, .inr (.inr (.inr (.inr f_21))))), (q_22, .inr (1, [.ref (u_23 0), .ref (u_23 1), .ref (u_23 2)])), ((u_23 0), .inl (cy 0, 6, .inl (fun _ => 0))), ((u_23 1), .inl (cy 0, 6, .inl (fun _ => (-1)))), ((u_23 2), .inl (cy 0, 6, .inl (fun _ => (-1))))] := hD
  refine W.widen (k := 71) (n := 457) (Nat.le_of_ble_eq_true rfl) (Nat.le_of_ble_eq_true rfl) ?_
  refine va_astq hx hb hK hP hD hS 1 4 2 1 rfl rfl rfl rfl (vp_in_iff.mpr (by decide)) dX6_init_131 (fun H locs hP hD hS => ?_)
  obtain ⟨f_24, ef_24⟩ : ∃ g : Nat → Option Nat, g = va_up f_21 (4 : Int32).toNatClampNeg (some q_22) := ⟨_, rfl⟩
  have hP : va_P G vwCl [(h0, .inr (6, [.ref h1, .ref h2, .ref h3, .ref h4, .int 0, .ref q_1, .ref q_2, .ref q_4, .ref q_6, .ref q_8, .int 0, .int 0, .ref q_9, .int 0, .int 0])), (q_1, .inl (cy 4, 15, .inr (.inr (.inr (.inr f_24))))), (q_22, .inr (1, [.ref (u_23 0), .ref (u_23 1), .ref (u_23 2)])), ((u_23 0), .inl (cy 0, 6, .inl (fun _ => 0))), ((u_23 1), .inl (cy 0, 6, .inl (fun _ => (-1)))), ((u_23 2), .inl (cy 0, 6, .inl (fun _ => (-1))))] H := ef_24 ▸ hP
  have hD : va_D A [(h0, .inr (6, [.ref h1, .ref h2, .ref h3, .ref h4, .int 0, .ref q_1, .ref q_2, .ref q_4, .ref q_6, .ref q_8, .int 0, .int 0, .ref q_9, .int 0, .int 0])), (q_1, .inl (cy 4, 15, .inr (.inr (.inr (.inr f_24))))), (q_22, .inr (1, [.ref (u_23 0), .ref (u_23 1), .ref (u_23 2)])), ((u_23 0), .inl (cy 0, 6, .inl (fun _ => 0))), ((u_23 1), .inl (cy 0, 6, .inl (fun _ => (-1)))), ((u_23 2), .inl (cy 0, 6, .inl (fun _ => (-1))))] := ef_24 ▸ hD
  have hP : va_P G vwCl [(h0, .inr (6, [.ref h1, .ref h2, .ref h3, .ref h4, .int 0, .ref q_1, .ref q_2, .ref q_4, .ref q_6, .ref q_8, .int 0, .int 0, .ref q_9, .int 0, .int 0])), (q_1, .inl (cy 4, 15, .inr (.inr (.inr (.inr f_24)))))] H := hP.sub [0, 1] rfl
  have hD : va_D A [(h0, .inr (6, [.ref h1, .ref h2, .ref h3, .ref h4, .int 0, .ref q_1, .ref q_2, .ref q_4, .ref q_6, .ref q_8, .int 0, .int 0, .ref q_9, .int 0, .int 0])), (q_1, .inl (cy 4, 15, .inr (.inr (.inr (.inr f_24)))))] := hD.sub [0, 1] (by decide) rfl
  refine lv_iinc (v := (5)) (lv' := [(5, .int 5), (0, .ref h0), (1, .ref h1), (2, .ref h2), (3, .ref h3), (4, .ref h4)]) hx hb dX6_init_132 hl (k := 0) rfl (by decide) (by decide) rfl (fun ls hl => ?_)
  refine lv_goto (tgt := 111) hx hb dX6_init_135 (by decide) ?_
  refine lv_iload hx hb dX6_init_111 (lv_at hl 0 rfl) ?_
  refine lv_bipush (v := 14) hx hb dX6_init_113 (by decide) ?_
  refine lv_icmp_gt (tgt := 138) hx hb dX6_init_115 (by decide) (fun h9 => absurd h9 (by decide)) (fun _ => ?_)
  refine lv_aload_n hx hb dX6_init_118 rfl (lv_at hl 1 rfl) ?_
  refine va_get (ci := 6) (v := .ref q_1) (C := RX6) (T := TX6) (N := 15) hx hb hts inX6 hown hK hP 0 rfl rfl 5 (by decide) (hts _ gm_248) (fun _ h9 => h9) rfl dX6_init_119 ?_
  refine lv_iload hx hb dX6_init_122 (lv_at hl 0 rfl) ?_
  refine va_new (ci := 1) (fs := [.null, .null, .null]) (C := RX1) (T := TX1) (N := 3) hx hb hts inX1 tyX1 tyX1_ok hown (hts _ gm_239) (hts _ gm_114) (hts _ gm_7) hK hP hD hS hA rfl dfX1 (Nat.le_of_ble_eq_true rfl) (Nat.le_of_ble_eq_true rfl) dX6_init_124 (fun q_25 H hP hD hS => ?_)
  have hP : va_P G vwCl [(h0, .inr (6, [.ref h1, .ref h2, .ref h3, .ref h4, .int 0, .ref q_1, .ref q_2, .ref q_4, .ref q_6, .ref q_8, .int 0, .int 0, .ref q_9, .int 0, .int 0])), (q_1, .inl (cy 4, 15, .inr (.inr (.inr (.inr f_24))))), (q_25, .inr (1, [.null, .null, .null]))] H := hP
  have hD : va_D A [(h0, .inr (6, [.ref h1, .ref h2, .ref h3, .ref h4, .int 0, .ref q_1, .ref q_2, .ref q_4, .ref q_6, .ref q_8, .int 0, .int 0, .ref q_9, .int 0, .int 0])), (q_1, .inl (cy 4, 15, .inr (.inr (.inr (.inr f_24))))), (q_25, .inr (1, [.null, .null, .null]))] := hD
  refine W.widen (k := 72) (n := 460) (Nat.le_of_ble_eq_true rfl) (Nat.le_of_ble_eq_true rfl) ?_
  refine lv_dup hx hb dX6_init_127 rfl ?_
  refine gz_aftv (va_runI (As := []) (rest := [.ref q_25, .int 5, .ref q_1]) ⟨hx, hb, hml, hown, hts⟩ (c_X1_init l G cy H.size q_25 ) ⟨(gz_cb (n := 0) hts gm_242 gm_7 gm_117 ⟨by decide +kernel, by decide +kernel, by decide +kernel⟩ ⟨Nat.le_of_ble_eq_true rfl, Nat.le_of_ble_eq_true rfl⟩), rfl, hts _ gm_116⟩ (gz_preS hK hov hP hD [2] (by decide) rfl) rfl rfl hl.1 rfl (lv_room (Nat.le_of_ble_eq_true rfl)) dX6_init_128 ⟨Nat.le_of_ble_eq_true rfl, Nat.le_of_ble_eq_true rfl⟩) hP hD hS hA [2] [0, 1] rfl rfl (by decide) (by decide) (fun u_26 H locs hw_26 hP hD hS => ?_)
  have hP : va_P G vwCl [(h0, .inr (6, [.ref h1, .ref h2, .ref h3, .ref h4, .int 0, .ref q_1, .ref q_2, .ref q_4, .ref q_6, .ref q_8, .int 0, .int 0, .ref q_9, .int 0, .int 0])), (q_1, .inl (cy 4, 15, .inr (.inr (.inr (.inr f_24))))), (q_25, .inr (1, [.ref (u_26 0), .ref (u_26 1), .ref (u_26 2)])), ((u_26 0), .inl (cy 0, 6, .inl (fun _ => 0))), ((u_26 1), .inl (cy 0, 6, .inl (fun _ => (-1)))), ((u_26 2), .inl (cy 0, 6, .inl (fun _ => (-1))))] H := hP
  have hD : va_D A [(h0, .inr (6, [.ref h1, .ref h2, .ref h3, .ref h4, .int 0, .ref q_1, .ref q_2, .ref q_4, .ref q_6, .ref q_8, .int 0, .int 0, .ref q_9, .int 0, .int 0])), (q_1, .inl (cy 4, 15, .inr (.inr (.inr (.inr f_24))))), (q_25, .inr (1, [.ref (u_26 0), .ref (u_26 1), .ref (u_26 2)])), ((u_26 0), .inl (cy 0, 6, .inl (fun _ => 0))), ((u_26 1), .inl (cy 0, 6, .inl (fun _ => (-1)))), ((u_26 2), .inl (cy 0, 6, .inl (fun _ => (-1))))] := hD
  refine W.widen (k := 75) (n := 478) (Nat.le_of_ble_eq_true rfl) (Nat.le_of_ble_eq_true rfl) ?_
  refine va_astq hx hb hK hP hD hS 1 4 2 1 rfl rfl rfl rfl (vp_in_iff.mpr (by decide)) dX6_init_131 (fun H locs hP hD hS => ?_)
  obtain ⟨f_27, ef_27⟩ : ∃ g : Nat → Option Nat, g = va_up f_24 (5 : Int32).toNatClampNeg (some q_25) := ⟨_, rfl⟩
  have hP : va_P G vwCl [(h0, .inr (6, [.ref h1, .ref h2, .ref h3, .ref h4, .int 0, .ref q_1, .ref q_2, .ref q_4, .ref q_6, .ref q_8, .int 0, .int 0, .ref q_9, .int 0, .int 0])), (q_1, .inl (cy 4, 15, .inr (.inr (.inr (.inr f_27))))), (q_25, .inr (1, [.ref (u_26 0), .ref (u_26 1), .ref (u_26 2)])), ((u_26 0), .inl (cy 0, 6, .inl (fun _ => 0))), ((u_26 1), .inl (cy 0, 6, .inl (fun _ => (-1)))), ((u_26 2), .inl (cy 0, 6, .inl (fun _ => (-1))))] H := ef_27 ▸ hP
  have hD : va_D A [(h0, .inr (6, [.ref h1, .ref h2, .ref h3, .ref h4, .int 0, .ref q_1, .ref q_2, .ref q_4, .ref q_6, .ref q_8, .int 0, .int 0, .ref q_9, .int 0, .int 0])), (q_1, .inl (cy 4, 15, .inr (.inr (.inr (.inr f_27))))), (q_25, .inr (1, [.ref (u_26 0), .ref (u_26 1), .ref (u_26 2)])), ((u_26 0), .inl (cy 0, 6, .inl (fun _ => 0))), ((u_26 1), .inl (cy 0, 6, .inl (fun _ => (-1)))), ((u_26 2), .inl (cy 0, 6, .inl (fun _ => (-1))))] := ef_27 ▸ hD
  have hP : va_P G vwCl [(h0, .inr (6, [.ref h1, .ref h2, .ref h3, .ref h4, .int 0, .ref q_1, .ref q_2, .ref q_4, .ref q_6, .ref q_8, .int 0, .int 0, .ref q_9, .int 0, .int 0])), (q_1, .inl (cy 4, 15, .inr (.inr (.inr (.inr f_27)))))] H := hP.sub [0, 1] rfl
  have hD : va_D A [(h0, .inr (6, [.ref h1, .ref h2, .ref h3, .ref h4, .int 0, .ref q_1, .ref q_2, .ref q_4, .ref q_6, .ref q_8, .int 0, .int 0, .ref q_9, .int 0, .int 0])), (q_1, .inl (cy 4, 15, .inr (.inr (.inr (.inr f_27)))))] := hD.sub [0, 1] (by decide) rfl
  refine lv_iinc (v := (6)) (lv' := [(5, .int 6), (0, .ref h0), (1, .ref h1), (2, .ref h2), (3, .ref h3), (4, .ref h4)]) hx hb dX6_init_132 hl (k := 0) rfl (by decide) (by decide) rfl (fun ls hl => ?_)
  refine lv_goto (tgt := 111) hx hb dX6_init_135 (by decide) ?_
  refine lv_iload hx hb dX6_init_111 (lv_at hl 0 rfl) ?_
  refine lv_bipush (v := 14) hx hb dX6_init_113 (by decide) ?_
  refine lv_icmp_gt (tgt := 138) hx hb dX6_init_115 (by decide) (fun h9 => absurd h9 (by decide)) (fun _ => ?_)
  refine lv_aload_n hx hb dX6_init_118 rfl (lv_at hl 1 rfl) ?_
  refine va_get (ci := 6) (v := .ref q_1) (C := RX6) (T := TX6) (N := 15) hx hb hts inX6 hown hK hP 0 rfl rfl 5 (by decide) (hts _ gm_248) (fun _ h9 => h9) rfl dX6_init_119 ?_
  refine lv_iload hx hb dX6_init_122 (lv_at hl 0 rfl) ?_
  refine va_new (ci := 1) (fs := [.null, .null, .null]) (C := RX1) (T := TX1) (N := 3) hx hb hts inX1 tyX1 tyX1_ok hown (hts _ gm_239) (hts _ gm_114) (hts _ gm_7) hK hP hD hS hA rfl dfX1 (Nat.le_of_ble_eq_true rfl) (Nat.le_of_ble_eq_true rfl) dX6_init_124 (fun q_28 H hP hD hS => ?_)
  have hP : va_P G vwCl [(h0, .inr (6, [.ref h1, .ref h2, .ref h3, .ref h4, .int 0, .ref q_1, .ref q_2, .ref q_4, .ref q_6, .ref q_8, .int 0, .int 0, .ref q_9, .int 0, .int 0])), (q_1, .inl (cy 4, 15, .inr (.inr (.inr (.inr f_27))))), (q_28, .inr (1, [.null, .null, .null]))] H := hP
  have hD : va_D A [(h0, .inr (6, [.ref h1, .ref h2, .ref h3, .ref h4, .int 0, .ref q_1, .ref q_2, .ref q_4, .ref q_6, .ref q_8, .int 0, .int 0, .ref q_9, .int 0, .int 0])), (q_1, .inl (cy 4, 15, .inr (.inr (.inr (.inr f_27))))), (q_28, .inr (1, [.null, .null, .null]))] := hD
  refine W.widen (k := 76) (n := 481) (Nat.le_of_ble_eq_true rfl) (Nat.le_of_ble_eq_true rfl) ?_
  refine lv_dup hx hb dX6_init_127 rfl ?_
  refine gz_aftv (va_runI (As := []) (rest := [.ref q_28, .int 6, .ref q_1]) ⟨hx, hb, hml, hown, hts⟩ (c_X1_init l G cy H.size q_28 ) ⟨(gz_cb (n := 0) hts gm_242 gm_7 gm_117 ⟨by decide +kernel, by decide +kernel, by decide +kernel⟩ ⟨Nat.le_of_ble_eq_true rfl, Nat.le_of_ble_eq_true rfl⟩), rfl, hts _ gm_116⟩ (gz_preS hK hov hP hD [2] (by decide) rfl) rfl rfl hl.1 rfl (lv_room (Nat.le_of_ble_eq_true rfl)) dX6_init_128 ⟨Nat.le_of_ble_eq_true rfl, Nat.le_of_ble_eq_true rfl⟩) hP hD hS hA [2] [0, 1] rfl rfl (by decide) (by decide) (fun u_29 H locs hw_29 hP hD hS => ?_)
  have hP : va_P G vwCl [(h0, .inr (6, [.ref h1, .ref h2, .ref h3, .ref h4, .int 0, .ref q_1, .ref q_2, .ref q_4, .ref q_6, .ref q_8, .int 0, .int 0, .ref q_9, .int 0, .int 0])), (q_1, .inl (cy 4, 15, .inr (.inr (.inr (.inr f_27))))), (q_28, .inr (1, [.ref (u_29 0), .ref (u_29 1), .ref (u_29 2)])), ((u_29 0), .inl (cy 0, 6, .inl (fun _ => 0))), ((u_29 1), .inl (cy 0, 6, .inl (fun _ => (-1)))), ((u_29 2), .inl (cy 0, 6, .inl (fun _ => (-1))))] H := hP
  have hD : va_D A [(h0, .inr (6, [.ref h1, .ref h2, .ref h3, .ref h4, .int 0, .ref q_1, .ref q_2, .ref q_4, .ref q_6, .ref q_8, .int 0, .int 0, .ref q_9, .int 0, .int 0])), (q_1, .inl (cy 4, 15, .inr (.inr (.inr (.inr f_27))))), (q_28, .inr (1, [.ref (u_29 0), .ref (u_29 1), .ref (u_29 2)])), ((u_29 0), .inl (cy 0, 6, .inl (fun _ => 0))), ((u_29 1), .inl (cy 0, 6, .inl (fun _ => (-1)))), ((u_29 2), .inl (cy 0, 6, .inl (fun _ => (-1))))] := hD
  refine W.widen (k := 79) (n := 499) (Nat.le_of_ble_eq_true rfl) (Nat.le_of_ble_eq_true rfl) ?_
  refine va_astq hx hb hK hP hD hS 1 4 2 1 rfl rfl rfl rfl (vp_in_iff.mpr (by decide)) dX6_init_131 (fun H locs hP hD hS => ?_)
  obtain ⟨f_30, ef_30⟩ : ∃ g : Nat → Option Nat, g = va_up f_27 (6 : Int32).toNatClampNeg (some q_28) := ⟨_, rfl⟩
  have hP : va_P G vwCl [(h0, .inr (6, [.ref h1, .ref h2, .ref h3, .ref h4, .int 0, .ref q_1, .ref q_2, .ref q_4, .ref q_6, .ref q_8, .int 0, .int 0, .ref q_9, .int 0, .int 0])), (q_1, .inl (cy 4, 15, .inr (.inr (.inr (.inr f_30))))), (q_28, .inr (1, [.ref (u_29 0), .ref (u_29 1), .ref (u_29 2)])), ((u_29 0), .inl (cy 0, 6, .inl (fun _ => 0))), ((u_29 1), .inl (cy 0, 6, .inl (fun _ => (-1)))), ((u_29 2), .inl (cy 0, 6, .inl (fun _ => (-1))))] H := ef_30 ▸ hP
  have hD : va_D A [(h0, .inr (6, [.ref h1, .ref h2, .ref h3, .ref h4, .int 0, .ref q_1, .ref q_2, .ref q_4, .ref q_6, .ref q_8, .int 0, .int 0, .ref q_9, .int 0, .int 0])), (q_1, .inl (cy 4, 15, .inr (.inr (.inr (.inr f_30))))), (q_28, .inr (1, [.ref (u_29 0), .ref (u_29 1), .ref (u_29 2)])), ((u_29 0), .inl (cy 0, 6, .inl (fun _ => 0))), ((u_29 1), .inl (cy 0, 6, .inl (fun _ => (-1)))), ((u_29 2), .inl (cy 0, 6, .inl (fun _ => (-1))))] := ef_30 ▸ hD
  have hP : va_P G vwCl [(h0, .inr (6, [.ref h1, .ref h2, .ref h3, .ref h4, .int 0, .ref q_1, .ref q_2, .ref q_4, .ref q_6, .ref q_8, .int 0, .int 0, .ref q_9, .int 0, .int 0])), (q_1, .inl (cy 4, 15, .inr (.inr (.inr (.inr f_30)))))] H := hP.sub [0, 1] rfl
  have hD : va_D A [(h0, .inr (6, [.ref h1, .ref h2, .ref h3, .ref h4, .int 0, .ref q_1, .ref q_2, .ref q_4, .ref q_6, .ref q_8, .int 0, .int 0, .ref q_9, .int 0, .int 0])), (q_1, .inl (cy 4, 15, .inr (.inr (.inr (.inr f_30)))))] := hD.sub [0, 1] (by decide) rfl
  refine lv_iinc (v := (7)) (lv' := [(5, .int 7), (0, .ref h0), (1, .ref h1), (2, .ref h2), (3, .ref h3), (4, .ref h4)]) hx hb dX6_init_132 hl (k := 0) rfl (by decide) (by decide) rfl (fun ls hl => ?_)
  refine lv_goto (tgt := 111) hx hb dX6_init_135 (by decide) ?_
  refine lv_iload hx hb dX6_init_111 (lv_at hl 0 rfl) ?_
  refine lv_bipush (v := 14) hx hb dX6_init_113 (by decide) ?_
  refine lv_icmp_gt (tgt := 138) hx hb dX6_init_115 (by decide) (fun h9 => absurd h9 (by decide)) (fun _ => ?_)
  refine lv_aload_n hx hb dX6_init_118 rfl (lv_at hl 1 rfl) ?_
  refine va_get (ci := 6) (v := .ref q_1) (C := RX6) (T := TX6) (N := 15) hx hb hts inX6 hown hK hP 0 rfl rfl 5 (by decide) (hts _ gm_248) (fun _ h9 => h9) rfl dX6_init_119 ?_
  refine lv_iload hx hb dX6_init_122 (lv_at hl 0 rfl) ?_
  refine va_new (ci := 1) (fs := [.null, .null, .null]) (C := RX1) (T := TX1) (N := 3) hx hb hts inX1 tyX1 tyX1_ok hown (hts _ gm_239) (hts _ gm_114) (hts _ gm_7) hK hP hD hS hA rfl dfX1 (Nat.le_of_ble_eq_true rfl) (Nat.le_of_ble_eq_true rfl) dX6_init_124 (fun q_31 H hP hD hS => ?_)
  have hP : va_P G vwCl [(h0, .inr (6, [.ref h1, .ref h2, .ref h3, .ref h4, .int 0, .ref q_1, .ref q_2, .ref q_4, .ref q_6, .ref q_8, .int 0, .int 0, .ref q_9, .int 0, .int 0])), (q_1, .inl (cy 4, 15, .inr (.inr (.inr (.inr f_30))))), (q_31, .inr (1, [.null, .null, .null]))] H := hP
  have hD : va_D A [(h0, .inr (6, [.ref h1, .ref h2, .ref h3, .ref h4, .int 0, .ref q_1, .ref q_2, .ref q_4, .ref q_6, .ref q_8, .int 0, .int 0, .ref q_9, .int 0, .int 0])), (q_1, .inl (cy 4, 15, .inr (.inr (.inr (.inr f_30))))), (q_31, .inr (1, [.null, .null, .null]))] := hD
  refine W.widen (k := 80) (n := 502) (Nat.le_of_ble_eq_true rfl) (Nat.le_of_ble_eq_true rfl) ?_
  refine lv_dup hx hb dX6_init_127 rfl ?_
  refine gz_aftv (va_runI (As := []) (rest := [.ref q_31, .int 7, .ref q_1]) ⟨hx, hb, hml, hown, hts⟩ (c_X1_init l G cy H.size q_31 ) ⟨(gz_cb (n := 0) hts gm_242 gm_7 gm_117 ⟨by decide +kernel, by decide +kernel, by decide +kernel⟩ ⟨Nat.le_of_ble_eq_true rfl, Nat.le_of_ble_eq_true rfl⟩), rfl, hts _ gm_116⟩ (gz_preS hK hov hP hD [2] (by decide) rfl) rfl rfl hl.1 rfl (lv_room (Nat.le_of_ble_eq_true rfl)) dX6_init_128 ⟨Nat.le_of_ble_eq_true rfl, Nat.le_of_ble_eq_true rfl⟩) hP hD hS hA [2] [0, 1] rfl rfl (by decide) (by decide) (fun u_32 H locs hw_32 hP hD hS => ?_)
  have hP : va_P G vwCl [(h0, .inr (6, [.ref h1, .ref h2, .ref h3, .ref h4, .int 0, .ref q_1, .ref q_2, .ref q_4, .ref q_6, .ref q_8, .int 0, .int 0, .ref q_9, .int 0, .int 0])), (q_1, .inl (cy 4, 15, .inr (.inr (.inr (.inr f_30))))), (q_31, .inr (1, [.ref (u_32 0), .ref (u_32 1), .ref (u_32 2)])), ((u_32 0), .inl (cy 0, 6, .inl (fun _ => 0))), ((u_32 1), .inl (cy 0, 6, .inl (fun _ => (-1)))), ((u_32 2), .inl (cy 0, 6, .inl (fun _ => (-1))))] H := hP
  have hD : va_D A [(h0, .inr (6, [.ref h1, .ref h2, .ref h3, .ref h4, .int 0, .ref q_1, .ref q_2, .ref q_4, .ref q_6, .ref q_8, .int 0, .int 0, .ref q_9, .int 0, .int 0])), (q_1, .inl (cy 4, 15, .inr (.inr (.inr (.inr f_30))))), (q_31, .inr (1, [.ref (u_32 0), .ref (u_32 1), .ref (u_32 2)])), ((u_32 0), .inl (cy 0, 6, .inl (fun _ => 0))), ((u_32 1), .inl (cy 0, 6, .inl (fun _ => (-1)))), ((u_32 2), .inl (cy 0, 6, .inl (fun _ => (-1))))] := hD
  refine W.widen (k := 83) (n := 520) (Nat.le_of_ble_eq_true rfl) (Nat.le_of_ble_eq_true rfl) ?_
  refine va_astq hx hb hK hP hD hS 1 4 2 1 rfl rfl rfl rfl (vp_in_iff.mpr (by decide)) dX6_init_131 (fun H locs hP hD hS => ?_)
  obtain ⟨f_33, ef_33⟩ : ∃ g : Nat → Option Nat, g = va_up f_30 (7 : Int32).toNatClampNeg (some q_31) := ⟨_, rfl⟩
  have hP : va_P G vwCl [(h0, .inr (6, [.ref h1, .ref h2, .ref h3, .ref h4, .int 0, .ref q_1, .ref q_2, .ref q_4, .ref q_6, .ref q_8, .int 0, .int 0, .ref q_9, .int 0, .int 0])), (q_1, .inl (cy 4, 15, .inr (.inr (.inr (.inr f_33))))), (q_31, .inr (1, [.ref (u_32 0), .ref (u_32 1), .ref (u_32 2)])), ((u_32 0), .inl (cy 0, 6, .inl (fun _ => 0))), ((u_32 1), .inl (cy 0, 6, .inl (fun _ => (-1)))), ((u_32 2), .inl (cy 0, 6, .inl (fun _ => (-1))))] H := ef_33 ▸ hP
  have hD : va_D A [(h0, .inr (6, [.ref h1, .ref h2, .ref h3, .ref h4, .int 0, .ref q_1, .ref q_2, .ref q_4, .ref q_6, .ref q_8, .int 0, .int 0, .ref q_9, .int 0, .int 0])), (q_1, .inl (cy 4, 15, .inr (.inr (.inr (.inr f_33))))), (q_31, .inr (1, [.ref (u_32 0), .ref (u_32 1), .ref (u_32 2)])), ((u_32 0), .inl (cy 0, 6, .inl (fun _ => 0))), ((u_32 1), .inl (cy 0, 6, .inl (fun _ => (-1)))), ((u_32 2), .inl (cy 0, 6, .inl (fun _ => (-1))))] := ef_33 ▸ hD
  have hP : va_P G vwCl [(h0, .inr (6, [.ref h1, .ref h2, .ref h3, .ref h4, .int 0, .ref q_1, .ref q_2, .ref q_4, .ref q_6, .ref q_8, .int 0, .int 0, .ref q_9, .int 0, .int 0])), (q_1, .inl (cy 4, 15, .inr (.inr (.inr (.inr f_33)))))] H := hP.sub [0, 1] rfl
  have hD : va_D A [(h0, .inr (6, [.ref h1, .ref h2, .ref h3, .ref h4, .int 0, .ref q_1, .ref q_2, .ref q_4, .ref q_6, .ref q_8, .int 0, .int 0, .ref q_9, .int 0, .int 0])), (q_1, .inl (cy 4, 15, .inr (.inr (.inr (.inr f_33)))))] := hD.sub [0, 1] (by decide) rfl
  refine lv_iinc (v := (8)) (lv' := [(5, .int 8), (0, .ref h0), (1, .ref h1), (2, .ref h2), (3, .ref h3), (4, .ref h4)]) hx hb dX6_init_132 hl (k := 0) rfl (by decide) (by decide) rfl (fun ls hl => ?_)
  refine lv_goto (tgt := 111) hx hb dX6_init_135 (by decide) ?_
  refine lv_iload hx hb dX6_init_111 (lv_at hl 0 rfl) ?_
  refine lv_bipush (v := 14) hx hb dX6_init_113 (by decide) ?_
  refine lv_icmp_gt (tgt := 138) hx hb dX6_init_115 (by decide) (fun h9 => absurd h9 (by decide)) (fun _ => ?_)
  refine lv_aload_n hx hb dX6_init_118 rfl (lv_at hl 1 rfl) ?_
  refine va_get (ci := 6) (v := .ref q_1) (C := RX6) (T := TX6) (N := 15) hx hb hts inX6 hown hK hP 0 rfl rfl 5 (by decide) (hts _ gm_248) (fun _ h9 => h9) rfl dX6_init_119 ?_
  refine lv_iload hx hb dX6_init_122 (lv_at hl 0 rfl) ?_
  refine va_new (ci := 1) (fs := [.null, .null, .null]) (C := RX1) (T := TX1) (N := 3) hx hb hts inX1 tyX1 tyX1_ok hown (hts _ gm_239) (hts _ gm_114) (hts _ gm_7) hK hP hD hS hA rfl dfX1 (Nat.le_of_ble_eq_true rfl) (Nat.le_of_ble_eq_true rfl) dX6_init_124 (fun q_34 H hP hD hS => ?_)
  have hP : va_P G vwCl [(h0, .inr (6, [.ref h1, .ref h2, .ref h3, .ref h4, .int 0, .ref q_1, .ref q_2, .ref q_4, .ref q_6, .ref q_8, .int 0, .int 0, .ref q_9, .int 0, .int 0])), (q_1, .inl (cy 4, 15, .inr (.inr (.inr (.inr f_33))))), (q_34, .inr (1, [.null, .null, .null]))] H := hP
  have hD : va_D A [(h0, .inr (6, [.ref h1, .ref h2, .ref h3, .ref h4, .int 0, .ref q_1, .ref q_2, .ref q_4, .ref q_6, .ref q_8, .int 0, .int 0, .ref q_9, .int 0, .int 0])), (q_1, .inl (cy 4, 15, .inr (.inr (.inr (.inr f_33))))), (q_34, .inr (1, [.null, .null, .null]))] := hD
  refine W.widen (k := 84) (n := 523) (Nat.le_of_ble_eq_true rfl) (Nat.le_of_ble_eq_true rfl) ?_
  refine lv_dup hx hb dX6_init_127 rfl ?_
  refine gz_aftv (va_runI (As := []) (rest := [.ref q_34, .int 8, .ref q_1]) ⟨hx, hb, hml, hown, hts⟩ (c_X1_init l G cy H.size q_34 ) ⟨(gz_cb (n := 0) hts gm_242 gm_7 gm_117 ⟨by decide +kernel, by decide +kernel, by decide +kernel⟩ ⟨Nat.le_of_ble_eq_true rfl, Nat.le_of_ble_eq_true rfl⟩), rfl, hts _ gm_116⟩ (gz_preS hK hov hP hD [2] (by decide) rfl) rfl rfl hl.1 rfl (lv_room (Nat.le_of_ble_eq_true rfl)) dX6_init_128 ⟨Nat.le_of_ble_eq_true rfl, Nat.le_of_ble_eq_true rfl⟩) hP hD hS hA [2] [0, 1] rfl rfl (by decide) (by decide) (fun u_35 H locs hw_35 hP hD hS => ?_)
  have hP : va_P G vwCl [(h0, .inr (6, [.ref h1, .ref h2, .ref h3, .ref h4, .int 0, .ref q_1, .ref q_2, .ref q_4, .ref q_6, .ref q_8, .int 0, .int 0, .ref q_9, .int 0, .int 0])), (q_1, .inl (cy 4, 15, .inr (.inr (.inr (.inr f_33))))), (q_34, .inr (1, [.ref (u_35 0), .ref (u_35 1), .ref (u_35 2)])), ((u_35 0), .inl (cy 0, 6, .inl (fun _ => 0))), ((u_35 1), .inl (cy 0, 6, .inl (fun _ => (-1)))), ((u_35 2), .inl (cy 0, 6, .inl (fun _ => (-1))))] H := hP
  have hD : va_D A [(h0, .inr (6, [.ref h1, .ref h2, .ref h3, .ref h4, .int 0, .ref q_1, .ref q_2, .ref q_4, .ref q_6, .ref q_8, .int 0, .int 0, .ref q_9, .int 0, .int 0])), (q_1, .inl (cy 4, 15, .inr (.inr (.inr (.inr f_33))))), (q_34, .inr (1, [.ref (u_35 0), .ref (u_35 1), .ref (u_35 2)])), ((u_35 0), .inl (cy 0, 6, .inl (fun _ => 0))), ((u_35 1), .inl (cy 0, 6, .inl (fun _ => (-1)))), ((u_35 2), .inl (cy 0, 6, .inl (fun _ => (-1))))] := hD
  refine W.widen (k := 87) (n := 541) (Nat.le_of_ble_eq_true rfl) (Nat.le_of_ble_eq_true rfl) ?_
  refine va_astq hx hb hK hP hD hS 1 4 2 1 rfl rfl rfl rfl (vp_in_iff.mpr (by decide)) dX6_init_131 (fun H locs hP hD hS => ?_)
  obtain ⟨f_36, ef_36⟩ : ∃ g : Nat → Option Nat, g = va_up f_33 (8 : Int32).toNatClampNeg (some q_34) := ⟨_, rfl⟩
  have hP : va_P G vwCl [(h0, .inr (6, [.ref h1, .ref h2, .ref h3, .ref h4, .int 0, .ref q_1, .ref q_2, .ref q_4, .ref q_6, .ref q_8, .int 0, .int 0, .ref q_9, .int 0, .int 0])), (q_1, .inl (cy 4, 15, .inr (.inr (.inr (.inr f_36))))), (q_34, .inr (1, [.ref (u_35 0), .ref (u_35 1), .ref (u_35 2)])), ((u_35 0), .inl (cy 0, 6, .inl (fun _ => 0))), ((u_35 1), .inl (cy 0, 6, .inl (fun _ => (-1)))), ((u_35 2), .inl (cy 0, 6, .inl (fun _ => (-1))))] H := ef_36 ▸ hP
  have hD : va_D A [(h0, .inr (6, [.ref h1, .ref h2, .ref h3, .ref h4, .int 0, .ref q_1, .ref q_2, .ref q_4, .ref q_6, .ref q_8, .int 0, .int 0, .ref q_9, .int 0, .int 0])), (q_1, .inl (cy 4, 15, .inr (.inr (.inr (.inr f_36))))), (q_34, .inr (1, [.ref (u_35 0), .ref (u_35 1), .ref (u_35 2)])), ((u_35 0), .inl (cy 0, 6, .inl (fun _ => 0))), ((u_35 1), .inl (cy 0, 6, .inl (fun _ => (-1)))), ((u_35 2), .inl (cy 0, 6, .inl (fun _ => (-1))))] := ef_36 ▸ hD
  have hP : va_P G vwCl [(h0, .inr (6, [.ref h1, .ref h2, .ref h3, .ref h4, .int 0, .ref q_1, .ref q_2, .ref q_4, .ref q_6, .ref q_8, .int 0, .int 0, .ref q_9, .int 0, .int 0])), (q_1, .inl (cy 4, 15, .inr (.inr (.inr (.inr f_36)))))] H := hP.sub [0, 1] rfl
  have hD : va_D A [(h0, .inr (6, [.ref h1, .ref h2, .ref h3, .ref h4, .int 0, .ref q_1, .ref q_2, .ref q_4, .ref q_6, .ref q_8, .int 0, .int 0, .ref q_9, .int 0, .int 0])), (q_1, .inl (cy 4, 15, .inr (.inr (.inr (.inr f_36)))))] := hD.sub [0, 1] (by decide) rfl
  refine lv_iinc (v := (9)) (lv' := [(5, .int 9), (0, .ref h0), (1, .ref h1), (2, .ref h2), (3, .ref h3), (4, .ref h4)]) hx hb dX6_init_132 hl (k := 0) rfl (by decide) (by decide) rfl (fun ls hl => ?_)
  refine lv_goto (tgt := 111) hx hb dX6_init_135 (by decide) ?_
  refine lv_iload hx hb dX6_init_111 (lv_at hl 0 rfl) ?_
  refine lv_bipush (v := 14) hx hb dX6_init_113 (by decide) ?_
  refine lv_icmp_gt (tgt := 138) hx hb dX6_init_115 (by decide) (fun h9 => absurd h9 (by decide)) (fun _ => ?_)
  refine lv_aload_n hx hb dX6_init_118 rfl (lv_at hl 1 rfl) ?_
  refine va_get (ci := 6) (v := .ref q_1) (C := RX6) (T := TX6) (N := 15) hx hb hts inX6 hown hK hP 0 rfl rfl 5 (by decide) (hts _ gm_248) (fun _ h9 => h9) rfl dX6_init_119 ?_
  refine lv_iload hx hb dX6_init_122 (lv_at hl 0 rfl) ?_
  refine va_new (ci := 1) (fs := [.null, .null, .null]) (C := RX1) (T := TX1) (N := 3) hx hb hts inX1 tyX1 tyX1_ok hown (hts _ gm_239) (hts _ gm_114) (hts _ gm_7) hK hP hD hS hA rfl dfX1 (Nat.le_of_ble_eq_true rfl) (Nat.le_of_ble_eq_true rfl) dX6_init_124 (fun q_37 H hP hD hS => ?_)
  have hP : va_P G vwCl [(h0, .inr (6, [.ref h1, .ref h2, .ref h3, .ref h4, .int 0, .ref q_1, .ref q_2, .ref q_4, .ref q_6, .ref q_8, .int 0, .int 0, .ref q_9, .int 0, .int 0])), (q_1, .inl (cy 4, 15, .inr (.inr (.inr (.inr f_36))))), (q_37, .inr (1, [.null, .null, .null]))] H := hP
  have hD : va_D A [(h0, .inr (6, [.ref h1, .ref h2, .ref h3, .ref h4, .int 0, .ref q_1, .ref q_2, .ref q_4, .ref q_6, .ref q_8, .int 0, .int 0, .ref q_9, .int 0, .int 0])), (q_1, .inl (cy 4, 15, .inr (.inr (.inr (.inr f_36))))), (q_37, .inr (1, [.null, .null, .null]))] := hD
  refine W.widen (k := 88) (n := 544) (Nat.le_of_ble_eq_true rfl) (Nat.le_of_ble_eq_true rfl) ?_
  refine lv_dup hx hb dX6_init_127 rfl ?_
  refine gz_aftv (va_runI (As := []) (rest := [.ref q_37, .int 9, .ref q_1]) ⟨hx, hb, hml, hown, hts⟩ (c_X1_init l G cy H.size q_37 ) ⟨(gz_cb (n := 0) hts gm_242 gm_7 gm_117 ⟨by decide +kernel, by decide +kernel, by decide +kernel⟩ ⟨Nat.le_of_ble_eq_true rfl, Nat.le_of_ble_eq_true rfl⟩), rfl, hts _ gm_116⟩ (gz_preS hK hov hP hD [2] (by decide) rfl) rfl rfl hl.1 rfl (lv_room (Nat.le_of_ble_eq_true rfl)) dX6_init_128 ⟨Nat.le_of_ble_eq_true rfl, Nat.le_of_ble_eq_true rfl⟩) hP hD hS hA [2] [0, 1] rfl rfl (by decide) (by decide) (fun u_38 H locs hw_38 hP hD hS => ?_)
  have hP : va_P G vwCl [(h0, .inr (6, [.ref h1, .ref h2, .ref h3, .ref h4, .int 0, .ref q_1, .ref q_2, .ref q_4, .ref q_6, .ref q_8, .int 0, .int 0, .ref q_9, .int 0, .int 0])), (q_1, .inl (cy 4, 15, .inr (.inr (.inr (.inr f_36))))), (q_37, .inr (1, [.ref (u_38 0), .ref (u_38 1), .ref (u_38 2)])), ((u_38 0), .inl (cy 0, 6, .inl (fun _ => 0))), ((u_38 1), .inl (cy 0, 6, .inl (fun _ => (-1)))), ((u_38 2), .inl (cy 0, 6, .inl (fun _ => (-1))))] H := hP
  have hD : va_D A [(h0, .inr (6, [.ref h1, .ref h2, .ref h3, .ref h4, .int 0, .ref q_1, .ref q_2, .ref q_4, .ref q_6, .ref q_8, .int 0, .int 0, .ref q_9, .int 0, .int 0])), (q_1, .inl (cy 4, 15, .inr (.inr (.inr (.inr f_36))))), (q_37, .inr (1, [.ref (u_38 0), .ref (u_38 1), .ref (u_38 2)])), ((u_38 0), .inl (cy 0, 6, .inl (fun _ => 0))), ((u_38 1), .inl (cy 0, 6, .inl (fun _ => (-1)))), ((u_38 2), .inl (cy 0, 6, .inl (fun _ => (-1))))] := hD
  refine W.widen (k := 91) (n := 562) (Nat.le_of_ble_eq_true rfl) (Nat.le_of_ble_eq_true rfl) ?_
  refine va_astq hx hb hK hP hD hS 1 4 2 1 rfl rfl rfl rfl (vp_in_iff.mpr (by decide)) dX6_init_131 (fun H locs hP hD hS => ?_)
  obtain ⟨f_39, ef_39⟩ : ∃ g : Nat → Option Nat, g = va_up f_36 (9 : Int32).toNatClampNeg (some q_37) := ⟨_, rfl⟩
  have hP : va_P G vwCl [(h0, .inr (6, [.ref h1, .ref h2, .ref h3, .ref h4, .int 0, .ref q_1, .ref q_2, .ref q_4, .ref q_6, .ref q_8, .int 0, .int 0, .ref q_9, .int 0, .int 0])), (q_1, .inl (cy 4, 15, .inr (.inr (.inr (.inr f_39))))), (q_37, .inr (1, [.ref (u_38 0), .ref (u_38 1), .ref (u_38 2)])), ((u_38 0), .inl (cy 0, 6, .inl (fun _ => 0))), ((u_38 1), .inl (cy 0, 6, .inl (fun _ => (-1)))), ((u_38 2), .inl (cy 0, 6, .inl (fun _ => (-1))))] H := ef_39 ▸ hP
  have hD : va_D A [(h0, .inr (6, [.ref h1, .ref h2, .ref h3, .ref h4, .int 0, .ref q_1, .ref q_2, .ref q_4, .ref q_6, .ref q_8, .int 0, .int 0, .ref q_9, .int 0, .int 0])), (q_1, .inl (cy 4, 15, .inr (.inr (.inr (.inr f_39))))), (q_37, .inr (1, [.ref (u_38 0), .ref (u_38 1), .ref (u_38 2)])), ((u_38 0), .inl (cy 0, 6, .inl (fun _ => 0))), ((u_38 1), .inl (cy 0, 6, .inl (fun _ => (-1)))), ((u_38 2), .inl (cy 0, 6, .inl (fun _ => (-1))))] := ef_39 ▸ hD
  have hP : va_P G vwCl [(h0, .inr (6, [.ref h1, .ref h2, .ref h3, .ref h4, .int 0, .ref q_1, .ref q_2, .ref q_4, .ref q_6, .ref q_8, .int 0, .int 0, .ref q_9, .int 0, .int 0])), (q_1, .inl (cy 4, 15, .inr (.inr (.inr (.inr f_39)))))] H := hP.sub [0, 1] rfl
  have hD : va_D A [(h0, .inr (6, [.ref h1, .ref h2, .ref h3, .ref h4, .int 0, .ref q_1, .ref q_2, .ref q_4, .ref q_6, .ref q_8, .int 0, .int 0, .ref q_9, .int 0, .int 0])), (q_1, .inl (cy 4, 15, .inr (.inr (.inr (.inr f_39)))))] := hD.sub [0, 1] (by decide) rfl
  refine lv_iinc (v := (10)) (lv' := [(5, .int 10), (0, .ref h0), (1, .ref h1), (2, .ref h2), (3, .ref h3), (4, .ref h4)]) hx hb dX6_init_132 hl (k := 0) rfl (by decide) (by decide) rfl (fun ls hl => ?_)
  refine lv_goto (tgt := 111) hx hb dX6_init_135 (by decide) ?_
  refine lv_iload hx hb dX6_init_111 (lv_at hl 0 rfl) ?_
  refine lv_bipush (v := 14) hx hb dX6_init_113 (by decide) ?_
  refine lv_icmp_gt (tgt := 138) hx hb dX6_init_115 (by decide) (fun h9 => absurd h9 (by decide)) (fun _ => ?_)
  refine lv_aload_n hx hb dX6_init_118 rfl (lv_at hl 1 rfl) ?_
  refine va_get (ci := 6) (v := .ref q_1) (C := RX6) (T := TX6) (N := 15) hx hb hts inX6 hown hK hP 0 rfl rfl 5 (by decide) (hts _ gm_248) (fun _ h9 => h9) rfl dX6_init_119 ?_
  refine lv_iload hx hb dX6_init_122 (lv_at hl 0 rfl) ?_
  refine va_new (ci := 1) (fs := [.null, .null, .null]) (C := RX1) (T := TX1) (N := 3) hx hb hts inX1 tyX1 tyX1_ok hown (hts _ gm_239) (hts _ gm_114) (hts _ gm_7) hK hP hD hS hA rfl dfX1 (Nat.le_of_ble_eq_true rfl) (Nat.le_of_ble_eq_true rfl) dX6_init_124 (fun q_40 H hP hD hS => ?_)
  have hP : va_P G vwCl [(h0, .inr (6, [.ref h1, .ref h2, .ref h3, .ref h4, .int 0, .ref q_1, .ref q_2, .ref q_4, .ref q_6, .ref q_8, .int 0, .int 0, .ref q_9, .int 0, .int 0])), (q_1, .inl (cy 4, 15, .inr (.inr (.inr (.inr f_39))))), (q_40, .inr (1, [.null, .null, .null]))] H := hP
  have hD : va_D A [(h0, .inr (6, [.ref h1, .ref h2, .ref h3, .ref h4, .int 0, .ref q_1, .ref q_2, .ref q_4, .ref q_6, .ref q_8, .int 0, .int 0, .ref q_9, .int 0, .int 0])), (q_1, .inl (cy 4, 15, .inr (.inr (.inr (.inr f_39))))), (q_40, .inr (1, [.null, .null, .null]))] := hD
  refine W.widen (k := 92) (n := 565) (Nat.le_of_ble_eq_true rfl) (Nat.le_of_ble_eq_true rfl) ?_
  refine lv_dup hx hb dX6_init_127 rfl ?_
  refine gz_aftv (va_runI (As := []) (rest := [.ref q_40, .int 10, .ref q_1]) ⟨hx, hb, hml, hown, hts⟩ (c_X1_init l G cy H.size q_40 ) ⟨(gz_cb (n := 0) hts gm_242 gm_7 gm_117 ⟨by decide +kernel, by decide +kernel, by decide +kernel⟩ ⟨Nat.le_of_ble_eq_true rfl, Nat.le_of_ble_eq_true rfl⟩), rfl, hts _ gm_116⟩ (gz_preS hK hov hP hD [2] (by decide) rfl) rfl rfl hl.1 rfl (lv_room (Nat.le_of_ble_eq_true rfl)) dX6_init_128 ⟨Nat.le_of_ble_eq_true rfl, Nat.le_of_ble_eq_true rfl⟩) hP hD hS hA [2] [0, 1] rfl rfl (by decide) (by decide) (fun u_41 H locs hw_41 hP hD hS => ?_)
  have hP : va_P G vwCl [(h0, .inr (6, [.ref h1, .ref h2, .ref h3, .ref h4, .int 0, .ref q_1, .ref q_2, .ref q_4, .ref q_6, .ref q_8, .int 0, .int 0, .ref q_9, .int 0, .int 0])), (q_1, .inl (cy 4, 15, .inr (.inr (.inr (.inr f_39))))), (q_40, .inr (1, [.ref (u_41 0), .ref (u_41 1), .ref (u_41 2)])), ((u_41 0), .inl (cy 0, 6, .inl (fun _ => 0))), ((u_41 1), .inl (cy 0, 6, .inl (fun _ => (-1)))), ((u_41 2), .inl (cy 0, 6, .inl (fun _ => (-1))))] H := hP
  have hD : va_D A [(h0, .inr (6, [.ref h1, .ref h2, .ref h3, .ref h4, .int 0, .ref q_1, .ref q_2, .ref q_4, .ref q_6, .ref q_8, .int 0, .int 0, .ref q_9, .int 0, .int 0])), (q_1, .inl (cy 4, 15, .inr (.inr (.inr (.inr f_39))))), (q_40, .inr (1, [.ref (u_41 0), .ref (u_41 1), .ref (u_41 2)])), ((u_41 0), .inl (cy 0, 6, .inl (fun _ => 0))), ((u_41 1), .inl (cy 0, 6, .inl (fun _ => (-1)))), ((u_41 2), .inl (cy 0, 6, .inl (fun _ => (-1))))] := hD
  refine W.widen (k := 95) (n := 583) (Nat.le_of_ble_eq_true rfl) (Nat.le_of_ble_eq_true rfl) ?_
  refine va_astq hx hb hK hP hD hS 1 4 2 1 rfl rfl rfl rfl (vp_in_iff.mpr (by decide)) dX6_init_131 (fun H locs hP hD hS => ?_)
  obtain ⟨f_42, ef_42⟩ : ∃ g : Nat → Option Nat, g = va_up f_39 (10 : Int32).toNatClampNeg (some q_40) := ⟨_, rfl⟩
  have hP : va_P G vwCl [(h0, .inr (6, [.ref h1, .ref h2, .ref h3, .ref h4, .int 0, .ref q_1, .ref q_2, .ref q_4, .ref q_6, .ref q_8, .int 0, .int 0, .ref q_9, .int 0, .int 0])), (q_1, .inl (cy 4, 15, .inr (.inr (.inr (.inr f_42))))), (q_40, .inr (1, [.ref (u_41 0), .ref (u_41 1), .ref (u_41 2)])), ((u_41 0), .inl (cy 0, 6, .inl (fun _ => 0))), ((u_41 1), .inl (cy 0, 6, .inl (fun _ => (-1)))), ((u_41 2), .inl (cy 0, 6, .inl (fun _ => (-1))))] H := ef_42 ▸ hP
  have hD : va_D A [(h0, .inr (6, [.ref h1, .ref h2, .ref h3, .ref h4, .int 0, .ref q_1, .ref q_2, .ref q_4, .ref q_6, .ref q_8, .int 0, .int 0, .ref q_9, .int 0, .int 0])), (q_1, .inl (cy 4, 15, .inr (.inr (.inr (.inr f_42))))), (q_40, .inr (1, [.ref (u_41 0), .ref (u_41 1), .ref (u_41 2)])), ((u_41 0), .inl (cy 0, 6, .inl (fun _ => 0))), ((u_41 1), .inl (cy 0, 6, .inl (fun _ => (-1)))), ((u_41 2), .inl (cy 0, 6, .inl (fun _ => (-1))))] := ef_42 ▸ hD
  have hP : va_P G vwCl [(h0, .inr (6, [.ref h1, .ref h2, .ref h3, .ref h4, .int 0, .ref q_1, .ref q_2, .ref q_4, .ref q_6, .ref q_8, .int 0, .int 0, .ref q_9, .int 0, .int 0])), (q_1, .inl (cy 4, 15, .inr (.inr (.inr (.inr f_42)))))] H := hP.sub [0, 1] rfl
  have hD : va_D A [(h0, .inr (6, [.ref h1, .ref h2, .ref h3, .ref h4, .int 0, .ref q_1, .ref q_2, .ref q_4, .ref q_6, .ref q_8, .int 0, .int 0, .ref q_9, .int 0, .int 0])), (q_1, .inl (cy 4, 15, .inr (.inr (.inr (.inr f_42)))))] := hD.sub [0, 1] (by decide) rfl
  refine lv_iinc (v := (11)) (lv' := [(5, .int 11), (0, .ref h0), (1, .ref h1), (2, .ref h2), (3, .ref h3), (4, .ref h4)]) hx hb dX6_init_132 hl (k := 0) rfl (by decide) (by decide) rfl (fun ls hl => ?_)
  refine lv_goto (tgt := 111) hx hb dX6_init_135 (by decide) ?_
  refine lv_iload hx hb dX6_init_111 (lv_at hl 0 rfl) ?_
  refine lv_bipush (v := 14) hx hb dX6_init_113 (by decide) ?_
  refine lv_icmp_gt (tgt := 138) hx hb dX6_init_115 (by decide) (fun h9 => absurd h9 (by decide)) (fun _ => ?_)
  refine lv_aload_n hx hb dX6_init_118 rfl (lv_at hl 1 rfl) ?_
  refine va_get (ci := 6) (v := .ref q_1) (C := RX6) (T := TX6) (N := 15) hx hb hts inX6 hown hK hP 0 rfl rfl 5 (by decide) (hts _ gm_248) (fun _ h9 => h9) rfl dX6_init_119 ?_
  refine lv_iload hx hb dX6_init_122 (lv_at hl 0 rfl) ?_
  refine va_new (ci := 1) (fs := [.null, .null, .null]) (C := RX1) (T := TX1) (N := 3) hx hb hts inX1 tyX1 tyX1_ok hown (hts _ gm_239) (hts _ gm_114) (hts _ gm_7) hK hP hD hS hA rfl dfX1 (Nat.le_of_ble_eq_true rfl) (Nat.le_of_ble_eq_true rfl) dX6_init_124 (fun q_43 H hP hD hS => ?_)
  have hP : va_P G vwCl [(h0, .inr (6, [.ref h1, .ref h2, .ref h3, .ref h4, .int 0, .ref q_1, .ref q_2, .ref q_4, .ref q_6, .ref q_8, .int 0, .int 0, .ref q_9, .int 0, .int 0])), (q_1, .inl (cy 4, 15, .inr (.inr (.inr (.inr f_42))))), (q_43, .inr (1, [.null, .null, .null]))] H := hP
  have hD : va_D A [(h0, .inr (6, [.ref h1, .ref h2, .ref h3, .ref h4, .int 0, .ref q_1, .ref q_2, .ref q_4, .ref q_6, .ref q_8, .int 0, .int 0, .ref q_9, .int 0, .int 0])), (q_1, .inl (cy 4, 15, .inr (.inr (.inr (.inr f_42))))), (q_43, .inr (1, [.null, .null, .null]))] := hD
  refine W.widen (k := 96) (n := 586) (Nat.le_of_ble_eq_true rfl) (Nat.le_of_ble_eq_true rfl) ?_
  refine lv_dup hx hb dX6_init_127 rfl ?_
  refine gz_aftv (va_runI (As := []) (rest := [.ref q_43, .int 11, .ref q_1]) ⟨hx, hb, hml, hown, hts⟩ (c_X1_init l G cy H.size q_43 ) ⟨(gz_cb (n := 0) hts gm_242 gm_7 gm_117 ⟨by decide +kernel, by decide +kernel, by decide +kernel⟩ ⟨Nat.le_of_ble_eq_true rfl, Nat.le_of_ble_eq_true rfl⟩), rfl, hts _ gm_116⟩ (gz_preS hK hov hP hD [2] (by decide) rfl) rfl rfl hl.1 rfl (lv_room (Nat.le_of_ble_eq_true rfl)) dX6_init_128 ⟨Nat.le_of_ble_eq_true rfl, Nat.le_of_ble_eq_true rfl⟩) hP hD hS hA [2] [0, 1] rfl rfl (by decide) (by decide) (fun u_44 H locs hw_44 hP hD hS => ?_)
  have hP : va_P G vwCl [(h0, .inr (6, [.ref h1, .ref h2, .ref h3, .ref h4, .int 0, .ref q_1, .ref q_2, .ref q_4, .ref q_6, .ref q_8, .int 0, .int 0, .ref q_9, .int 0, .int 0])), (q_1, .inl (cy 4, 15, .inr (.inr (.inr (.inr f_42))))), (q_43, .inr (1, [.ref (u_44 0), .ref (u_44 1), .ref (u_44 2)])), ((u_44 0), .inl (cy 0, 6, .inl (fun _ => 0))), ((u_44 1), .inl (cy 0, 6, .inl (fun _ => (-1)))), ((u_44 2), .inl (cy 0, 6, .inl (fun _ => (-1))))] H := hP
  have hD : va_D A [(h0, .inr (6, [.ref h1, .ref h2, .ref h3, .ref h4, .int 0, .ref q_1, .ref q_2, .ref q_4, .ref q_6, .ref q_8, .int 0, .int 0, .ref q_9, .int 0, .int 0])), (q_1, .inl (cy 4, 15, .inr (.inr (.inr (.inr f_42))))), (q_43, .inr (1, [.ref (u_44 0), .ref (u_44 1), .ref (u_44 2)])), ((u_44 0), .inl (cy 0, 6, .inl (fun _ => 0))), ((u_44 1), .inl (cy 0, 6, .inl (fun _ => (-1)))), ((u_44 2), .inl (cy 0, 6, .inl (fun _ => (-1))))] := hD
  refine W.widen (k := 99) (n := 604) (Nat.le_of_ble_eq_true rfl) (Nat.le_of_ble_eq_true rfl) ?_
  refine va_astq hx hb hK hP hD hS 1 4 2 1 rfl rfl rfl rfl (vp_in_iff.mpr (by decide)) dX6_init_131 (fun H locs hP hD hS => ?_)
  obtain ⟨f_45, ef_45⟩ : ∃ g : Nat → Option Nat, g = va_up f_42 (11 : Int32).toNatClampNeg (some q_43) := ⟨_, rfl⟩
  have hP : va_P G vwCl [(h0, .inr (6, [.ref h1, .ref h2, .ref h3, .ref h4, .int 0, .ref q_1, .ref q_2, .ref q_4, .ref q_6, .ref q_8, .int 0, .int 0, .ref q_9, .int 0, .int 0])), (q_1, .inl (cy 4, 15, .inr (.inr (.inr (.inr f_45))))), (q_43, .inr (1, [.ref (u_44 0), .ref (u_44 1), .ref (u_44 2)])), ((u_44 0), .inl (cy 0, 6, .inl (fun _ => 0))), ((u_44 1), .inl (cy 0, 6, .inl (fun _ => (-1)))), ((u_44 2), .inl (cy 0, 6, .inl (fun _ => (-1))))] H := ef_45 ▸ hP
  have hD : va_D A [(h0, .inr (6, [.ref h1, .ref h2, .ref h3, .ref h4, .int 0, .ref q_1, .ref q_2, .ref q_4, .ref q_6, .ref q_8, .int 0, .int 0, .ref q_9, .int 0, .int 0])), (q_1, .inl (cy 4, 15, .inr (.inr (.inr (.inr f_45))))), (q_43, .inr (1, [.ref (u_44 0), .ref (u_44 1), .ref (u_44 2)])), ((u_44 0), .inl (cy 0, 6, .inl (fun _ => 0))), ((u_44 1), .inl (cy 0, 6, .inl (fun _ => (-1)))), ((u_44 2), .inl (cy 0, 6, .inl (fun _ => (-1))))] := ef_45 ▸ hD
  have hP : va_P G vwCl [(h0, .inr (6, [.ref h1, .ref h2, .ref h3, .ref h4, .int 0, .ref q_1, .ref q_2, .ref q_4, .ref q_6, .ref q_8, .int 0, .int 0, .ref q_9, .int 0, .int 0])), (q_1, .inl (cy 4, 15, .inr (.inr (.inr (.inr f_45)))))] H := hP.sub [0, 1] rfl
  have hD : va_D A [(h0, .inr (6, [.ref h1, .ref h2, .ref h3, .ref h4, .int 0, .ref q_1, .ref q_2, .ref q_4, .ref q_6, .ref q_8, .int 0, .int 0, .ref q_9, .int 0, .int 0])), (q_1, .inl (cy 4, 15, .inr (.inr (.inr (.inr f_45)))))] := hD.sub [0, 1] (by decide) rfl
  refine lv_iinc (v := (12)) (lv' := [(5, .int 12), (0, .ref h0), (1, .ref h1), (2, .ref h2), (3, .ref h3), (4, .ref h4)]) hx hb dX6_init_132 hl (k := 0) rfl (by decide) (by decide) rfl (fun ls hl => ?_)
  refine lv_goto (tgt := 111) hx hb dX6_init_135 (by decide) ?_
  refine lv_iload hx hb dX6_init_111 (lv_at hl 0 rfl) ?_
  refine lv_bipush (v := 14) hx hb dX6_init_113 (by decide) ?_
  refine lv_icmp_gt (tgt := 138) hx hb dX6_init_115 (by decide) (fun h9 => absurd h9 (by decide)) (fun _ => ?_)
  refine lv_aload_n hx hb dX6_init_118 rfl (lv_at hl 1 rfl) ?_
  refine va_get (ci := 6) (v := .ref q_1) (C := RX6) (T := TX6) (N := 15) hx hb hts inX6 hown hK hP 0 rfl rfl 5 (by decide) (hts _ gm_248) (fun _ h9 => h9) rfl dX6_init_119 ?_
  refine lv_iload hx hb dX6_init_122 (lv_at hl 0 rfl) ?_
  refine va_new (ci := 1) (fs := [.null, .null, .null]) (C := RX1) (T := TX1) (N := 3) hx hb hts inX1 tyX1 tyX1_ok hown (hts _ gm_239) (hts _ gm_114) (hts _ gm_7) hK hP hD hS hA rfl dfX1 (Nat.le_of_ble_eq_true rfl) (Nat.le_of_ble_eq_true rfl) dX6_init_124 (fun q_46 H hP hD hS => ?_)
  have hP : va_P G vwCl [(h0, .inr (6, [.ref h1, .ref h2, .ref h3, .ref h4, .int 0, .ref q_1, .ref q_2, .ref q_4, .ref q_6, .ref q_8, .int 0, .int 0, .ref q_9, .int 0, .int 0])), (q_1, .inl (cy 4, 15, .inr (.inr (.inr (.inr f_45))))), (q_46, .inr (1, [.null, .null, .null]))] H := hP
  have hD : va_D A [(h0, .inr (6, [.ref h1, .ref h2, .ref h3, .ref h4, .int 0, .ref q_1, .ref q_2, .ref q_4, .ref q_6, .ref q_8, .int 0, .int 0, .ref q_9, .int 0, .int 0])), (q_1, .inl (cy 4, 15, .inr (.inr (.inr (.inr f_45))))), (q_46, .inr (1, [.null, .null, .null]))] := hD
  refine W.widen (k := 100) (n := 607) (Nat.le_of_ble_eq_true rfl) (Nat.le_of_ble_eq_true rfl) ?_
  refine lv_dup hx hb dX6_init_127 rfl ?_
  refine gz_aftv (va_runI (As := []) (rest := [.ref q_46, .int 12, .ref q_1]) ⟨hx, hb, hml, hown, hts⟩ (c_X1_init l G cy H.size q_46 ) ⟨(gz_cb (n := 0) hts gm_242 gm_7 gm_117 ⟨by decide +kernel, by decide +kernel, by decide +kernel⟩ ⟨Nat.le_of_ble_eq_true rfl, Nat.le_of_ble_eq_true rfl⟩), rfl, hts _ gm_116⟩ (gz_preS hK hov hP hD [2] (by decide) rfl) rfl rfl hl.1 rfl (lv_room (Nat.le_of_ble_eq_true rfl)) dX6_init_128 ⟨Nat.le_of_ble_eq_true rfl, Nat.le_of_ble_eq_true rfl⟩) hP hD hS hA [2] [0, 1] rfl rfl (by decide) (by decide) (fun u_47 H locs hw_47 hP hD hS => ?_)
  have hP : va_P G vwCl [(h0, .inr (6, [.ref h1, .ref h2, .ref h3, .ref h4, .int 0, .ref q_1, .ref q_2, .ref q_4, .ref q_6, .ref q_8, .int 0, .int 0, .ref q_9, .int 0, .int 0])), (q_1, .inl (cy 4, 15, .inr (.inr (.inr (.inr f_45))))), (q_46, .inr (1, [.ref (u_47 0), .ref (u_47 1), .ref (u_47 2)])), ((u_47 0), .inl (cy 0, 6, .inl (fun _ => 0))), ((u_47 1), .inl (cy 0, 6, .inl (fun _ => (-1)))), ((u_47 2), .inl (cy 0, 6, .inl (fun _ => (-1))))] H := hP
  have hD : va_D A [(h0, .inr (6, [.ref h1, .ref h2, .ref h3, .ref h4, .int 0, .ref q_1, .ref q_2, .ref q_4, .ref q_6, .ref q_8, .int 0, .int 0, .ref q_9, .int 0, .int 0])), (q_1, .inl (cy 4, 15, .inr (.inr (.inr (.inr f_45))))), (q_46, .inr (1, [.ref (u_47 0), .ref (u_47 1), .ref (u_47 2)])), ((u_47 0), .inl (cy 0, 6, .inl (fun _ => 0))), ((u_47 1), .inl (cy 0, 6, .inl (fun _ => (-1)))), ((u_47 2), .inl (cy 0, 6, .inl (fun _ => (-1))))] := hD
  refine W.widen (k := 103) (n := 625) (Nat.le_of_ble_eq_true rfl) (Nat.le_of_ble_eq_true rfl) ?_
  refine va_astq hx hb hK hP hD hS 1 4 2 1 rfl rfl rfl rfl (vp_in_iff.mpr (by decide)) dX6_init_131 (fun H locs hP hD hS => ?_)
  obtain ⟨f_48, ef_48⟩ : ∃ g : Nat → Option Nat, g = va_up f_45 (12 : Int32).toNatClampNeg (some q_46) := ⟨_, rfl⟩
  have hP : va_P G vwCl [(h0, .inr (6, [.ref h1, .ref h2, .ref h3, .ref h4, .int 0, .ref q_1, .ref q_2, .ref q_4, .ref q_6, .ref q_8, .int 0, .int 0, .ref q_9, .int 0, .int 0])), (q_1, .inl (cy 4, 15, .inr (.inr (.inr (.inr f_48))))), (q_46, .inr (1, [.ref (u_47 0), .ref (u_47 1), .ref (u_47 2)])), ((u_47 0), .inl (cy 0, 6, .inl (fun _ => 0))), ((u_47 1), .inl (cy 0, 6, .inl (fun _ => (-1)))), ((u_47 2), .inl (cy 0, 6, .inl (fun _ => (-1))))] H := ef_48 ▸ hP
  have hD : va_D A [(h0, .inr (6, [.ref h1, .ref h2, .ref h3, .ref h4, .int 0, .ref q_1, .ref q_2, .ref q_4, .ref q_6, .ref q_8, .int 0, .int 0, .ref q_9, .int 0, .int 0])), (q_1, .inl (cy 4, 15, .inr (.inr (.inr (.inr f_48))))), (q_46, .inr (1, [.ref (u_47 0), .ref (u_47 1), .ref (u_47 2)])), ((u_47 0), .inl (cy 0, 6, .inl (fun _ => 0))), ((u_47 1), .inl (cy 0, 6, .inl (fun _ => (-1)))), ((u_47 2), .inl (cy 0, 6, .inl (fun _ => (-1))))] := ef_48 ▸ hD
  have hP : va_P G vwCl [(h0, .inr (6, [.ref h1, .ref h2, .ref h3, .ref h4, .int 0, .ref q_1, .ref q_2, .ref q_4, .ref q_6, .ref q_8, .int 0, .int 0, .ref q_9, .int 0, .int 0])), (q_1, .inl (cy 4, 15, .inr (.inr (.inr (.inr f_48)))))] H := hP.sub [0, 1] rfl
  have hD : va_D A [(h0, .inr (6, [.ref h1, .ref h2, .ref h3, .ref h4, .int 0, .ref q_1, .ref q_2, .ref q_4, .ref q_6, .ref q_8, .int 0, .int 0, .ref q_9, .int 0, .int 0])), (q_1, .inl (cy 4, 15, .inr (.inr (.inr (.inr f_48)))))] := hD.sub [0, 1] (by decide) rfl
  refine lv_iinc (v := (13)) (lv' := [(5, .int 13), (0, .ref h0), (1, .ref h1), (2, .ref h2), (3, .ref h3), (4, .ref h4)]) hx hb dX6_init_132 hl (k := 0) rfl (by decide) (by decide) rfl (fun ls hl => ?_)
  refine lv_goto (tgt := 111) hx hb dX6_init_135 (by decide) ?_
  refine lv_iload hx hb dX6_init_111 (lv_at hl 0 rfl) ?_
  refine lv_bipush (v := 14) hx hb dX6_init_113 (by decide) ?_
  refine lv_icmp_gt (tgt := 138) hx hb dX6_init_115 (by decide) (fun h9 => absurd h9 (by decide)) (fun _ => ?_)
  refine lv_aload_n hx hb dX6_init_118 rfl (lv_at hl 1 rfl) ?_
  refine va_get (ci := 6) (v := .ref q_1) (C := RX6) (T := TX6) (N := 15) hx hb hts inX6 hown hK hP 0 rfl rfl 5 (by decide) (hts _ gm_248) (fun _ h9 => h9) rfl dX6_init_119 ?_
  refine lv_iload hx hb dX6_init_122 (lv_at hl 0 rfl) ?_
  refine va_new (ci := 1) (fs := [.null, .null, .null]) (C := RX1) (T := TX1) (N := 3) hx hb hts inX1 tyX1 tyX1_ok hown (hts _ gm_239) (hts _ gm_114) (hts _ gm_7) hK hP hD hS hA rfl dfX1 (Nat.le_of_ble_eq_true rfl) (Nat.le_of_ble_eq_true rfl) dX6_init_124 (fun q_49 H hP hD hS => ?_)
  have hP : va_P G vwCl [(h0, .inr (6, [.ref h1, .ref h2, .ref h3, .ref h4, .int 0, .ref q_1, .ref q_2, .ref q_4, .ref q_6, .ref q_8, .int 0, .int 0, .ref q_9, .int 0, .int 0])), (q_1, .inl (cy 4, 15, .inr (.inr (.inr (.inr f_48))))), (q_49, .inr (1, [.null, .null, .null]))] H := hP
  have hD : va_D A [(h0, .inr (6, [.ref h1, .ref h2, .ref h3, .ref h4, .int 0, .ref q_1, .ref q_2, .ref q_4, .ref q_6, .ref q_8, .int 0, .int 0, .ref q_9, .int 0, .int 0])), (q_1, .inl (cy 4, 15, .inr (.inr (.inr (.inr f_48))))), (q_49, .inr (1, [.null, .null, .null]))] := hD
  refine W.widen (k := 104) (n := 628) (Nat.le_of_ble_eq_true rfl) (Nat.le_of_ble_eq_true rfl) ?_
  refine lv_dup hx hb dX6_init_127 rfl ?_
  refine gz_aftv (va_runI (As := []) (rest := [.ref q_49, .int 13, .ref q_1]) ⟨hx, hb, hml, hown, hts⟩ (c_X1_init l G cy H.size q_49 ) ⟨(gz_cb (n := 0) hts gm_242 gm_7 gm_117 ⟨by decide +kernel, by decide +kernel, by decide +kernel⟩ ⟨Nat.le_of_ble_eq_true rfl, Nat.le_of_ble_eq_true rfl⟩), rfl, hts _ gm_116⟩ (gz_preS hK hov hP hD [2] (by decide) rfl) rfl rfl hl.1 rfl (lv_room (Nat.le_of_ble_eq_true rfl)) dX6_init_128 ⟨Nat.le_of_ble_eq_true rfl, Nat.le_of_ble_eq_true rfl⟩) hP hD hS hA [2] [0, 1] rfl rfl (by decide) (by decide) (fun u_50 H locs hw_50 hP hD hS => ?_)
  have hP : va_P G vwCl [(h0, .inr (6, [.ref h1, .ref h2, .ref h3, .ref h4, .int 0, .ref q_1, .ref q_2, .ref q_4, .ref q_6, .ref q_8, .int 0, .int 0, .ref q_9, .int 0, .int 0])), (q_1, .inl (cy 4, 15, .inr (.inr (.inr (.inr f_48))))), (q_49, .inr (1, [.ref (u_50 0), .ref (u_50 1), .ref (u_50 2)])), ((u_50 0), .inl (cy 0, 6, .inl (fun _ => 0))), ((u_50 1), .inl (cy 0, 6, .inl (fun _ => (-1)))), ((u_50 2), .inl (cy 0, 6, .inl (fun _ => (-1))))] H := hP
  have hD : va_D A [(h0, .inr (6, [.ref h1, .ref h2, .ref h3, .ref h4, .int 0, .ref q_1, .ref q_2, .ref q_4, .ref q_6, .ref q_8, .int 0, .int 0, .ref q_9, .int 0, .int 0])), (q_1, .inl (cy 4, 15, .inr (.inr (.inr (.inr f_48))))), (q_49, .inr (1, [.ref (u_50 0), .ref (u_50 1), .ref (u_50 2)])), ((u_50 0), .inl (cy 0, 6, .inl (fun _ => 0))), ((u_50 1), .inl (cy 0, 6, .inl (fun _ => (-1)))), ((u_50 2), .inl (cy 0, 6, .inl (fun _ => (-1))))] := hD
  refine W.widen (k := 107) (n := 646) (Nat.le_of_ble_eq_true rfl) (Nat.le_of_ble_eq_true rfl) ?_
  refine va_astq hx hb hK hP hD hS 1 4 2 1 rfl rfl rfl rfl (vp_in_iff.mpr (by decide)) dX6_init_131 (fun H locs hP hD hS => ?_)
  obtain ⟨f_51, ef_51⟩ : ∃ g : Nat → Option Nat, g = va_up f_48 (13 : Int32).toNatClampNeg (some q_49) := ⟨_, rfl⟩
  have hP : va_P G vwCl [(h0, .inr (6, [.ref h1, .ref h2, .ref h3, .ref h4, .int 0, .ref q_1, .ref q_2, .ref q_4, .ref q_6, .ref q_8, .int 0, .int 0, .ref q_9, .int 0, .int 0])), (q_1, .inl (cy 4, 15, .inr (.inr (.inr (.inr f_51))))), (q_49, .inr (1, [.ref (u_50 0), .ref (u_50 1), .ref (u_50 2)])), ((u_50 0), .inl (cy 0, 6, .inl (fun _ => 0))), ((u_50 1), .inl (cy 0, 6, .inl (fun _ => (-1)))), ((u_50 2), .inl (cy 0, 6, .inl (fun _ => (-1))))] H := ef_51 ▸ hP
  have hD : va_D A [(h0, .inr (6, [.ref h1, .ref h2, .ref h3, .ref h4, .int 0, .ref q_1, .ref q_2, .ref q_4, .ref q_6, .ref q_8, .int 0, .int 0, .ref q_9, .int 0, .int 0])), (q_1, .inl (cy 4, 15, .inr (.inr (.inr (.inr f_51))))), (q_49, .inr (1, [.ref (u_50 0), .ref (u_50 1), .ref (u_50 2)])), ((u_50 0), .inl (cy 0, 6, .inl (fun _ => 0))), ((u_50 1), .inl (cy 0, 6, .inl (fun _ => (-1)))), ((u_50 2), .inl (cy 0, 6, .inl (fun _ => (-1))))] := ef_51 ▸ hD
  have hP : va_P G vwCl [(h0, .inr (6, [.ref h1, .ref h2, .ref h3, .ref h4, .int 0, .ref q_1, .ref q_2, .ref q_4, .ref q_6, .ref q_8, .int 0, .int 0, .ref q_9, .int 0, .int 0])), (q_1, .inl (cy 4, 15, .inr (.inr (.inr (.inr f_51)))))] H := hP.sub [0, 1] rfl
  have hD : va_D A [(h0, .inr (6, [.ref h1, .ref h2, .ref h3, .ref h4, .int 0, .ref q_1, .ref q_2, .ref q_4, .ref q_6, .ref q_8, .int 0, .int 0, .ref q_9, .int 0, .int 0])), (q_1, .inl (cy 4, 15, .inr (.inr (.inr (.inr f_51)))))] := hD.sub [0, 1] (by decide) rfl
  refine lv_iinc (v := (14)) (lv' := [(5, .int 14), (0, .ref h0), (1, .ref h1), (2, .ref h2), (3, .ref h3), (4, .ref h4)]) hx hb dX6_init_132 hl (k := 0) rfl (by decide) (by decide) rfl (fun ls hl => ?_)
  refine lv_goto (tgt := 111) hx hb dX6_init_135 (by decide) ?_
  refine lv_iload hx hb dX6_init_111 (lv_at hl 0 rfl) ?_
  refine lv_bipush (v := 14) hx hb dX6_init_113 (by decide) ?_
  refine lv_icmp_gt (tgt := 138) hx hb dX6_init_115 (by decide) (fun h9 => absurd h9 (by decide)) (fun _ => ?_)
  refine lv_aload_n hx hb dX6_init_118 rfl (lv_at hl 1 rfl) ?_
  refine va_get (ci := 6) (v := .ref q_1) (C := RX6) (T := TX6) (N := 15) hx hb hts inX6 hown hK hP 0 rfl rfl 5 (by decide) (hts _ gm_248) (fun _ h9 => h9) rfl dX6_init_119 ?_
  refine lv_iload hx hb dX6_init_122 (lv_at hl 0 rfl) ?_
  refine va_new (ci := 1) (fs := [.null, .null, .null]) (C := RX1) (T := TX1) (N := 3) hx hb hts inX1 tyX1 tyX1_ok hown (hts _ gm_239) (hts _ gm_114) (hts _ gm_7) hK hP hD hS hA rfl dfX1 (Nat.le_of_ble_eq_true rfl) (Nat.le_of_ble_eq_true rfl) dX6_init_124 (fun q_52 H hP hD hS => ?_)
  have hP : va_P G vwCl [(h0, .inr (6, [.ref h1, .ref h2, .ref h3, .ref h4, .int 0, .ref q_1, .ref q_2, .ref q_4, .ref q_6, .ref q_8, .int 0, .int 0, .ref q_9, .int 0, .int 0])), (q_1, .inl (cy 4, 15, .inr (.inr (.inr (.inr f_51))))), (q_52, .inr (1, [.null, .null, .null]))] H := hP
  have hD : va_D A [(h0, .inr (6, [.ref h1, .ref h2, .ref h3, .ref h4, .int 0, .ref q_1, .ref q_2, .ref q_4, .ref q_6, .ref q_8, .int 0, .int 0, .ref q_9, .int 0, .int 0])), (q_1, .inl (cy 4, 15, .inr (.inr (.inr (.inr f_51))))), (q_52, .inr (1, [.null, .null, .null]))] := hD
  refine W.widen (k := 108) (n := 649) (Nat.le_of_ble_eq_true rfl) (Nat.le_of_ble_eq_true rfl) ?_
  refine lv_dup hx hb dX6_init_127 rfl ?_
  refine gz_aftv (va_runI (As := []) (rest := [.ref q_52, .int 14, .ref q_1]) ⟨hx, hb, hml, hown, hts⟩ (c_X1_init l G cy H.size q_52 ) ⟨(gz_cb (n := 0) hts gm_242 gm_7 gm_117 ⟨by decide +kernel, by decide +kernel, by decide +kernel⟩ ⟨Nat.le_of_ble_eq_true rfl, Nat.le_of_ble_eq_true rfl⟩), rfl, hts _ gm_116⟩ (gz_preS hK hov hP hD [2] (by decide) rfl) rfl rfl hl.1 rfl (lv_room (Nat.le_of_ble_eq_true rfl)) dX6_init_128 ⟨Nat.le_of_ble_eq_true rfl, Nat.le_of_ble_eq_true rfl⟩) hP hD hS hA [2] [0, 1] rfl rfl (by decide) (by decide) (fun u_53 H locs hw_53 hP hD hS => ?_)
  have hP : va_P G vwCl [(h0, .inr (6, [.ref h1, .ref h2, .ref h3, .ref h4, .int 0, .ref q_1, .ref q_2, .ref q_4, .ref q_6, .ref q_8, .int 0, .int 0, .ref q_9, .int 0, .int 0])), (q_1, .inl (cy 4, 15, .inr (.inr (.inr (.inr f_51))))), (q_52, .inr (1, [.ref (u_53 0), .ref (u_53 1), .ref (u_53 2)])), ((u_53 0), .inl (cy 0, 6, .inl (fun _ => 0))), ((u_53 1), .inl (cy 0, 6, .inl (fun _ => (-1)))), ((u_53 2), .inl (cy 0, 6, .inl (fun _ => (-1))))] H := hP
  have hD : va_D A [(h0, .inr (6, [.ref h1, .ref h2, .ref h3, .ref h4, .int 0, .ref q_1, .ref q_2, .ref q_4, .ref q_6, .ref q_8, .int 0, .int 0, .ref q_9, .int 0, .int 0])), (q_1, .inl (cy 4, 15, .inr (.inr (.inr (.inr f_51))))), (q_52, .inr (1, [.ref (u_53 0), .ref (u_53 1), .ref (u_53 2)])), ((u_53 0), .inl (cy 0, 6, .inl (fun _ => 0))), ((u_53 1), .inl (cy 0, 6, .inl (fun _ => (-1)))), ((u_53 2), .inl (cy 0, 6, .inl (fun _ => (-1))))] := hD
  refine W.widen (k := 111) (n := 667) (Nat.le_of_ble_eq_true rfl) (Nat.le_of_ble_eq_true rfl) ?_
  refine va_astq hx hb hK hP hD hS 1 4 2 1 rfl rfl rfl rfl (vp_in_iff.mpr (by decide)) dX6_init_131 (fun H locs hP hD hS => ?_)
  obtain ⟨f_54, ef_54⟩ : ∃ g : Nat → Option Nat, g = va_up f_51 (14 : Int32).toNatClampNeg (some q_52) := ⟨_, rfl⟩
  have hP : va_P G vwCl [(h0, .inr (6, [.ref h1, .ref h2, .ref h3, .ref h4, .int 0, .ref q_1, .ref q_2, .ref q_4, .ref q_6, .ref q_8, .int 0, .int 0, .ref q_9, .int 0, .int 0])), (q_1, .inl (cy 4, 15, .inr (.inr (.inr (.inr f_54))))), (q_52, .inr (1, [.ref (u_53 0), .ref (u_53 1), .ref (u_53 2)])), ((u_53 0), .inl (cy 0, 6, .inl (fun _ => 0))), ((u_53 1), .inl (cy 0, 6, .inl (fun _ => (-1)))), ((u_53 2), .inl (cy 0, 6, .inl (fun _ => (-1))))] H := ef_54 ▸ hP
  have hD : va_D A [(h0, .inr (6, [.ref h1, .ref h2, .ref h3, .ref h4, .int 0, .ref q_1, .ref q_2, .ref q_4, .ref q_6, .ref q_8, .int 0, .int 0, .ref q_9, .int 0, .int 0])), (q_1, .inl (cy 4, 15, .inr (.inr (.inr (.inr f_54))))), (q_52, .inr (1, [.ref (u_53 0), .ref (u_53 1), .ref (u_53 2)])), ((u_53 0), .inl (cy 0, 6, .inl (fun _ => 0))), ((u_53 1), .inl (cy 0, 6, .inl (fun _ => (-1)))), ((u_53 2), .inl (cy 0, 6, .inl (fun _ => (-1))))] := ef_54 ▸ hD
  have hP : va_P G vwCl [(h0, .inr (6, [.ref h1, .ref h2, .ref h3, .ref h4, .int 0, .ref q_1, .ref q_2, .ref q_4, .ref q_6, .ref q_8, .int 0, .int 0, .ref q_9, .int 0, .int 0])), (q_1, .inl (cy 4, 15, .inr (.inr (.inr (.inr f_54)))))] H := hP.sub [0, 1] rfl
  have hD : va_D A [(h0, .inr (6, [.ref h1, .ref h2, .ref h3, .ref h4, .int 0, .ref q_1, .ref q_2, .ref q_4, .ref q_6, .ref q_8, .int 0, .int 0, .ref q_9, .int 0, .int 0])), (q_1, .inl (cy 4, 15, .inr (.inr (.inr (.inr f_54)))))] := hD.sub [0, 1] (by decide) rfl
  refine lv_iinc (v := (15)) (lv' := [(5, .int 15), (0, .ref h0), (1, .ref h1), (2, .ref h2), (3, .ref h3), (4, .ref h4)]) hx hb dX6_init_132 hl (k := 0) rfl (by decide) (by decide) rfl (fun ls hl => ?_)
  refine lv_goto (tgt := 111) hx hb dX6_init_135 (by decide) ?_
  refine lv_iload hx hb dX6_init_111 (lv_at hl 0 rfl) ?_
  refine lv_bipush (v := 14) hx hb dX6_init_113 (by decide) ?_
  refine lv_icmp_gt (tgt := 138) hx hb dX6_init_115 (by decide) (fun _ => ?_) (fun h9 => absurd (by decide) h9)
  exact gz_vret (cf := (fun (u : (Nat → Nat)) => [(h0, .inr (6, [.ref h1, .ref h2, .ref h3, .ref h4, .int 0, .ref (u 0), .ref (u 1), .ref (u 2), .ref (u 3), .ref (u 4), .int 0, .int 0, .ref (u 5), .int 0, .int 0]))])) (post := (fun (u : (Nat → Nat)) => True)) hx hb hr hlocks hK hP hD hS (fun k => match k with | 0 => q_1 | 1 => q_2 | 2 => q_4 | 3 => q_6 | 4 => q_8 | 5 => q_9 | _ => 0) [0] trivial (by decide) rfl (Nat.le_of_ble_eq_true rfl) (Nat.le_of_ble_eq_true rfl) dX6_init_138
end
section
theorem gm_2 : (Jvm.Cond.initialized "WellCourt$Tape") ∈ gz_T := gz_at 2 (by decide +kernel) rfl
theorem gm_3 : (Jvm.Cond.initialized "WellCourt$Reader") ∈ gz_T := gz_at 3 (by decide +kernel) rfl
theorem gm_4 : (Jvm.Cond.initialized "WellCourt$Land") ∈ gz_T := gz_at 4 (by decide +kernel) rfl
theorem gm_5 : (Jvm.Cond.initialized "WellCourt$Calendar") ∈ gz_T := gz_at 5 (by decide +kernel) rfl
theorem gm_8 : (Jvm.Cond.initialized "WellCourt$Ledger") ∈ gz_T := gz_at 8 (by decide +kernel) rfl
theorem gm_9 : (Jvm.Cond.initialized "WellCourt$Flock") ∈ gz_T := gz_at 9 (by decide +kernel) rfl
theorem gm_10 : (Jvm.Cond.initialized "WellCourt$Law") ∈ gz_T := gz_at 10 (by decide +kernel) rfl
theorem gm_11 : (Jvm.Cond.initialized "WellCourt$Planner") ∈ gz_T := gz_at 11 (by decide +kernel) rfl
theorem gm_29 : (Jvm.Cond.methodLink "WellCourt" (1 : Nat) ({ cls := "java/lang/Object", name := "<init>", desc := "()V" } : Jvm.MethodName)) ∈ gz_T := gz_at 29 (by decide +kernel) rfl
theorem gm_32 : (Jvm.Cond.classLink "WellCourt" (7 : Nat) "WellCourt$Tape") ∈ gz_T := gz_at 32 (by decide +kernel) rfl
theorem gm_33 : (Jvm.Cond.instantiable "WellCourt$Tape" (2 : Nat)) ∈ gz_T := gz_at 33 (by decide +kernel) rfl
theorem gm_35 : (Jvm.Cond.instanceMethod ({ cls := "WellCourt$Tape", name := "<init>", desc := "()V" } : Jvm.MethodName)) ∈ gz_T := gz_at 35 (by decide +kernel) rfl
theorem gm_36 : (Jvm.Cond.code ({ cls := "WellCourt$Tape", name := "<init>", desc := "()V" } : Jvm.MethodName) prog_10_method_1_code (1 : Nat) (Option.none : Option Jvm.ClassFile.FieldType)) ∈ gz_T := gz_at 36 (by decide +kernel) rfl
theorem gm_47 : (Jvm.Cond.classLink "WellCourt" (16 : Nat) "WellCourt$Reader") ∈ gz_T := gz_at 47 (by decide +kernel) rfl
theorem gm_48 : (Jvm.Cond.instantiable "WellCourt$Reader" (6 : Nat)) ∈ gz_T := gz_at 48 (by decide +kernel) rfl
theorem gm_49 : (Jvm.Cond.methodLink "WellCourt" (18 : Nat) ({ cls := "WellCourt$Reader", name := "<init>", desc := "(LWellCourt$Tape;)V" } : Jvm.MethodName)) ∈ gz_T := gz_at 49 (by decide +kernel) rfl
theorem gm_50 : (Jvm.Cond.instanceMethod ({ cls := "WellCourt$Reader", name := "<init>", desc := "(LWellCourt$Tape;)V" } : Jvm.MethodName)) ∈ gz_T := gz_at 50 (by decide +kernel) rfl
theorem gm_51 : (Jvm.Cond.code ({ cls := "WellCourt$Reader", name := "<init>", desc := "(LWellCourt$Tape;)V" } : Jvm.MethodName) prog_9_method_1_code (2 : Nat) (Option.none : Option Jvm.ClassFile.FieldType)) ∈ gz_T := gz_at 51 (by decide +kernel) rfl
theorem gm_74 : (Jvm.Cond.classLink "WellCourt" (25 : Nat) "WellCourt$Land") ∈ gz_T := gz_at 74 (by decide +kernel) rfl
theorem gm_75 : (Jvm.Cond.instantiable "WellCourt$Land" (3 : Nat)) ∈ gz_T := gz_at 75 (by decide +kernel) rfl
theorem gm_77 : (Jvm.Cond.instanceMethod ({ cls := "WellCourt$Land", name := "<init>", desc := "()V" } : Jvm.MethodName)) ∈ gz_T := gz_at 77 (by decide +kernel) rfl
theorem gm_78 : (Jvm.Cond.code ({ cls := "WellCourt$Land", name := "<init>", desc := "()V" } : Jvm.MethodName) prog_5_method_1_code (1 : Nat) (Option.none : Option Jvm.ClassFile.FieldType)) ∈ gz_T := gz_at 78 (by decide +kernel) rfl
theorem gm_99 : (Jvm.Cond.classLink "WellCourt" (32 : Nat) "WellCourt$Calendar") ∈ gz_T := gz_at 99 (by decide +kernel) rfl
theorem gm_100 : (Jvm.Cond.instantiable "WellCourt$Calendar" (1 : Nat)) ∈ gz_T := gz_at 100 (by decide +kernel) rfl
theorem gm_101 : (Jvm.Cond.methodLink "WellCourt" (34 : Nat) ({ cls := "WellCourt$Calendar", name := "<init>", desc := "()V" } : Jvm.MethodName)) ∈ gz_T := gz_at 101 (by decide +kernel) rfl
theorem gm_102 : (Jvm.Cond.instanceMethod ({ cls := "WellCourt$Calendar", name := "<init>", desc := "()V" } : Jvm.MethodName)) ∈ gz_T := gz_at 102 (by decide +kernel) rfl
theorem gm_103 : (Jvm.Cond.code ({ cls := "WellCourt$Calendar", name := "<init>", desc := "()V" } : Jvm.MethodName) prog_2_method_1_code (2 : Nat) (Option.none : Option Jvm.ClassFile.FieldType)) ∈ gz_T := gz_at 103 (by decide +kernel) rfl
theorem gm_113 : (Jvm.Cond.classLink "WellCourt" (39 : Nat) "WellCourt$Day") ∈ gz_T := gz_at 113 (by decide +kernel) rfl
theorem gm_115 : (Jvm.Cond.methodLink "WellCourt" (41 : Nat) ({ cls := "WellCourt$Day", name := "<init>", desc := "()V" } : Jvm.MethodName)) ∈ gz_T := gz_at 115 (by decide +kernel) rfl
theorem gm_134 : (Jvm.Cond.classLink "WellCourt" (46 : Nat) "WellCourt$Ledger") ∈ gz_T := gz_at 134 (by decide +kernel) rfl
theorem gm_135 : (Jvm.Cond.instantiable "WellCourt$Ledger" (2 : Nat)) ∈ gz_T := gz_at 135 (by decide +kernel) rfl
theorem gm_137 : (Jvm.Cond.instanceMethod ({ cls := "WellCourt$Ledger", name := "<init>", desc := "()V" } : Jvm.MethodName)) ∈ gz_T := gz_at 137 (by decide +kernel) rfl
theorem gm_138 : (Jvm.Cond.code ({ cls := "WellCourt$Ledger", name := "<init>", desc := "()V" } : Jvm.MethodName) prog_7_method_1_code (1 : Nat) (Option.none : Option Jvm.ClassFile.FieldType)) ∈ gz_T := gz_at 138 (by decide +kernel) rfl
theorem gm_150 : (Jvm.Cond.classLink "WellCourt" (53 : Nat) "WellCourt$Flock") ∈ gz_T := gz_at 150 (by decide +kernel) rfl
theorem gm_151 : (Jvm.Cond.instantiable "WellCourt$Flock" (5 : Nat)) ∈ gz_T := gz_at 151 (by decide +kernel) rfl
theorem gm_152 : (Jvm.Cond.methodLink "WellCourt" (55 : Nat) ({ cls := "WellCourt$Flock", name := "<init>", desc := "()V" } : Jvm.MethodName)) ∈ gz_T := gz_at 152 (by decide +kernel) rfl
theorem gm_153 : (Jvm.Cond.instanceMethod ({ cls := "WellCourt$Flock", name := "<init>", desc := "()V" } : Jvm.MethodName)) ∈ gz_T := gz_at 153 (by decide +kernel) rfl
theorem gm_154 : (Jvm.Cond.code ({ cls := "WellCourt$Flock", name := "<init>", desc := "()V" } : Jvm.MethodName) prog_4_method_1_code (1 : Nat) (Option.none : Option Jvm.ClassFile.FieldType)) ∈ gz_T := gz_at 154 (by decide +kernel) rfl
theorem gm_181 : (Jvm.Cond.classLink "WellCourt" (60 : Nat) "WellCourt$Law") ∈ gz_T := gz_at 181 (by decide +kernel) rfl
theorem gm_182 : (Jvm.Cond.instantiable "WellCourt$Law" (14 : Nat)) ∈ gz_T := gz_at 182 (by decide +kernel) rfl
theorem gm_184 : (Jvm.Cond.instanceMethod ({ cls := "WellCourt$Law", name := "<init>", desc := "()V" } : Jvm.MethodName)) ∈ gz_T := gz_at 184 (by decide +kernel) rfl
theorem gm_185 : (Jvm.Cond.code ({ cls := "WellCourt$Law", name := "<init>", desc := "()V" } : Jvm.MethodName) prog_6_method_1_code (1 : Nat) (Option.none : Option Jvm.ClassFile.FieldType)) ∈ gz_T := gz_at 185 (by decide +kernel) rfl
theorem gm_233 : (Jvm.Cond.classLink "WellCourt" (70 : Nat) "WellCourt$Planner") ∈ gz_T := gz_at 233 (by decide +kernel) rfl
theorem gm_234 : (Jvm.Cond.instantiable "WellCourt$Planner" (15 : Nat)) ∈ gz_T := gz_at 234 (by decide +kernel) rfl
theorem gm_235 : (Jvm.Cond.methodLink "WellCourt" (72 : Nat) ({ cls := "WellCourt$Planner", name := "<init>", desc := "(LWellCourt$Land;LWellCourt$Calendar;LWellCourt$Flock;LWellCourt$Law;)V" } : Jvm.MethodName)) ∈ gz_T := gz_at 235 (by decide +kernel) rfl
theorem gm_236 : (Jvm.Cond.instanceMethod ({ cls := "WellCourt$Planner", name := "<init>", desc := "(LWellCourt$Land;LWellCourt$Calendar;LWellCourt$Flock;LWellCourt$Law;)V" } : Jvm.MethodName)) ∈ gz_T := gz_at 236 (by decide +kernel) rfl
theorem gm_237 : (Jvm.Cond.code ({ cls := "WellCourt$Planner", name := "<init>", desc := "(LWellCourt$Land;LWellCourt$Calendar;LWellCourt$Flock;LWellCourt$Law;)V" } : Jvm.MethodName) prog_8_method_1_code (6 : Nat) (Option.none : Option Jvm.ClassFile.FieldType)) ∈ gz_T := gz_at 237 (by decide +kernel) rfl
theorem gm_291 : (Jvm.Cond.fieldLink "WellCourt" (10 : Nat) "WellCourt" "tape" "LWellCourt$Tape;") ∈ gz_T := gz_at 291 (by decide +kernel) rfl
theorem gm_292 : (Jvm.Cond.fieldLink "WellCourt" (21 : Nat) "WellCourt" "reader" "LWellCourt$Reader;") ∈ gz_T := gz_at 292 (by decide +kernel) rfl
theorem gm_293 : (Jvm.Cond.fieldLink "WellCourt" (28 : Nat) "WellCourt" "land" "LWellCourt$Land;") ∈ gz_T := gz_at 293 (by decide +kernel) rfl
theorem gm_294 : (Jvm.Cond.fieldLink "WellCourt" (35 : Nat) "WellCourt" "calendar" "LWellCourt$Calendar;") ∈ gz_T := gz_at 294 (by decide +kernel) rfl
theorem gm_295 : (Jvm.Cond.fieldLink "WellCourt" (42 : Nat) "WellCourt" "today" "LWellCourt$Day;") ∈ gz_T := gz_at 295 (by decide +kernel) rfl
theorem gm_296 : (Jvm.Cond.fieldLink "WellCourt" (49 : Nat) "WellCourt" "ledger" "LWellCourt$Ledger;") ∈ gz_T := gz_at 296 (by decide +kernel) rfl
theorem gm_297 : (Jvm.Cond.fieldLink "WellCourt" (56 : Nat) "WellCourt" "flock" "LWellCourt$Flock;") ∈ gz_T := gz_at 297 (by decide +kernel) rfl
theorem gm_298 : (Jvm.Cond.fieldLink "WellCourt" (63 : Nat) "WellCourt" "law" "LWellCourt$Law;") ∈ gz_T := gz_at 298 (by decide +kernel) rfl
theorem gm_299 : (Jvm.Cond.fieldLink "WellCourt" (67 : Nat) "WellCourt" "draft" "LWellCourt$Law;") ∈ gz_T := gz_at 299 (by decide +kernel) rfl
theorem gm_300 : (Jvm.Cond.fieldLink "WellCourt" (75 : Nat) "WellCourt" "planner" "LWellCourt$Planner;") ∈ gz_T := gz_at 300 (by decide +kernel) rfl
theorem gm_301 : (Jvm.Cond.fieldLink "WellCourt" (79 : Nat) "WellCourt" "date" "I") ∈ gz_T := gz_at 301 (by decide +kernel) rfl
theorem gm_302 : (Jvm.Cond.fieldLink "WellCourt" (83 : Nat) "WellCourt" "latestFault" "I") ∈ gz_T := gz_at 302 (by decide +kernel) rfl
theorem gm_900 : (Jvm.Cond.methodLink "WellCourtModel" (7 : Nat) ({ cls := "java/lang/Object", name := "<init>", desc := "()V" } : Jvm.MethodName)) ∈ gz_T := gz_at 900 (by decide +kernel) rfl
theorem gm_902 : (Jvm.Cond.fieldLink "WellCourtModel" (13 : Nat) "WellCourtModel" "isWell" "[Z") ∈ gz_T := gz_at 902 (by decide +kernel) rfl
theorem gm_903 : (Jvm.Cond.fieldLink "WellCourtModel" (17 : Nat) "WellCourtModel" "cap" "[I") ∈ gz_T := gz_at 903 (by decide +kernel) rfl
theorem gm_904 : (Jvm.Cond.fieldLink "WellCourtModel" (21 : Nat) "WellCourtModel" "rate" "[I") ∈ gz_T := gz_at 904 (by decide +kernel) rfl
theorem gm_905 : (Jvm.Cond.fieldLink "WellCourtModel" (24 : Nat) "WellCourtModel" "level" "[I") ∈ gz_T := gz_at 905 (by decide +kernel) rfl
theorem gm_906 : (Jvm.Cond.fieldLink "WellCourtModel" (27 : Nat) "WellCourtModel" "morning" "[I") ∈ gz_T := gz_at 906 (by decide +kernel) rfl
theorem gm_907 : (Jvm.Cond.fieldLink "WellCourtModel" (30 : Nat) "WellCourtModel" "owner" "[I") ∈ gz_T := gz_at 907 (by decide +kernel) rfl
theorem gm_909 : (Jvm.Cond.fieldLink "WellCourtModel" (33 : Nat) "WellCourtModel" "tape" "[B") ∈ gz_T := gz_at 909 (by decide +kernel) rfl
theorem gm_921 : (Jvm.Cond.fieldLink "WellCourtModel" (37 : Nat) "WellCourtModel" "sort" "[I") ∈ gz_T := gz_at 921 (by decide +kernel) rfl
theorem gm_922 : (Jvm.Cond.fieldLink "WellCourtModel" (40 : Nat) "WellCourtModel" "one" "[I") ∈ gz_T := gz_at 922 (by decide +kernel) rfl
theorem gm_923 : (Jvm.Cond.fieldLink "WellCourtModel" (43 : Nat) "WellCourtModel" "two" "[I") ∈ gz_T := gz_at 923 (by decide +kernel) rfl
theorem gm_924 : (Jvm.Cond.fieldLink "WellCourtModel" (46 : Nat) "WellCourtModel" "three" "[I") ∈ gz_T := gz_at 924 (by decide +kernel) rfl
theorem gm_925 : (Jvm.Cond.fieldLink "WellCourtModel" (49 : Nat) "WellCourtModel" "many" "[I") ∈ gz_T := gz_at 925 (by decide +kernel) rfl
theorem gm_926 : (Jvm.Cond.fieldLink "WellCourtModel" (52 : Nat) "WellCourtModel" "turnMany" "[I") ∈ gz_T := gz_at 926 (by decide +kernel) rfl
theorem gm_927 : (Jvm.Cond.fieldLink "WellCourtModel" (55 : Nat) "WellCourtModel" "turnClan" "[I") ∈ gz_T := gz_at 927 (by decide +kernel) rfl
theorem gm_928 : (Jvm.Cond.fieldLink "WellCourtModel" (58 : Nat) "WellCourtModel" "turnDays" "[I") ∈ gz_T := gz_at 928 (by decide +kernel) rfl
theorem gm_932 : (Jvm.Cond.fieldLink "WellCourtModel" (61 : Nat) "WellCourtModel" "dDay" "[I") ∈ gz_T := gz_at 932 (by decide +kernel) rfl
theorem gm_933 : (Jvm.Cond.fieldLink "WellCourtModel" (64 : Nat) "WellCourtModel" "dWell" "[I") ∈ gz_T := gz_at 933 (by decide +kernel) rfl
theorem gm_934 : (Jvm.Cond.fieldLink "WellCourtModel" (67 : Nat) "WellCourtModel" "dClan" "[I") ∈ gz_T := gz_at 934 (by decide +kernel) rfl
theorem gm_935 : (Jvm.Cond.fieldLink "WellCourtModel" (70 : Nat) "WellCourtModel" "dAmount" "[I") ∈ gz_T := gz_at 935 (by decide +kernel) rfl
theorem gm_936 : (Jvm.Cond.fieldLink "WellCourtModel" (73 : Nat) "WellCourtModel" "dRight" "[I") ∈ gz_T := gz_at 936 (by decide +kernel) rfl
theorem gm_937 : (Jvm.Cond.fieldLink "WellCourtModel" (76 : Nat) "WellCourtModel" "dKnown" "[I") ∈ gz_T := gz_at 937 (by decide +kernel) rfl
theorem gm_939 : (Jvm.Cond.fieldLink "WellCourtModel" (79 : Nat) "WellCourtModel" "isHerd" "[Z") ∈ gz_T := gz_at 939 (by decide +kernel) rfl
theorem gm_940 : (Jvm.Cond.fieldLink "WellCourtModel" (82 : Nat) "WellCourtModel" "hClan" "[I") ∈ gz_T := gz_at 940 (by decide +kernel) rfl
theorem gm_941 : (Jvm.Cond.fieldLink "WellCourtModel" (85 : Nat) "WellCourtModel" "hDraw" "[I") ∈ gz_T := gz_at 941 (by decide +kernel) rfl
theorem gm_942 : (Jvm.Cond.fieldLink "WellCourtModel" (88 : Nat) "WellCourtModel" "hLast" "[I") ∈ gz_T := gz_at 942 (by decide +kernel) rfl
theorem gm_943 : (Jvm.Cond.fieldLink "WellCourtModel" (91 : Nat) "WellCourtModel" "hWell" "[I") ∈ gz_T := gz_at 943 (by decide +kernel) rfl
theorem gm_944 : (Jvm.Cond.fieldLink "WellCourtModel" (94 : Nat) "WellCourtModel" "hDrank" "[I") ∈ gz_T := gz_at 944 (by decide +kernel) rfl
theorem gm_945 : (Jvm.Cond.fieldLink "WellCourtModel" (97 : Nat) "WellCourtModel" "ways" "[I") ∈ gz_T := gz_at 945 (by decide +kernel) rfl
theorem gm_946 : (Jvm.Cond.fieldLink "WellCourtModel" (100 : Nat) "WellCourtModel" "sLevel" "[I") ∈ gz_T := gz_at 946 (by decide +kernel) rfl
theorem gm_947 : (Jvm.Cond.fieldLink "WellCourtModel" (103 : Nat) "WellCourtModel" "sWell" "[I") ∈ gz_T := gz_at 947 (by decide +kernel) rfl
theorem gm_948 : (Jvm.Cond.fieldLink "WellCourtModel" (106 : Nat) "WellCourtModel" "sThere" "[I") ∈ gz_T := gz_at 948 (by decide +kernel) rfl
theorem gm_949 : (Jvm.Cond.fieldLink "WellCourtModel" (109 : Nat) "WellCourtModel" "sDrank" "[I") ∈ gz_T := gz_at 949 (by decide +kernel) rfl
theorem gm_950 : (Jvm.Cond.fieldLink "WellCourtModel" (112 : Nat) "WellCourtModel" "next" "[I") ∈ gz_T := gz_at 950 (by decide +kernel) rfl
theorem gm_951 : (Jvm.Cond.fieldLink "WellCourtModel" (115 : Nat) "WellCourtModel" "chosen" "[I") ∈ gz_T := gz_at 951 (by decide +kernel) rfl
theorem gm_952 : (Jvm.Cond.fieldLink "WellCourtModel" (118 : Nat) "WellCourtModel" "sMorning" "[I") ∈ gz_T := gz_at 952 (by decide +kernel) rfl
theorem gm_953 : (Jvm.Cond.fieldLink "WellCourtModel" (121 : Nat) "WellCourtModel" "sOwner" "[I") ∈ gz_T := gz_at 953 (by decide +kernel) rfl
theorem gm_954 : (Jvm.Cond.fieldLink "WellCourtModel" (124 : Nat) "WellCourtModel" "planned" "[I") ∈ gz_T := gz_at 954 (by decide +kernel) rfl
theorem gm_955 : (Jvm.Cond.fieldLink "WellCourtModel" (127 : Nat) "WellCourtModel" "plannedHerd" "[Z") ∈ gz_T := gz_at 955 (by decide +kernel) rfl
theorem gm_956 : (Jvm.Cond.fieldLink "WellCourtModel" (130 : Nat) "WellCourtModel" "planFrom" "I") ∈ gz_T := gz_at 956 (by decide +kernel) rfl
theorem gm_1079 : (Jvm.Cond.arrayClass Jvm.ClassFile.FieldType.boolean) ∈ gz_T := gz_at 1079 (by decide +kernel) rfl
theorem gn_34 : (Jvm.Cond.methodLinkNest "WellCourt" (9 : Nat) ({ cls := "WellCourt$Tape", name := "<init>", desc := "()V" } : Jvm.MethodName) "WellCourt") ∈ gzN := gz_nest 34 (by decide +kernel) rfl
theorem gn_76 : (Jvm.Cond.methodLinkNest "WellCourt" (27 : Nat) ({ cls := "WellCourt$Land", name := "<init>", desc := "()V" } : Jvm.MethodName) "WellCourt") ∈ gzN := gz_nest 76 (by decide +kernel) rfl
theorem gn_136 : (Jvm.Cond.methodLinkNest "WellCourt" (48 : Nat) ({ cls := "WellCourt$Ledger", name := "<init>", desc := "()V" } : Jvm.MethodName) "WellCourt") ∈ gzN := gz_nest 136 (by decide +kernel) rfl
theorem gn_183 : (Jvm.Cond.methodLinkNest "WellCourt" (62 : Nat) ({ cls := "WellCourt$Law", name := "<init>", desc := "()V" } : Jvm.MethodName) "WellCourt") ∈ gzN := gz_nest 183 (by decide +kernel) rfl
theorem inX9 : ∀ w ∈ u_ws RX9 TX9 12, w ∈ gz_T := gz_inX [303, 305, 307, 309, 311, 313, 315, 317, 319, 321, 323, 325] (by decide +kernel) (by decide +kernel)
theorem inX10 : ∀ w ∈ u_ws RX10 TX10 59, w ∈ gz_T := gz_inX [960, 962, 964, 966, 968, 970, 972, 974, 976, 978, 980, 982, 984, 986, 988, 990, 992, 994, 996, 998, 1000, 1002, 1004, 1006, 1008, 1010, 1012, 1014, 1016, 1018, 1020, 1022, 1024, 1026, 1028, 1030, 1032, 1034, 1036, 1038, 1040, 1042, 1044, 1046, 1048, 1050, 1052, 1054, 1056, 1058, 1060, 1062, 1064, 1066, 1068, 1070, 1072, 1074, 1076] (by decide +kernel) (by decide +kernel)
theorem dfX0 : ∀ j, j < 1 → defaultValue (tyX0 j) = vp_V [.null] j := by decide +kernel
theorem dfX2 : ∀ j, j < 5 → defaultValue (tyX2 j) = vp_V [.null, .null, .null, .null, .null] j := by decide +kernel
theorem dfX3 : ∀ j, j < 3 → defaultValue (tyX3 j) = vp_V [.null, .null, .null] j := by decide +kernel
theorem dfX4 : ∀ j, j < 14 → defaultValue (tyX4 j) = vp_V [.int 0, .null, .null, .null, .null, .int 0, .null, .null, .null, .int 0, .null, .null, .null, .null] j := by decide +kernel
theorem dfX5 : ∀ j, j < 2 → defaultValue (tyX5 j) = vp_V [.null, .int 0] j := by decide +kernel
theorem dfX6 : ∀ j, j < 15 → defaultValue (tyX6 j) = vp_V [.null, .null, .null, .null, .int 0, .null, .null, .null, .null, .null, .int 0, .int 0, .null, .int 0, .int 0] j := by decide +kernel
theorem dfX7 : ∀ j, j < 6 → defaultValue (tyX7 j) = vp_V [.null, .int 0, .int 0, .int 0, .int 0, .int 0] j := by decide +kernel
theorem dfX8 : ∀ j, j < 2 → defaultValue (tyX8 j) = vp_V [.null, .int 0] j := by decide +kernel
theorem dX10_init_0 : decode cX10_init 0 = .ok (.aload_n 0, 1) := by decide +kernel
theorem dX10_init_1 : decode cX10_init 1 = .ok (.invokespecial 7, 3) := by decide +kernel
theorem dX10_init_4 : decode cX10_init 4 = .ok (.aload_n 0, 1) := by decide +kernel
theorem dX10_init_5 : decode cX10_init 5 = .ok (.bipush 6, 2) := by decide +kernel
theorem dX10_init_7 : decode cX10_init 7 = .ok (.newarray .boolean, 2) := by decide +kernel
theorem dX10_init_9 : decode cX10_init 9 = .ok (.putfield 13, 3) := by decide +kernel
theorem dX10_init_12 : decode cX10_init 12 = .ok (.aload_n 0, 1) := by decide +kernel
theorem dX10_init_13 : decode cX10_init 13 = .ok (.bipush 6, 2) := by decide +kernel
theorem dX10_init_15 : decode cX10_init 15 = .ok (.newarray .int, 2) := by decide +kernel
theorem dX10_init_17 : decode cX10_init 17 = .ok (.putfield 17, 3) := by decide +kernel
theorem dX10_init_20 : decode cX10_init 20 = .ok (.aload_n 0, 1) := by decide +kernel
theorem dX10_init_21 : decode cX10_init 21 = .ok (.bipush 6, 2) := by decide +kernel
theorem dX10_init_23 : decode cX10_init 23 = .ok (.newarray .int, 2) := by decide +kernel
theorem dX10_init_25 : decode cX10_init 25 = .ok (.putfield 21, 3) := by decide +kernel
theorem dX10_init_28 : decode cX10_init 28 = .ok (.aload_n 0, 1) := by decide +kernel
theorem dX10_init_29 : decode cX10_init 29 = .ok (.bipush 6, 2) := by decide +kernel
theorem dX10_init_31 : decode cX10_init 31 = .ok (.newarray .int, 2) := by decide +kernel
theorem dX10_init_33 : decode cX10_init 33 = .ok (.putfield 24, 3) := by decide +kernel
theorem dX10_init_36 : decode cX10_init 36 = .ok (.aload_n 0, 1) := by decide +kernel
theorem dX10_init_37 : decode cX10_init 37 = .ok (.bipush 6, 2) := by decide +kernel
theorem dX10_init_39 : decode cX10_init 39 = .ok (.newarray .int, 2) := by decide +kernel
theorem dX10_init_41 : decode cX10_init 41 = .ok (.putfield 27, 3) := by decide +kernel
theorem dX10_init_44 : decode cX10_init 44 = .ok (.aload_n 0, 1) := by decide +kernel
theorem dX10_init_45 : decode cX10_init 45 = .ok (.sipush 1200, 3) := by decide +kernel
theorem dX10_init_48 : decode cX10_init 48 = .ok (.newarray .int, 2) := by decide +kernel
theorem dX10_init_50 : decode cX10_init 50 = .ok (.putfield 30, 3) := by decide +kernel
theorem dX10_init_53 : decode cX10_init 53 = .ok (.aload_n 0, 1) := by decide +kernel
theorem dX10_init_54 : decode cX10_init 54 = .ok (.sipush 800, 3) := by decide +kernel
theorem dX10_init_57 : decode cX10_init 57 = .ok (.newarray .byte, 2) := by decide +kernel
theorem dX10_init_59 : decode cX10_init 59 = .ok (.putfield 33, 3) := by decide +kernel
theorem dX10_init_62 : decode cX10_init 62 = .ok (.aload_n 0, 1) := by decide +kernel
theorem dX10_init_63 : decode cX10_init 63 = .ok (.bipush 48, 2) := by decide +kernel
theorem dX10_init_65 : decode cX10_init 65 = .ok (.newarray .int, 2) := by decide +kernel
theorem dX10_init_67 : decode cX10_init 67 = .ok (.putfield 37, 3) := by decide +kernel
theorem dX10_init_70 : decode cX10_init 70 = .ok (.aload_n 0, 1) := by decide +kernel
theorem dX10_init_71 : decode cX10_init 71 = .ok (.bipush 48, 2) := by decide +kernel
theorem dX10_init_73 : decode cX10_init 73 = .ok (.newarray .int, 2) := by decide +kernel
theorem dX10_init_75 : decode cX10_init 75 = .ok (.putfield 40, 3) := by decide +kernel
theorem dX10_init_78 : decode cX10_init 78 = .ok (.aload_n 0, 1) := by decide +kernel
theorem dX10_init_79 : decode cX10_init 79 = .ok (.bipush 48, 2) := by decide +kernel
theorem dX10_init_81 : decode cX10_init 81 = .ok (.newarray .int, 2) := by decide +kernel
theorem dX10_init_83 : decode cX10_init 83 = .ok (.putfield 43, 3) := by decide +kernel
theorem dX10_init_86 : decode cX10_init 86 = .ok (.aload_n 0, 1) := by decide +kernel
theorem dX10_init_87 : decode cX10_init 87 = .ok (.bipush 48, 2) := by decide +kernel
theorem dX10_init_89 : decode cX10_init 89 = .ok (.newarray .int, 2) := by decide +kernel
theorem dX10_init_91 : decode cX10_init 91 = .ok (.putfield 46, 3) := by decide +kernel
theorem dX10_init_94 : decode cX10_init 94 = .ok (.aload_n 0, 1) := by decide +kernel
theorem dX10_init_95 : decode cX10_init 95 = .ok (.bipush 48, 2) := by decide +kernel
theorem dX10_init_97 : decode cX10_init 97 = .ok (.newarray .int, 2) := by decide +kernel
theorem dX10_init_99 : decode cX10_init 99 = .ok (.putfield 49, 3) := by decide +kernel
theorem dX10_init_102 : decode cX10_init 102 = .ok (.aload_n 0, 1) := by decide +kernel
theorem dX10_init_103 : decode cX10_init 103 = .ok (.bipush 48, 2) := by decide +kernel
theorem dX10_init_105 : decode cX10_init 105 = .ok (.newarray .int, 2) := by decide +kernel
theorem dX10_init_107 : decode cX10_init 107 = .ok (.putfield 52, 3) := by decide +kernel
theorem dX10_init_110 : decode cX10_init 110 = .ok (.aload_n 0, 1) := by decide +kernel
theorem dX10_init_111 : decode cX10_init 111 = .ok (.sipush 384, 3) := by decide +kernel
theorem dX10_init_114 : decode cX10_init 114 = .ok (.newarray .int, 2) := by decide +kernel
theorem dX10_init_116 : decode cX10_init 116 = .ok (.putfield 55, 3) := by decide +kernel
theorem dX10_init_119 : decode cX10_init 119 = .ok (.aload_n 0, 1) := by decide +kernel
theorem dX10_init_120 : decode cX10_init 120 = .ok (.sipush 384, 3) := by decide +kernel
theorem dX10_init_123 : decode cX10_init 123 = .ok (.newarray .int, 2) := by decide +kernel
theorem dX10_init_125 : decode cX10_init 125 = .ok (.putfield 58, 3) := by decide +kernel
theorem dX10_init_128 : decode cX10_init 128 = .ok (.aload_n 0, 1) := by decide +kernel
theorem dX10_init_129 : decode cX10_init 129 = .ok (.sipush 300, 3) := by decide +kernel
theorem dX10_init_132 : decode cX10_init 132 = .ok (.newarray .int, 2) := by decide +kernel
theorem dX10_init_134 : decode cX10_init 134 = .ok (.putfield 61, 3) := by decide +kernel
theorem dX10_init_137 : decode cX10_init 137 = .ok (.aload_n 0, 1) := by decide +kernel
theorem dX10_init_138 : decode cX10_init 138 = .ok (.sipush 300, 3) := by decide +kernel
theorem dX10_init_141 : decode cX10_init 141 = .ok (.newarray .int, 2) := by decide +kernel
theorem dX10_init_143 : decode cX10_init 143 = .ok (.putfield 64, 3) := by decide +kernel
theorem dX10_init_146 : decode cX10_init 146 = .ok (.aload_n 0, 1) := by decide +kernel
theorem dX10_init_147 : decode cX10_init 147 = .ok (.sipush 300, 3) := by decide +kernel
theorem dX10_init_150 : decode cX10_init 150 = .ok (.newarray .int, 2) := by decide +kernel
theorem dX10_init_152 : decode cX10_init 152 = .ok (.putfield 67, 3) := by decide +kernel
theorem dX10_init_155 : decode cX10_init 155 = .ok (.aload_n 0, 1) := by decide +kernel
theorem dX10_init_156 : decode cX10_init 156 = .ok (.sipush 300, 3) := by decide +kernel
theorem dX10_init_159 : decode cX10_init 159 = .ok (.newarray .int, 2) := by decide +kernel
theorem dX10_init_161 : decode cX10_init 161 = .ok (.putfield 70, 3) := by decide +kernel
theorem dX10_init_164 : decode cX10_init 164 = .ok (.aload_n 0, 1) := by decide +kernel
theorem dX10_init_165 : decode cX10_init 165 = .ok (.sipush 300, 3) := by decide +kernel
theorem dX10_init_168 : decode cX10_init 168 = .ok (.newarray .int, 2) := by decide +kernel
theorem dX10_init_170 : decode cX10_init 170 = .ok (.putfield 73, 3) := by decide +kernel
theorem dX10_init_173 : decode cX10_init 173 = .ok (.aload_n 0, 1) := by decide +kernel
theorem dX10_init_174 : decode cX10_init 174 = .ok (.sipush 300, 3) := by decide +kernel
theorem dX10_init_177 : decode cX10_init 177 = .ok (.newarray .int, 2) := by decide +kernel
theorem dX10_init_179 : decode cX10_init 179 = .ok (.putfield 76, 3) := by decide +kernel
theorem dX10_init_182 : decode cX10_init 182 = .ok (.aload_n 0, 1) := by decide +kernel
theorem dX10_init_183 : decode cX10_init 183 = .ok (.iconst 4, 1) := by decide +kernel
theorem dX10_init_184 : decode cX10_init 184 = .ok (.newarray .boolean, 2) := by decide +kernel
theorem dX10_init_186 : decode cX10_init 186 = .ok (.putfield 79, 3) := by decide +kernel
theorem dX10_init_189 : decode cX10_init 189 = .ok (.aload_n 0, 1) := by decide +kernel
theorem dX10_init_190 : decode cX10_init 190 = .ok (.iconst 4, 1) := by decide +kernel
theorem dX10_init_191 : decode cX10_init 191 = .ok (.newarray .int, 2) := by decide +kernel
theorem dX10_init_193 : decode cX10_init 193 = .ok (.putfield 82, 3) := by decide +kernel
theorem dX10_init_196 : decode cX10_init 196 = .ok (.aload_n 0, 1) := by decide +kernel
theorem dX10_init_197 : decode cX10_init 197 = .ok (.iconst 4, 1) := by decide +kernel
theorem dX10_init_198 : decode cX10_init 198 = .ok (.newarray .int, 2) := by decide +kernel
theorem dX10_init_200 : decode cX10_init 200 = .ok (.putfield 85, 3) := by decide +kernel
theorem dX10_init_203 : decode cX10_init 203 = .ok (.aload_n 0, 1) := by decide +kernel
theorem dX10_init_204 : decode cX10_init 204 = .ok (.iconst 4, 1) := by decide +kernel
theorem dX10_init_205 : decode cX10_init 205 = .ok (.newarray .int, 2) := by decide +kernel
theorem dX10_init_207 : decode cX10_init 207 = .ok (.putfield 88, 3) := by decide +kernel
theorem dX10_init_210 : decode cX10_init 210 = .ok (.aload_n 0, 1) := by decide +kernel
theorem dX10_init_211 : decode cX10_init 211 = .ok (.iconst 4, 1) := by decide +kernel
theorem dX10_init_212 : decode cX10_init 212 = .ok (.newarray .int, 2) := by decide +kernel
theorem dX10_init_214 : decode cX10_init 214 = .ok (.putfield 91, 3) := by decide +kernel
theorem dX10_init_217 : decode cX10_init 217 = .ok (.aload_n 0, 1) := by decide +kernel
theorem dX10_init_218 : decode cX10_init 218 = .ok (.iconst 4, 1) := by decide +kernel
theorem dX10_init_219 : decode cX10_init 219 = .ok (.newarray .int, 2) := by decide +kernel
theorem dX10_init_221 : decode cX10_init 221 = .ok (.putfield 94, 3) := by decide +kernel
theorem dX10_init_224 : decode cX10_init 224 = .ok (.aload_n 0, 1) := by decide +kernel
theorem dX10_init_225 : decode cX10_init 225 = .ok (.bipush 36, 2) := by decide +kernel
theorem dX10_init_227 : decode cX10_init 227 = .ok (.newarray .int, 2) := by decide +kernel
theorem dX10_init_229 : decode cX10_init 229 = .ok (.putfield 97, 3) := by decide +kernel
theorem dX10_init_232 : decode cX10_init 232 = .ok (.aload_n 0, 1) := by decide +kernel
theorem dX10_init_233 : decode cX10_init 233 = .ok (.sipush 342, 3) := by decide +kernel
theorem dX10_init_236 : decode cX10_init 236 = .ok (.newarray .int, 2) := by decide +kernel
theorem dX10_init_238 : decode cX10_init 238 = .ok (.putfield 100, 3) := by decide +kernel
theorem dX10_init_241 : decode cX10_init 241 = .ok (.aload_n 0, 1) := by decide +kernel
theorem dX10_init_242 : decode cX10_init 242 = .ok (.sipush 228, 3) := by decide +kernel
theorem dX10_init_245 : decode cX10_init 245 = .ok (.newarray .int, 2) := by decide +kernel
theorem dX10_init_247 : decode cX10_init 247 = .ok (.putfield 103, 3) := by decide +kernel
theorem dX10_init_250 : decode cX10_init 250 = .ok (.aload_n 0, 1) := by decide +kernel
theorem dX10_init_251 : decode cX10_init 251 = .ok (.sipush 228, 3) := by decide +kernel
theorem dX10_init_254 : decode cX10_init 254 = .ok (.newarray .int, 2) := by decide +kernel
theorem dX10_init_256 : decode cX10_init 256 = .ok (.putfield 106, 3) := by decide +kernel
theorem dX10_init_259 : decode cX10_init 259 = .ok (.aload_n 0, 1) := by decide +kernel
theorem dX10_init_260 : decode cX10_init 260 = .ok (.sipush 228, 3) := by decide +kernel
theorem dX10_init_263 : decode cX10_init 263 = .ok (.newarray .int, 2) := by decide +kernel
theorem dX10_init_265 : decode cX10_init 265 = .ok (.putfield 109, 3) := by decide +kernel
theorem dX10_init_268 : decode cX10_init 268 = .ok (.aload_n 0, 1) := by decide +kernel
theorem dX10_init_269 : decode cX10_init 269 = .ok (.bipush 57, 2) := by decide +kernel
theorem dX10_init_271 : decode cX10_init 271 = .ok (.newarray .int, 2) := by decide +kernel
theorem dX10_init_273 : decode cX10_init 273 = .ok (.putfield 112, 3) := by decide +kernel
theorem dX10_init_276 : decode cX10_init 276 = .ok (.aload_n 0, 1) := by decide +kernel
theorem dX10_init_277 : decode cX10_init 277 = .ok (.bipush 57, 2) := by decide +kernel
theorem dX10_init_279 : decode cX10_init 279 = .ok (.newarray .int, 2) := by decide +kernel
theorem dX10_init_281 : decode cX10_init 281 = .ok (.putfield 115, 3) := by decide +kernel
theorem dX10_init_284 : decode cX10_init 284 = .ok (.aload_n 0, 1) := by decide +kernel
theorem dX10_init_285 : decode cX10_init 285 = .ok (.sipush 342, 3) := by decide +kernel
theorem dX10_init_288 : decode cX10_init 288 = .ok (.newarray .int, 2) := by decide +kernel
theorem dX10_init_290 : decode cX10_init 290 = .ok (.putfield 118, 3) := by decide +kernel
theorem dX10_init_293 : decode cX10_init 293 = .ok (.aload_n 0, 1) := by decide +kernel
theorem dX10_init_294 : decode cX10_init 294 = .ok (.sipush 342, 3) := by decide +kernel
theorem dX10_init_297 : decode cX10_init 297 = .ok (.newarray .int, 2) := by decide +kernel
theorem dX10_init_299 : decode cX10_init 299 = .ok (.putfield 121, 3) := by decide +kernel
theorem dX10_init_302 : decode cX10_init 302 = .ok (.aload_n 0, 1) := by decide +kernel
theorem dX10_init_303 : decode cX10_init 303 = .ok (.bipush 56, 2) := by decide +kernel
theorem dX10_init_305 : decode cX10_init 305 = .ok (.newarray .int, 2) := by decide +kernel
theorem dX10_init_307 : decode cX10_init 307 = .ok (.putfield 124, 3) := by decide +kernel
theorem dX10_init_310 : decode cX10_init 310 = .ok (.aload_n 0, 1) := by decide +kernel
theorem dX10_init_311 : decode cX10_init 311 = .ok (.iconst 4, 1) := by decide +kernel
theorem dX10_init_312 : decode cX10_init 312 = .ok (.newarray .boolean, 2) := by decide +kernel
theorem dX10_init_314 : decode cX10_init 314 = .ok (.putfield 127, 3) := by decide +kernel
theorem dX10_init_317 : decode cX10_init 317 = .ok (.aload_n 0, 1) := by decide +kernel
theorem dX10_init_318 : decode cX10_init 318 = .ok (.iconst (-1), 1) := by decide +kernel
theorem dX10_init_319 : decode cX10_init 319 = .ok (.putfield 130, 3) := by decide +kernel
theorem dX10_init_322 : decode cX10_init 322 = .ok (.iconst 0, 1) := by decide +kernel
theorem dX10_init_323 : decode cX10_init 323 = .ok (.istore_n 1, 1) := by decide +kernel
theorem dX10_init_324 : decode cX10_init 324 = .ok (.iload_n 1, 1) := by decide +kernel
theorem dX10_init_325 : decode cX10_init 325 = .ok (.sipush 1200, 3) := by decide +kernel
theorem dX10_init_328 : decode cX10_init 328 = .ok (.if_icmp .ge 16, 3) := by decide +kernel
theorem dX10_init_331 : decode cX10_init 331 = .ok (.aload_n 0, 1) := by decide +kernel
theorem dX10_init_332 : decode cX10_init 332 = .ok (.getfield 30, 3) := by decide +kernel
theorem dX10_init_335 : decode cX10_init 335 = .ok (.iload_n 1, 1) := by decide +kernel
theorem dX10_init_336 : decode cX10_init 336 = .ok (.iconst (-1), 1) := by decide +kernel
theorem dX10_init_337 : decode cX10_init 337 = .ok (.iastore, 1) := by decide +kernel
theorem dX10_init_338 : decode cX10_init 338 = .ok (.iinc 1 1, 3) := by decide +kernel
theorem dX10_init_341 : decode cX10_init 341 = .ok (.goto (-17), 3) := by decide +kernel
theorem dX10_init_344 : decode cX10_init 344 = .ok (.return_, 1) := by decide +kernel
theorem dX9_init_0 : decode cX9_init 0 = .ok (.aload_n 0, 1) := by decide +kernel
theorem dX9_init_1 : decode cX9_init 1 = .ok (.invokespecial 1, 3) := by decide +kernel
theorem dX9_init_4 : decode cX9_init 4 = .ok (.aload_n 0, 1) := by decide +kernel
theorem dX9_init_5 : decode cX9_init 5 = .ok (.new 7, 3) := by decide +kernel
theorem dX9_init_8 : decode cX9_init 8 = .ok (.dup, 1) := by decide +kernel
theorem dX9_init_9 : decode cX9_init 9 = .ok (.invokespecial 9, 3) := by decide +kernel
theorem dX9_init_12 : decode cX9_init 12 = .ok (.putfield 10, 3) := by decide +kernel
theorem dX9_init_15 : decode cX9_init 15 = .ok (.aload_n 0, 1) := by decide +kernel
theorem dX9_init_16 : decode cX9_init 16 = .ok (.new 16, 3) := by decide +kernel
theorem dX9_init_19 : decode cX9_init 19 = .ok (.dup, 1) := by decide +kernel
theorem dX9_init_20 : decode cX9_init 20 = .ok (.aload_n 0, 1) := by decide +kernel
theorem dX9_init_21 : decode cX9_init 21 = .ok (.getfield 10, 3) := by decide +kernel
theorem dX9_init_24 : decode cX9_init 24 = .ok (.invokespecial 18, 3) := by decide +kernel
theorem dX9_init_27 : decode cX9_init 27 = .ok (.putfield 21, 3) := by decide +kernel
theorem dX9_init_30 : decode cX9_init 30 = .ok (.aload_n 0, 1) := by decide +kernel
theorem dX9_init_31 : decode cX9_init 31 = .ok (.new 25, 3) := by decide +kernel
theorem dX9_init_34 : decode cX9_init 34 = .ok (.dup, 1) := by decide +kernel
theorem dX9_init_35 : decode cX9_init 35 = .ok (.invokespecial 27, 3) := by decide +kernel
theorem dX9_init_38 : decode cX9_init 38 = .ok (.putfield 28, 3) := by decide +kernel
theorem dX9_init_41 : decode cX9_init 41 = .ok (.aload_n 0, 1) := by decide +kernel
theorem dX9_init_42 : decode cX9_init 42 = .ok (.new 32, 3) := by decide +kernel
theorem dX9_init_45 : decode cX9_init 45 = .ok (.dup, 1) := by decide +kernel
theorem dX9_init_46 : decode cX9_init 46 = .ok (.invokespecial 34, 3) := by decide +kernel
theorem dX9_init_49 : decode cX9_init 49 = .ok (.putfield 35, 3) := by decide +kernel
theorem dX9_init_52 : decode cX9_init 52 = .ok (.aload_n 0, 1) := by decide +kernel
theorem dX9_init_53 : decode cX9_init 53 = .ok (.new 39, 3) := by decide +kernel
theorem dX9_init_56 : decode cX9_init 56 = .ok (.dup, 1) := by decide +kernel
theorem dX9_init_57 : decode cX9_init 57 = .ok (.invokespecial 41, 3) := by decide +kernel
theorem dX9_init_60 : decode cX9_init 60 = .ok (.putfield 42, 3) := by decide +kernel
theorem dX9_init_63 : decode cX9_init 63 = .ok (.aload_n 0, 1) := by decide +kernel
theorem dX9_init_64 : decode cX9_init 64 = .ok (.new 46, 3) := by decide +kernel
theorem dX9_init_67 : decode cX9_init 67 = .ok (.dup, 1) := by decide +kernel
theorem dX9_init_68 : decode cX9_init 68 = .ok (.invokespecial 48, 3) := by decide +kernel
theorem dX9_init_71 : decode cX9_init 71 = .ok (.putfield 49, 3) := by decide +kernel
theorem dX9_init_74 : decode cX9_init 74 = .ok (.aload_n 0, 1) := by decide +kernel
theorem dX9_init_75 : decode cX9_init 75 = .ok (.new 53, 3) := by decide +kernel
theorem dX9_init_78 : decode cX9_init 78 = .ok (.dup, 1) := by decide +kernel
theorem dX9_init_79 : decode cX9_init 79 = .ok (.invokespecial 55, 3) := by decide +kernel
theorem dX9_init_82 : decode cX9_init 82 = .ok (.putfield 56, 3) := by decide +kernel
theorem dX9_init_85 : decode cX9_init 85 = .ok (.aload_n 0, 1) := by decide +kernel
theorem dX9_init_86 : decode cX9_init 86 = .ok (.new 60, 3) := by decide +kernel
theorem dX9_init_89 : decode cX9_init 89 = .ok (.dup, 1) := by decide +kernel
theorem dX9_init_90 : decode cX9_init 90 = .ok (.invokespecial 62, 3) := by decide +kernel
theorem dX9_init_93 : decode cX9_init 93 = .ok (.putfield 63, 3) := by decide +kernel
theorem dX9_init_96 : decode cX9_init 96 = .ok (.aload_n 0, 1) := by decide +kernel
theorem dX9_init_97 : decode cX9_init 97 = .ok (.new 60, 3) := by decide +kernel
theorem dX9_init_100 : decode cX9_init 100 = .ok (.dup, 1) := by decide +kernel
theorem dX9_init_101 : decode cX9_init 101 = .ok (.invokespecial 62, 3) := by decide +kernel
theorem dX9_init_104 : decode cX9_init 104 = .ok (.putfield 67, 3) := by decide +kernel
theorem dX9_init_107 : decode cX9_init 107 = .ok (.aload_n 0, 1) := by decide +kernel
theorem dX9_init_108 : decode cX9_init 108 = .ok (.new 70, 3) := by decide +kernel
theorem dX9_init_111 : decode cX9_init 111 = .ok (.dup, 1) := by decide +kernel
theorem dX9_init_112 : decode cX9_init 112 = .ok (.aload_n 0, 1) := by decide +kernel
theorem dX9_init_113 : decode cX9_init 113 = .ok (.getfield 28, 3) := by decide +kernel
theorem dX9_init_116 : decode cX9_init 116 = .ok (.aload_n 0, 1) := by decide +kernel
theorem dX9_init_117 : decode cX9_init 117 = .ok (.getfield 35, 3) := by decide +kernel
theorem dX9_init_120 : decode cX9_init 120 = .ok (.aload_n 0, 1) := by decide +kernel
theorem dX9_init_121 : decode cX9_init 121 = .ok (.getfield 56, 3) := by decide +kernel
theorem dX9_init_124 : decode cX9_init 124 = .ok (.aload_n 0, 1) := by decide +kernel
theorem dX9_init_125 : decode cX9_init 125 = .ok (.getfield 63, 3) := by decide +kernel
theorem dX9_init_128 : decode cX9_init 128 = .ok (.invokespecial 72, 3) := by decide +kernel
theorem dX9_init_131 : decode cX9_init 131 = .ok (.putfield 75, 3) := by decide +kernel
theorem dX9_init_134 : decode cX9_init 134 = .ok (.aload_n 0, 1) := by decide +kernel
theorem dX9_init_135 : decode cX9_init 135 = .ok (.iconst 0, 1) := by decide +kernel
theorem dX9_init_136 : decode cX9_init 136 = .ok (.putfield 79, 3) := by decide +kernel
theorem dX9_init_139 : decode cX9_init 139 = .ok (.aload_n 0, 1) := by decide +kernel
theorem dX9_init_140 : decode cX9_init 140 = .ok (.iconst 0, 1) := by decide +kernel
theorem dX9_init_141 : decode cX9_init 141 = .ok (.putfield 83, 3) := by decide +kernel
theorem dX9_init_144 : decode cX9_init 144 = .ok (.return_, 1) := by decide +kernel
set_option maxHeartbeats 4000000 in
set_option maxRecDepth 100000 in
/-- WellCourt(): the court as it is new; cells that no first call asks for are left out -/
theorem c_X9_init (l : Launch) (G : va_G) (cy : Nat → ClassId) (sz : Nat) (h0 : Nat)  : gMv l yX9_init cX9_init 1 ({ frames := 3, cells := 187, slots := 5828, locals := 68 }) G cy sz [.ref h0] [(h0, .inr (9, [.null, .null, .null, .null, .null, .null, .null, .null, .null, .null, .int 0, .int 0]))] (fun (u : (Nat → Nat) × (Nat → Nat) × (Nat → Nat)) => True) (fun (u : (Nat → Nat) × (Nat → Nat) × (Nat → Nat)) => [(h0, .inr (9, [.ref (u.1 0), .ref (u.1 1), .ref (u.1 2), .ref (u.1 3), .ref (u.1 4), .ref (u.1 5), .ref (u.1 6), .ref (u.1 7), .ref (u.1 8), .ref (u.1 9), .int 0, .int 0])), ((u.1 0), .inr (8, [.ref (u.1 10), .int 0])), ((u.1 10), .inl (cy 1, 800, .inl (fun _ => 0))), ((u.1 1), .inr (7, [.ref (u.1 0), .int 0, .int 0, .int 0, .int 0, .int 0])), ((u.1 2), .inr (3, [.ref (u.1 11), .ref (u.1 12), .ref (u.1 13)])), ((u.1 11), .inl (cy 0, 6, .inl (fun _ => 0))), ((u.1 12), .inl (cy 0, 6, .inl (fun _ => 0))), ((u.1 13), .inl (cy 3, 6, .inr (.inr (.inr (.inr (fun i => if i < 6 then some (u.2.1 i) else none)))))), ((u.2.1 0), .inl (cy 0, 6, .inl (fun _ => 0))), ((u.2.1 1), .inl (cy 0, 6, .inl (fun _ => 0))), ((u.2.1 2), .inl (cy 0, 6, .inl (fun _ => 0))), ((u.2.1 3), .inl (cy 0, 6, .inl (fun _ => 0))), ((u.2.1 4), .inl (cy 0, 6, .inl (fun _ => 0))), ((u.2.1 5), .inl (cy 0, 6, .inl (fun _ => 0))), ((u.1 3), .inr (0, [.ref (u.1 14)])), ((u.1 14), .inl (cy 3, 6, .inr (.inr (.inr (.inr (fun i => if i < 6 then some (u.2.2 i) else none)))))), ((u.2.2 0), .inl (cy 0, 200, .inl (fun _ => (-1)))), ((u.2.2 1), .inl (cy 0, 200, .inl (fun _ => (-1)))), ((u.2.2 2), .inl (cy 0, 200, .inl (fun _ => (-1)))), ((u.2.2 3), .inl (cy 0, 200, .inl (fun _ => (-1)))), ((u.2.2 4), .inl (cy 0, 200, .inl (fun _ => (-1)))), ((u.2.2 5), .inl (cy 0, 200, .inl (fun _ => (-1)))), ((u.1 4), .inr (1, [.ref (u.1 15), .ref (u.1 16), .ref (u.1 17)])), ((u.1 15), .inl (cy 0, 6, .inl (fun _ => 0))), ((u.1 16), .inl (cy 0, 6, .inl (fun _ => (-1)))), ((u.1 17), .inl (cy 0, 6, .inl (fun _ => (-1)))), ((u.1 5), .inr (5, [.ref (u.1 18), .int 0])), ((u.1 6), .inr (2, [.ref (u.1 19), .ref (u.1 20), .ref (u.1 21), .ref (u.1 22), .ref (u.1 23)])), ((u.1 19), .inl (cy 0, 4, .inl (fun _ => (-1)))), ((u.1 7), .inr (4, [.int 0, .ref (u.1 24), .ref (u.1 25), .ref (u.1 26), .ref (u.1 27), .int 0, .ref (u.1 28), .ref (u.1 29), .ref (u.1 30), .int 0, .ref (u.1 31), .ref (u.1 32), .ref (u.1 33), .ref (u.1 34)])), ((u.1 25), .inl (cy 0, 6, .inl (fun _ => 0))), ((u.1 26), .inl (cy 0, 6, .inl (fun _ => 0))), ((u.1 27), .inl (cy 0, 6, .inl (fun _ => 0))), ((u.1 8), .inr (4, [.int 0, .ref (u.1 35), .ref (u.1 36), .ref (u.1 37), .ref (u.1 38), .int 0, .ref (u.1 39), .ref (u.1 40), .ref (u.1 41), .int 0, .ref (u.1 42), .ref (u.1 43), .ref (u.1 44), .ref (u.1 45)])), ((u.1 36), .inl (cy 0, 6, .inl (fun _ => 0))), ((u.1 37), .inl (cy 0, 6, .inl (fun _ => 0))), ((u.1 38), .inl (cy 0, 6, .inl (fun _ => 0))), ((u.1 9), .inr (6, [.ref (u.1 2), .ref (u.1 3), .ref (u.1 6), .ref (u.1 7), .int 0, .ref (u.1 46), .ref (u.1 47), .ref (u.1 48), .ref (u.1 49), .ref (u.1 50), .int 0, .int 0, .ref (u.1 51), .int 0, .int 0]))]) := by
  refine gz_start (fun A => gQv G cy _ _ A) (by decide) (Nat.le_of_ble_eq_true rfl) ?_
  intro p e s m below meth c A ls H hx hb hr hml hlocks hin hown hts hK hov hsz hP hD hS hA hl
  have hl : lv_has ls 1 [(0, .ref h0)] := hl
  refine lv_aload_n hx hb dX9_init_0 rfl (lv_at hl 0 rfl) ?_
  refine W.objInit hx hb hown (hts _ gm_29) (hts _ gm_30) (hts _ gm_31) rfl (by rw [hml]; exact hl.1) rfl dX9_init_1 (Nat.le_of_ble_eq_true rfl) (Nat.le_of_ble_eq_true rfl) ?_
  refine W.eq (g2 := F0 m 4 ls []) rfl ?_
  refine lv_aload_n hx hb dX9_init_4 rfl (lv_at hl 0 rfl) ?_
  refine va_new (ci := 8) (fs := [.null, .int 0]) (C := RX8) (T := TX8) (N := 2) hx hb hts inX8 tyX8 tyX8_ok hown (hts _ gm_32) (hts _ gm_33) (hts _ gm_2) hK hP hD hS hA rfl dfX8 (Nat.le_of_ble_eq_true rfl) (Nat.le_of_ble_eq_true rfl) dX9_init_5 (fun q_1 H hP hD hS => ?_)
  have hP : va_P G vwCl [(h0, .inr (9, [.null, .null, .null, .null, .null, .null, .null, .null, .null, .null, .int 0, .int 0])), (q_1, .inr (8, [.null, .int 0]))] H := hP
  have hD : va_D A [(h0, .inr (9, [.null, .null, .null, .null, .null, .null, .null, .null, .null, .null, .int 0, .int 0])), (q_1, .inr (8, [.null, .int 0]))] := hD
  refine W.widen (k := 1) (n := 2) (Nat.le_of_ble_eq_true rfl) (Nat.le_of_ble_eq_true rfl) ?_
  refine lv_dup hx hb dX9_init_8 rfl ?_
  refine gz_aftv (va_runIN (As := []) (rest := [.ref q_1, .ref h0]) ⟨hx, hb, hml, hown, hts⟩ (c_X8_init l G cy H.size q_1 ) ⟨(va_cnB 0 hts (gz_good gm_36) rfl rfl rfl (hov.2.2 _ gn_34) (hts _ gm_2) ⟨by decide +kernel, by decide +kernel, by decide +kernel⟩ ⟨Nat.le_of_ble_eq_true rfl, Nat.le_of_ble_eq_true rfl⟩), rfl, hts _ gm_35⟩ (gz_preS hK hov hP hD [1] (by decide) rfl) rfl rfl hl.1 rfl (lv_room (Nat.le_of_ble_eq_true rfl)) dX9_init_9 ⟨Nat.le_of_ble_eq_true rfl, Nat.le_of_ble_eq_true rfl⟩) hP hD hS hA [1] [0] rfl rfl (by decide) (by decide) (fun u_2 H locs hw_2 hP hD hS => ?_)
  have hP : va_P G vwCl [(h0, .inr (9, [.null, .null, .null, .null, .null, .null, .null, .null, .null, .null, .int 0, .int 0])), (q_1, .inr (8, [.ref (u_2 0), .int 0])), ((u_2 0), .inl (cy 1, 800, .inl (fun _ => 0)))] H := hP
  have hD : va_D A [(h0, .inr (9, [.null, .null, .null, .null, .null, .null, .null, .null, .null, .null, .int 0, .int 0])), (q_1, .inr (8, [.ref (u_2 0), .int 0])), ((u_2 0), .inl (cy 1, 800, .inl (fun _ => 0)))] := hD
  refine W.widen (k := 2) (n := 802) (Nat.le_of_ble_eq_true rfl) (Nat.le_of_ble_eq_true rfl) ?_
  refine va_putF (ci := 9) (v := .ref q_1) (ty := .object "WellCourt$Tape") (C := RX9) (T := TX9) (N := 12) hx hb hts inX9 tyX9 tyX9_ok nmX9 hown hK hP hD hS 0 rfl rfl 0 (by decide) (hts _ gm_291) (fun _ h9 => h9) rfl hin rfl (by decide +kernel) rfl rfl (Nat.le_of_ble_eq_true rfl) dX9_init_12 (fun H locs hP hD hS => ?_)
  have hP : va_P G vwCl [(h0, .inr (9, [.ref q_1, .null, .null, .null, .null, .null, .null, .null, .null, .null, .int 0, .int 0])), (q_1, .inr (8, [.ref (u_2 0), .int 0])), ((u_2 0), .inl (cy 1, 800, .inl (fun _ => 0)))] H := hP
  have hD : va_D A [(h0, .inr (9, [.ref q_1, .null, .null, .null, .null, .null, .null, .null, .null, .null, .int 0, .int 0])), (q_1, .inr (8, [.ref (u_2 0), .int 0])), ((u_2 0), .inl (cy 1, 800, .inl (fun _ => 0)))] := hD
  refine lv_aload_n hx hb dX9_init_15 rfl (lv_at hl 0 rfl) ?_
  refine va_new (ci := 7) (fs := [.null, .int 0, .int 0, .int 0, .int 0, .int 0]) (C := RX7) (T := TX7) (N := 6) hx hb hts inX7 tyX7 tyX7_ok hown (hts _ gm_47) (hts _ gm_48) (hts _ gm_3) hK hP hD hS hA rfl dfX7 (Nat.le_of_ble_eq_true rfl) (Nat.le_of_ble_eq_true rfl) dX9_init_16 (fun q_3 H hP hD hS => ?_)
  have hP : va_P G vwCl [(h0, .inr (9, [.ref q_1, .null, .null, .null, .null, .null, .null, .null, .null, .null, .int 0, .int 0])), (q_1, .inr (8, [.ref (u_2 0), .int 0])), ((u_2 0), .inl (cy 1, 800, .inl (fun _ => 0))), (q_3, .inr (7, [.null, .int 0, .int 0, .int 0, .int 0, .int 0]))] H := hP
  have hD : va_D A [(h0, .inr (9, [.ref q_1, .null, .null, .null, .null, .null, .null, .null, .null, .null, .int 0, .int 0])), (q_1, .inr (8, [.ref (u_2 0), .int 0])), ((u_2 0), .inl (cy 1, 800, .inl (fun _ => 0))), (q_3, .inr (7, [.null, .int 0, .int 0, .int 0, .int 0, .int 0]))] := hD
  refine W.widen (k := 3) (n := 808) (Nat.le_of_ble_eq_true rfl) (Nat.le_of_ble_eq_true rfl) ?_
  refine lv_dup hx hb dX9_init_19 rfl ?_
  refine lv_aload_n hx hb dX9_init_20 rfl (lv_at hl 0 rfl) ?_
  refine va_get (ci := 9) (v := .ref q_1) (C := RX9) (T := TX9) (N := 12) hx hb hts inX9 hown hK hP 0 rfl rfl 0 (by decide) (hts _ gm_291) (fun _ h9 => h9) rfl dX9_init_21 ?_
  refine gz_aftv (va_runI (As := [.ref q_1]) (rest := [.ref q_3, .ref h0]) ⟨hx, hb, hml, hown, hts⟩ (c_X7_init l G cy H.size q_3 q_1 ) ⟨(gz_cb (n := 1) hts gm_49 gm_3 gm_51 ⟨by decide +kernel, by decide +kernel, by decide +kernel⟩ ⟨Nat.le_of_ble_eq_true rfl, Nat.le_of_ble_eq_true rfl⟩), rfl, hts _ gm_50⟩ (gz_preS hK hov hP hD [3] (by decide) rfl) rfl rfl hl.1 rfl (lv_room (Nat.le_of_ble_eq_true rfl)) dX9_init_24 ⟨Nat.le_of_ble_eq_true rfl, Nat.le_of_ble_eq_true rfl⟩) hP hD hS hA [3] [0, 1, 2] rfl rfl (by decide) (by decide) (fun u_4 H locs hw_4 hP hD hS => ?_)
  have hP : va_P G vwCl [(h0, .inr (9, [.ref q_1, .null, .null, .null, .null, .null, .null, .null, .null, .null, .int 0, .int 0])), (q_1, .inr (8, [.ref (u_2 0), .int 0])), ((u_2 0), .inl (cy 1, 800, .inl (fun _ => 0))), (q_3, .inr (7, [.ref q_1, .int 0, .int 0, .int 0, .int 0, .int 0]))] H := hP
  have hD : va_D A [(h0, .inr (9, [.ref q_1, .null, .null, .null, .null, .null, .null, .null, .null, .null, .int 0, .int 0])), (q_1, .inr (8, [.ref (u_2 0), .int 0])), ((u_2 0), .inl (cy 1, 800, .inl (fun _ => 0))), (q_3, .inr (7, [.ref q_1, .int 0, .int 0, .int 0, .int 0, .int 0]))] := hD
  refine va_putF (ci := 9) (v := .ref q_3) (ty := .object "WellCourt$Reader") (C := RX9) (T := TX9) (N := 12) hx hb hts inX9 tyX9 tyX9_ok nmX9 hown hK hP hD hS 0 rfl rfl 1 (by decide) (hts _ gm_292) (fun _ h9 => h9) rfl hin rfl (by decide +kernel) rfl rfl (Nat.le_of_ble_eq_true rfl) dX9_init_27 (fun H locs hP hD hS => ?_)
  have hP : va_P G vwCl [(h0, .inr (9, [.ref q_1, .ref q_3, .null, .null, .null, .null, .null, .null, .null, .null, .int 0, .int 0])), (q_1, .inr (8, [.ref (u_2 0), .int 0])), ((u_2 0), .inl (cy 1, 800, .inl (fun _ => 0))), (q_3, .inr (7, [.ref q_1, .int 0, .int 0, .int 0, .int 0, .int 0]))] H := hP
  have hD : va_D A [(h0, .inr (9, [.ref q_1, .ref q_3, .null, .null, .null, .null, .null, .null, .null, .null, .int 0, .int 0])), (q_1, .inr (8, [.ref (u_2 0), .int 0])), ((u_2 0), .inl (cy 1, 800, .inl (fun _ => 0))), (q_3, .inr (7, [.ref q_1, .int 0, .int 0, .int 0, .int 0, .int 0]))] := hD
  refine lv_aload_n hx hb dX9_init_30 rfl (lv_at hl 0 rfl) ?_
  refine va_new (ci := 3) (fs := [.null, .null, .null]) (C := RX3) (T := TX3) (N := 3) hx hb hts inX3 tyX3 tyX3_ok hown (hts _ gm_74) (hts _ gm_75) (hts _ gm_4) hK hP hD hS hA rfl dfX3 (Nat.le_of_ble_eq_true rfl) (Nat.le_of_ble_eq_true rfl) dX9_init_31 (fun q_5 H hP hD hS => ?_)
  have hP : va_P G vwCl [(h0, .inr (9, [.ref q_1, .ref q_3, .null, .null, .null, .null, .null, .null, .null, .null, .int 0, .int 0])), (q_1, .inr (8, [.ref (u_2 0), .int 0])), ((u_2 0), .inl (cy 1, 800, .inl (fun _ => 0))), (q_3, .inr (7, [.ref q_1, .int 0, .int 0, .int 0, .int 0, .int 0])), (q_5, .inr (3, [.null, .null, .null]))] H := hP
  have hD : va_D A [(h0, .inr (9, [.ref q_1, .ref q_3, .null, .null, .null, .null, .null, .null, .null, .null, .int 0, .int 0])), (q_1, .inr (8, [.ref (u_2 0), .int 0])), ((u_2 0), .inl (cy 1, 800, .inl (fun _ => 0))), (q_3, .inr (7, [.ref q_1, .int 0, .int 0, .int 0, .int 0, .int 0])), (q_5, .inr (3, [.null, .null, .null]))] := hD
  refine W.widen (k := 4) (n := 811) (Nat.le_of_ble_eq_true rfl) (Nat.le_of_ble_eq_true rfl) ?_
  refine lv_dup hx hb dX9_init_34 rfl ?_
  refine gz_aftv (va_runIN (As := []) (rest := [.ref q_5, .ref h0]) ⟨hx, hb, hml, hown, hts⟩ (c_X3_init l G cy H.size q_5 ) ⟨(va_cnB 0 hts (gz_good gm_78) rfl rfl rfl (hov.2.2 _ gn_76) (hts _ gm_4) ⟨by decide +kernel, by decide +kernel, by decide +kernel⟩ ⟨Nat.le_of_ble_eq_true rfl, Nat.le_of_ble_eq_true rfl⟩), rfl, hts _ gm_77⟩ (gz_preS hK hov hP hD [4] (by decide) rfl) rfl rfl hl.1 rfl (lv_room (Nat.le_of_ble_eq_true rfl)) dX9_init_35 ⟨Nat.le_of_ble_eq_true rfl, Nat.le_of_ble_eq_true rfl⟩) hP hD hS hA [4] [0, 1, 2, 3] rfl rfl (by decide) (by decide) (fun u_6 H locs hw_6 hP hD hS => ?_)
  have hP : va_P G vwCl [(h0, .inr (9, [.ref q_1, .ref q_3, .null, .null, .null, .null, .null, .null, .null, .null, .int 0, .int 0])), (q_1, .inr (8, [.ref (u_2 0), .int 0])), ((u_2 0), .inl (cy 1, 800, .inl (fun _ => 0))), (q_3, .inr (7, [.ref q_1, .int 0, .int 0, .int 0, .int 0, .int 0])), (q_5, .inr (3, [.ref (u_6.1 0), .ref (u_6.1 1), .ref (u_6.1 2)])), ((u_6.1 0), .inl (cy 0, 6, .inl (fun _ => 0))), ((u_6.1 1), .inl (cy 0, 6, .inl (fun _ => 0))), ((u_6.1 2), .inl (cy 3, 6, .inr (.inr (.inr (.inr (fun i => if i < 6 then some (u_6.2 i) else none)))))), ((u_6.2 0), .inl (cy 0, 6, .inl (fun _ => 0))), ((u_6.2 1), .inl (cy 0, 6, .inl (fun _ => 0))), ((u_6.2 2), .inl (cy 0, 6, .inl (fun _ => 0))), ((u_6.2 3), .inl (cy 0, 6, .inl (fun _ => 0))), ((u_6.2 4), .inl (cy 0, 6, .inl (fun _ => 0))), ((u_6.2 5), .inl (cy 0, 6, .inl (fun _ => 0)))] H := hP
  have hD : va_D A [(h0, .inr (9, [.ref q_1, .ref q_3, .null, .null, .null, .null, .null, .null, .null, .null, .int 0, .int 0])), (q_1, .inr (8, [.ref (u_2 0), .int 0])), ((u_2 0), .inl (cy 1, 800, .inl (fun _ => 0))), (q_3, .inr (7, [.ref q_1, .int 0, .int 0, .int 0, .int 0, .int 0])), (q_5, .inr (3, [.ref (u_6.1 0), .ref (u_6.1 1), .ref (u_6.1 2)])), ((u_6.1 0), .inl (cy 0, 6, .inl (fun _ => 0))), ((u_6.1 1), .inl (cy 0, 6, .inl (fun _ => 0))), ((u_6.1 2), .inl (cy 3, 6, .inr (.inr (.inr (.inr (fun i => if i < 6 then some (u_6.2 i) else none)))))), ((u_6.2 0), .inl (cy 0, 6, .inl (fun _ => 0))), ((u_6.2 1), .inl (cy 0, 6, .inl (fun _ => 0))), ((u_6.2 2), .inl (cy 0, 6, .inl (fun _ => 0))), ((u_6.2 3), .inl (cy 0, 6, .inl (fun _ => 0))), ((u_6.2 4), .inl (cy 0, 6, .inl (fun _ => 0))), ((u_6.2 5), .inl (cy 0, 6, .inl (fun _ => 0)))] := hD
  refine W.widen (k := 13) (n := 865) (Nat.le_of_ble_eq_true rfl) (Nat.le_of_ble_eq_true rfl) ?_
  refine va_putF (ci := 9) (v := .ref q_5) (ty := .object "WellCourt$Land") (C := RX9) (T := TX9) (N := 12) hx hb hts inX9 tyX9 tyX9_ok nmX9 hown hK hP hD hS 0 rfl rfl 2 (by decide) (hts _ gm_293) (fun _ h9 => h9) rfl hin rfl (by decide +kernel) rfl rfl (Nat.le_of_ble_eq_true rfl) dX9_init_38 (fun H locs hP hD hS => ?_)
  have hP : va_P G vwCl [(h0, .inr (9, [.ref q_1, .ref q_3, .ref q_5, .null, .null, .null, .null, .null, .null, .null, .int 0, .int 0])), (q_1, .inr (8, [.ref (u_2 0), .int 0])), ((u_2 0), .inl (cy 1, 800, .inl (fun _ => 0))), (q_3, .inr (7, [.ref q_1, .int 0, .int 0, .int 0, .int 0, .int 0])), (q_5, .inr (3, [.ref (u_6.1 0), .ref (u_6.1 1), .ref (u_6.1 2)])), ((u_6.1 0), .inl (cy 0, 6, .inl (fun _ => 0))), ((u_6.1 1), .inl (cy 0, 6, .inl (fun _ => 0))), ((u_6.1 2), .inl (cy 3, 6, .inr (.inr (.inr (.inr (fun i => if i < 6 then some (u_6.2 i) else none)))))), ((u_6.2 0), .inl (cy 0, 6, .inl (fun _ => 0))), ((u_6.2 1), .inl (cy 0, 6, .inl (fun _ => 0))), ((u_6.2 2), .inl (cy 0, 6, .inl (fun _ => 0))), ((u_6.2 3), .inl (cy 0, 6, .inl (fun _ => 0))), ((u_6.2 4), .inl (cy 0, 6, .inl (fun _ => 0))), ((u_6.2 5), .inl (cy 0, 6, .inl (fun _ => 0)))] H := hP
  have hD : va_D A [(h0, .inr (9, [.ref q_1, .ref q_3, .ref q_5, .null, .null, .null, .null, .null, .null, .null, .int 0, .int 0])), (q_1, .inr (8, [.ref (u_2 0), .int 0])), ((u_2 0), .inl (cy 1, 800, .inl (fun _ => 0))), (q_3, .inr (7, [.ref q_1, .int 0, .int 0, .int 0, .int 0, .int 0])), (q_5, .inr (3, [.ref (u_6.1 0), .ref (u_6.1 1), .ref (u_6.1 2)])), ((u_6.1 0), .inl (cy 0, 6, .inl (fun _ => 0))), ((u_6.1 1), .inl (cy 0, 6, .inl (fun _ => 0))), ((u_6.1 2), .inl (cy 3, 6, .inr (.inr (.inr (.inr (fun i => if i < 6 then some (u_6.2 i) else none)))))), ((u_6.2 0), .inl (cy 0, 6, .inl (fun _ => 0))), ((u_6.2 1), .inl (cy 0, 6, .inl (fun _ => 0))), ((u_6.2 2), .inl (cy 0, 6, .inl (fun _ => 0))), ((u_6.2 3), .inl (cy 0, 6, .inl (fun _ => 0))), ((u_6.2 4), .inl (cy 0, 6, .inl (fun _ => 0))), ((u_6.2 5), .inl (cy 0, 6, .inl (fun _ => 0)))] := hD
  refine lv_aload_n hx hb dX9_init_41 rfl (lv_at hl 0 rfl) ?_
  refine va_new (ci := 0) (fs := [.null]) (C := RX0) (T := TX0) (N := 1) hx hb hts inX0 tyX0 tyX0_ok hown (hts _ gm_99) (hts _ gm_100) (hts _ gm_5) hK hP hD hS hA rfl dfX0 (Nat.le_of_ble_eq_true rfl) (Nat.le_of_ble_eq_true rfl) dX9_init_42 (fun q_7 H hP hD hS => ?_)
  have hP : va_P G vwCl [(h0, .inr (9, [.ref q_1, .ref q_3, .ref q_5, .null, .null, .null, .null, .null, .null, .null, .int 0, .int 0])), (q_1, .inr (8, [.ref (u_2 0), .int 0])), ((u_2 0), .inl (cy 1, 800, .inl (fun _ => 0))), (q_3, .inr (7, [.ref q_1, .int 0, .int 0, .int 0, .int 0, .int 0])), (q_5, .inr (3, [.ref (u_6.1 0), .ref (u_6.1 1), .ref (u_6.1 2)])), ((u_6.1 0), .inl (cy 0, 6, .inl (fun _ => 0))), ((u_6.1 1), .inl (cy 0, 6, .inl (fun _ => 0))), ((u_6.1 2), .inl (cy 3, 6, .inr (.inr (.inr (.inr (fun i => if i < 6 then some (u_6.2 i) else none)))))), ((u_6.2 0), .inl (cy 0, 6, .inl (fun _ => 0))), ((u_6.2 1), .inl (cy 0, 6, .inl (fun _ => 0))), ((u_6.2 2), .inl (cy 0, 6, .inl (fun _ => 0))), ((u_6.2 3), .inl (cy 0, 6, .inl (fun _ => 0))), ((u_6.2 4), .inl (cy 0, 6, .inl (fun _ => 0))), ((u_6.2 5), .inl (cy 0, 6, .inl (fun _ => 0))), (q_7, .inr (0, [.null]))] H := hP
  have hD : va_D A [(h0, .inr (9, [.ref q_1, .ref q_3, .ref q_5, .null, .null, .null, .null, .null, .null, .null, .int 0, .int 0])), (q_1, .inr (8, [.ref (u_2 0), .int 0])), ((u_2 0), .inl (cy 1, 800, .inl (fun _ => 0))), (q_3, .inr (7, [.ref q_1, .int 0, .int 0, .int 0, .int 0, .int 0])), (q_5, .inr (3, [.ref (u_6.1 0), .ref (u_6.1 1), .ref (u_6.1 2)])), ((u_6.1 0), .inl (cy 0, 6, .inl (fun _ => 0))), ((u_6.1 1), .inl (cy 0, 6, .inl (fun _ => 0))), ((u_6.1 2), .inl (cy 3, 6, .inr (.inr (.inr (.inr (fun i => if i < 6 then some (u_6.2 i) else none)))))), ((u_6.2 0), .inl (cy 0, 6, .inl (fun _ => 0))), ((u_6.2 1), .inl (cy 0, 6, .inl (fun _ => 0))), ((u_6.2 2), .inl (cy 0, 6, .inl (fun _ => 0))), ((u_6.2 3), .inl (cy 0, 6, .inl (fun _ => 0))), ((u_6.2 4), .inl (cy 0, 6, .inl (fun _ => 0))), ((u_6.2 5), .inl (cy 0, 6, .inl (fun _ => 0))), (q_7, .inr (0, [.null]))] := hD
  refine W.widen (k := 14) (n := 866) (Nat.le_of_ble_eq_true rfl) (Nat.le_of_ble_eq_true rfl) ?_
  refine lv_dup hx hb dX9_init_45 rfl ?_
  refine gz_aftv (va_runI (As := []) (rest := [.ref q_7, .ref h0]) ⟨hx, hb, hml, hown, hts⟩ (c_X0_init l G cy H.size q_7 ) ⟨(gz_cb (n := 0) hts gm_101 gm_5 gm_103 ⟨by decide +kernel, by decide +kernel, by decide +kernel⟩ ⟨Nat.le_of_ble_eq_true rfl, Nat.le_of_ble_eq_true rfl⟩), rfl, hts _ gm_102⟩ (gz_preS hK hov hP hD [14] (by decide) rfl) rfl rfl hl.1 rfl (lv_room (Nat.le_of_ble_eq_true rfl)) dX9_init_46 ⟨Nat.le_of_ble_eq_true rfl, Nat.le_of_ble_eq_true rfl⟩) hP hD hS hA [14] [0, 1, 2, 3, 4, 5, 6, 7, 8, 9, 10, 11, 12, 13] rfl rfl (by decide) (by decide) (fun u_8 H locs hw_8 hP hD hS => ?_)
  have hP : va_P G vwCl [(h0, .inr (9, [.ref q_1, .ref q_3, .ref q_5, .null, .null, .null, .null, .null, .null, .null, .int 0, .int 0])), (q_1, .inr (8, [.ref (u_2 0), .int 0])), ((u_2 0), .inl (cy 1, 800, .inl (fun _ => 0))), (q_3, .inr (7, [.ref q_1, .int 0, .int 0, .int 0, .int 0, .int 0])), (q_5, .inr (3, [.ref (u_6.1 0), .ref (u_6.1 1), .ref (u_6.1 2)])), ((u_6.1 0), .inl (cy 0, 6, .inl (fun _ => 0))), ((u_6.1 1), .inl (cy 0, 6, .inl (fun _ => 0))), ((u_6.1 2), .inl (cy 3, 6, .inr (.inr (.inr (.inr (fun i => if i < 6 then some (u_6.2 i) else none)))))), ((u_6.2 0), .inl (cy 0, 6, .inl (fun _ => 0))), ((u_6.2 1), .inl (cy 0, 6, .inl (fun _ => 0))), ((u_6.2 2), .inl (cy 0, 6, .inl (fun _ => 0))), ((u_6.2 3), .inl (cy 0, 6, .inl (fun _ => 0))), ((u_6.2 4), .inl (cy 0, 6, .inl (fun _ => 0))), ((u_6.2 5), .inl (cy 0, 6, .inl (fun _ => 0))), (q_7, .inr (0, [.ref (u_8.1 0)])), ((u_8.1 0), .inl (cy 3, 6, .inr (.inr (.inr (.inr (fun i => if i < 6 then some (u_8.2 i) else none)))))), ((u_8.2 0), .inl (cy 0, 200, .inl (fun _ => (-1)))), ((u_8.2 1), .inl (cy 0, 200, .inl (fun _ => (-1)))), ((u_8.2 2), .inl (cy 0, 200, .inl (fun _ => (-1)))), ((u_8.2 3), .inl (cy 0, 200, .inl (fun _ => (-1)))), ((u_8.2 4), .inl (cy 0, 200, .inl (fun _ => (-1)))), ((u_8.2 5), .inl (cy 0, 200, .inl (fun _ => (-1))))] H := hP
  have hD : va_D A [(h0, .inr (9, [.ref q_1, .ref q_3, .ref q_5, .null, .null, .null, .null, .null, .null, .null, .int 0, .int 0])), (q_1, .inr (8, [.ref (u_2 0), .int 0])), ((u_2 0), .inl (cy 1, 800, .inl (fun _ => 0))), (q_3, .inr (7, [.ref q_1, .int 0, .int 0, .int 0, .int 0, .int 0])), (q_5, .inr (3, [.ref (u_6.1 0), .ref (u_6.1 1), .ref (u_6.1 2)])), ((u_6.1 0), .inl (cy 0, 6, .inl (fun _ => 0))), ((u_6.1 1), .inl (cy 0, 6, .inl (fun _ => 0))), ((u_6.1 2), .inl (cy 3, 6, .inr (.inr (.inr (.inr (fun i => if i < 6 then some (u_6.2 i) else none)))))), ((u_6.2 0), .inl (cy 0, 6, .inl (fun _ => 0))), ((u_6.2 1), .inl (cy 0, 6, .inl (fun _ => 0))), ((u_6.2 2), .inl (cy 0, 6, .inl (fun _ => 0))), ((u_6.2 3), .inl (cy 0, 6, .inl (fun _ => 0))), ((u_6.2 4), .inl (cy 0, 6, .inl (fun _ => 0))), ((u_6.2 5), .inl (cy 0, 6, .inl (fun _ => 0))), (q_7, .inr (0, [.ref (u_8.1 0)])), ((u_8.1 0), .inl (cy 3, 6, .inr (.inr (.inr (.inr (fun i => if i < 6 then some (u_8.2 i) else none)))))), ((u_8.2 0), .inl (cy 0, 200, .inl (fun _ => (-1)))), ((u_8.2 1), .inl (cy 0, 200, .inl (fun _ => (-1)))), ((u_8.2 2), .inl (cy 0, 200, .inl (fun _ => (-1)))), ((u_8.2 3), .inl (cy 0, 200, .inl (fun _ => (-1)))), ((u_8.2 4), .inl (cy 0, 200, .inl (fun _ => (-1)))), ((u_8.2 5), .inl (cy 0, 200, .inl (fun _ => (-1))))] := hD
  refine W.widen (k := 21) (n := 2072) (Nat.le_of_ble_eq_true rfl) (Nat.le_of_ble_eq_true rfl) ?_
  refine va_putF (ci := 9) (v := .ref q_7) (ty := .object "WellCourt$Calendar") (C := RX9) (T := TX9) (N := 12) hx hb hts inX9 tyX9 tyX9_ok nmX9 hown hK hP hD hS 0 rfl rfl 3 (by decide) (hts _ gm_294) (fun _ h9 => h9) rfl hin rfl (by decide +kernel) rfl rfl (Nat.le_of_ble_eq_true rfl) dX9_init_49 (fun H locs hP hD hS => ?_)
  have hP : va_P G vwCl [(h0, .inr (9, [.ref q_1, .ref q_3, .ref q_5, .ref q_7, .null, .null, .null, .null, .null, .null, .int 0, .int 0])), (q_1, .inr (8, [.ref (u_2 0), .int 0])), ((u_2 0), .inl (cy 1, 800, .inl (fun _ => 0))), (q_3, .inr (7, [.ref q_1, .int 0, .int 0, .int 0, .int 0, .int 0])), (q_5, .inr (3, [.ref (u_6.1 0), .ref (u_6.1 1), .ref (u_6.1 2)])), ((u_6.1 0), .inl (cy 0, 6, .inl (fun _ => 0))), ((u_6.1 1), .inl (cy 0, 6, .inl (fun _ => 0))), ((u_6.1 2), .inl (cy 3, 6, .inr (.inr (.inr (.inr (fun i => if i < 6 then some (u_6.2 i) else none)))))), ((u_6.2 0), .inl (cy 0, 6, .inl (fun _ => 0))), ((u_6.2 1), .inl (cy 0, 6, .inl (fun _ => 0))), ((u_6.2 2), .inl (cy 0, 6, .inl (fun _ => 0))), ((u_6.2 3), .inl (cy 0, 6, .inl (fun _ => 0))), ((u_6.2 4), .inl (cy 0, 6, .inl (fun _ => 0))), ((u_6.2 5), .inl (cy 0, 6, .inl (fun _ => 0))), (q_7, .inr (0, [.ref (u_8.1 0)])), ((u_8.1 0), .inl (cy 3, 6, .inr (.inr (.inr (.inr (fun i => if i < 6 then some (u_8.2 i) else none)))))), ((u_8.2 0), .inl (cy 0, 200, .inl (fun _ => (-1)))), ((u_8.2 1), .inl (cy 0, 200, .inl (fun _ => (-1)))), ((u_8.2 2), .inl (cy 0, 200, .inl (fun _ => (-1)))), ((u_8.2 3), .inl (cy 0, 200, .inl (fun _ => (-1)))), ((u_8.2 4), .inl (cy 0, 200, .inl (fun _ => (-1)))), ((u_8.2 5), .inl (cy 0, 200, .inl (fun _ => (-1))))] H := hP
  have hD : va_D A [(h0, .inr (9, [.ref q_1, .ref q_3, .ref q_5, .ref q_7, .null, .null, .null, .null, .null, .null, .int 0, .int 0])), (q_1, .inr (8, [.ref (u_2 0), .int 0])), ((u_2 0), .inl (cy 1, 800, .inl (fun _ => 0))), (q_3, .inr (7, [.ref q_1, .int 0, .int 0, .int 0, .int 0, .int 0])), (q_5, .inr (3, [.ref (u_6.1 0), .ref (u_6.1 1), .ref (u_6.1 2)])), ((u_6.1 0), .inl (cy 0, 6, .inl (fun _ => 0))), ((u_6.1 1), .inl (cy 0, 6, .inl (fun _ => 0))), ((u_6.1 2), .inl (cy 3, 6, .inr (.inr (.inr (.inr (fun i => if i < 6 then some (u_6.2 i) else none)))))), ((u_6.2 0), .inl (cy 0, 6, .inl (fun _ => 0))), ((u_6.2 1), .inl (cy 0, 6, .inl (fun _ => 0))), ((u_6.2 2), .inl (cy 0, 6, .inl (fun _ => 0))), ((u_6.2 3), .inl (cy 0, 6, .inl (fun _ => 0))), ((u_6.2 4), .inl (cy 0, 6, .inl (fun _ => 0))), ((u_6.2 5), .inl (cy 0, 6, .inl (fun _ => 0))), (q_7, .inr (0, [.ref (u_8.1 0)])), ((u_8.1 0), .inl (cy 3, 6, .inr (.inr (.inr (.inr (fun i => if i < 6 then some (u_8.2 i) else none)))))), ((u_8.2 0), .inl (cy 0, 200, .inl (fun _ => (-1)))), ((u_8.2 1), .inl (cy 0, 200, .inl (fun _ => (-1)))), ((u_8.2 2), .inl (cy 0, 200, .inl (fun _ => (-1)))), ((u_8.2 3), .inl (cy 0, 200, .inl (fun _ => (-1)))), ((u_8.2 4), .inl (cy 0, 200, .inl (fun _ => (-1)))), ((u_8.2 5), .inl (cy 0, 200, .inl (fun _ => (-1))))] := hD
  refine lv_aload_n hx hb dX9_init_52 rfl (lv_at hl 0 rfl) ?_
  refine va_new (ci := 1) (fs := [.null, .null, .null]) (C := RX1) (T := TX1) (N := 3) hx hb hts inX1 tyX1 tyX1_ok hown (hts _ gm_113) (hts _ gm_114) (hts _ gm_7) hK hP hD hS hA rfl dfX1 (Nat.le_of_ble_eq_true rfl) (Nat.le_of_ble_eq_true rfl) dX9_init_53 (fun q_9 H hP hD hS => ?_)
  have hP : va_P G vwCl [(h0, .inr (9, [.ref q_1, .ref q_3, .ref q_5, .ref q_7, .null, .null, .null, .null, .null, .null, .int 0, .int 0])), (q_1, .inr (8, [.ref (u_2 0), .int 0])), ((u_2 0), .inl (cy 1, 800, .inl (fun _ => 0))), (q_3, .inr (7, [.ref q_1, .int 0, .int 0, .int 0, .int 0, .int 0])), (q_5, .inr (3, [.ref (u_6.1 0), .ref (u_6.1 1), .ref (u_6.1 2)])), ((u_6.1 0), .inl (cy 0, 6, .inl (fun _ => 0))), ((u_6.1 1), .inl (cy 0, 6, .inl (fun _ => 0))), ((u_6.1 2), .inl (cy 3, 6, .inr (.inr (.inr (.inr (fun i => if i < 6 then some (u_6.2 i) else none)))))), ((u_6.2 0), .inl (cy 0, 6, .inl (fun _ => 0))), ((u_6.2 1), .inl (cy 0, 6, .inl (fun _ => 0))), ((u_6.2 2), .inl (cy 0, 6, .inl (fun _ => 0))), ((u_6.2 3), .inl (cy 0, 6, .inl (fun _ => 0))), ((u_6.2 4), .inl (cy 0, 6, .inl (fun _ => 0))), ((u_6.2 5), .inl (cy 0, 6, .inl (fun _ => 0))), (q_7, .inr (0, [.ref (u_8.1 0)])), ((u_8.1 0), .inl (cy 3, 6, .inr (.inr (.inr (.inr (fun i => if i < 6 then some (u_8.2 i) else none)))))), ((u_8.2 0), .inl (cy 0, 200, .inl (fun _ => (-1)))), ((u_8.2 1), .inl (cy 0, 200, .inl (fun _ => (-1)))), ((u_8.2 2), .inl (cy 0, 200, .inl (fun _ => (-1)))), ((u_8.2 3), .inl (cy 0, 200, .inl (fun _ => (-1)))), ((u_8.2 4), .inl (cy 0, 200, .inl (fun _ => (-1)))), ((u_8.2 5), .inl (cy 0, 200, .inl (fun _ => (-1)))), (q_9, .inr (1, [.null, .null, .null]))] H := hP
  have hD : va_D A [(h0, .inr (9, [.ref q_1, .ref q_3, .ref q_5, .ref q_7, .null, .null, .null, .null, .null, .null, .int 0, .int 0])), (q_1, .inr (8, [.ref (u_2 0), .int 0])), ((u_2 0), .inl (cy 1, 800, .inl (fun _ => 0))), (q_3, .inr (7, [.ref q_1, .int 0, .int 0, .int 0, .int 0, .int 0])), (q_5, .inr (3, [.ref (u_6.1 0), .ref (u_6.1 1), .ref (u_6.1 2)])), ((u_6.1 0), .inl (cy 0, 6, .inl (fun _ => 0))), ((u_6.1 1), .inl (cy 0, 6, .inl (fun _ => 0))), ((u_6.1 2), .inl (cy 3, 6, .inr (.inr (.inr (.inr (fun i => if i < 6 then some (u_6.2 i) else none)))))), ((u_6.2 0), .inl (cy 0, 6, .inl (fun _ => 0))), ((u_6.2 1), .inl (cy 0, 6, .inl (fun _ => 0))), ((u_6.2 2), .inl (cy 0, 6, .inl (fun _ => 0))), ((u_6.2 3), .inl (cy 0, 6, .inl (fun _ => 0))), ((u_6.2 4), .inl (cy 0, 6, .inl (fun _ => 0))), ((u_6.2 5), .inl (cy 0, 6, .inl (fun _ => 0))), (q_7, .inr (0, [.ref (u_8.1 0)])), ((u_8.1 0), .inl (cy 3, 6, .inr (.inr (.inr (.inr (fun i => if i < 6 then some (u_8.2 i) else none)))))), ((u_8.2 0), .inl (cy 0, 200, .inl (fun _ => (-1)))), ((u_8.2 1), .inl (cy 0, 200, .inl (fun _ => (-1)))), ((u_8.2 2), .inl (cy 0, 200, .inl (fun _ => (-1)))), ((u_8.2 3), .inl (cy 0, 200, .inl (fun _ => (-1)))), ((u_8.2 4), .inl (cy 0, 200, .inl (fun _ => (-1)))), ((u_8.2 5), .inl (cy 0, 200, .inl (fun _ => (-1)))), (q_9, .inr (1, [.null, .null, .null]))] := hD
  refine W.widen (k := 22) (n := 2075) (Nat.le_of_ble_eq_true rfl) (Nat.le_of_ble_eq_true rfl) ?_
  refine lv_dup hx hb dX9_init_56 rfl ?_
  refine gz_aftv (va_runI (As := []) (rest := [.ref q_9, .ref h0]) ⟨hx, hb, hml, hown, hts⟩ (c_X1_init l G cy H.size q_9 ) ⟨(gz_cb (n := 0) hts gm_115 gm_7 gm_117 ⟨by decide +kernel, by decide +kernel, by decide +kernel⟩ ⟨Nat.le_of_ble_eq_true rfl, Nat.le_of_ble_eq_true rfl⟩), rfl, hts _ gm_116⟩ (gz_preS hK hov hP hD [22] (by decide) rfl) rfl rfl hl.1 rfl (lv_room (Nat.le_of_ble_eq_true rfl)) dX9_init_57 ⟨Nat.le_of_ble_eq_true rfl, Nat.le_of_ble_eq_true rfl⟩) hP hD hS hA [22] [0, 1, 2, 3, 4, 5, 6, 7, 8, 9, 10, 11, 12, 13, 14, 15, 16, 17, 18, 19, 20, 21] rfl rfl (by decide) (by decide) (fun u_10 H locs hw_10 hP hD hS => ?_)
  have hP : va_P G vwCl [(h0, .inr (9, [.ref q_1, .ref q_3, .ref q_5, .ref q_7, .null, .null, .null, .null, .null, .null, .int 0, .int 0])), (q_1, .inr (8, [.ref (u_2 0), .int 0])), ((u_2 0), .inl (cy 1, 800, .inl (fun _ => 0))), (q_3, .inr (7, [.ref q_1, .int 0, .int 0, .int 0, .int 0, .int 0])), (q_5, .inr (3, [.ref (u_6.1 0), .ref (u_6.1 1), .ref (u_6.1 2)])), ((u_6.1 0), .inl (cy 0, 6, .inl (fun _ => 0))), ((u_6.1 1), .inl (cy 0, 6, .inl (fun _ => 0))), ((u_6.1 2), .inl (cy 3, 6, .inr (.inr (.inr (.inr (fun i => if i < 6 then some (u_6.2 i) else none)))))), ((u_6.2 0), .inl (cy 0, 6, .inl (fun _ => 0))), ((u_6.2 1), .inl (cy 0, 6, .inl (fun _ => 0))), ((u_6.2 2), .inl (cy 0, 6, .inl (fun _ => 0))), ((u_6.2 3), .inl (cy 0, 6, .inl (fun _ => 0))), ((u_6.2 4), .inl (cy 0, 6, .inl (fun _ => 0))), ((u_6.2 5), .inl (cy 0, 6, .inl (fun _ => 0))), (q_7, .inr (0, [.ref (u_8.1 0)])), ((u_8.1 0), .inl (cy 3, 6, .inr (.inr (.inr (.inr (fun i => if i < 6 then some (u_8.2 i) else none)))))), ((u_8.2 0), .inl (cy 0, 200, .inl (fun _ => (-1)))), ((u_8.2 1), .inl (cy 0, 200, .inl (fun _ => (-1)))), ((u_8.2 2), .inl (cy 0, 200, .inl (fun _ => (-1)))), ((u_8.2 3), .inl (cy 0, 200, .inl (fun _ => (-1)))), ((u_8.2 4), .inl (cy 0, 200, .inl (fun _ => (-1)))), ((u_8.2 5), .inl (cy 0, 200, .inl (fun _ => (-1)))), (q_9, .inr (1, [.ref (u_10 0), .ref (u_10 1), .ref (u_10 2)])), ((u_10 0), .inl (cy 0, 6, .inl (fun _ => 0))), ((u_10 1), .inl (cy 0, 6, .inl (fun _ => (-1)))), ((u_10 2), .inl (cy 0, 6, .inl (fun _ => (-1))))] H := hP
  have hD : va_D A [(h0, .inr (9, [.ref q_1, .ref q_3, .ref q_5, .ref q_7, .null, .null, .null, .null, .null, .null, .int 0, .int 0])), (q_1, .inr (8, [.ref (u_2 0), .int 0])), ((u_2 0), .inl (cy 1, 800, .inl (fun _ => 0))), (q_3, .inr (7, [.ref q_1, .int 0, .int 0, .int 0, .int 0, .int 0])), (q_5, .inr (3, [.ref (u_6.1 0), .ref (u_6.1 1), .ref (u_6.1 2)])), ((u_6.1 0), .inl (cy 0, 6, .inl (fun _ => 0))), ((u_6.1 1), .inl (cy 0, 6, .inl (fun _ => 0))), ((u_6.1 2), .inl (cy 3, 6, .inr (.inr (.inr (.inr (fun i => if i < 6 then some (u_6.2 i) else none)))))), ((u_6.2 0), .inl (cy 0, 6, .inl (fun _ => 0))), ((u_6.2 1), .inl (cy 0, 6, .inl (fun _ => 0))), ((u_6.2 2), .inl (cy 0, 6, .inl (fun _ => 0))), ((u_6.2 3), .inl (cy 0, 6, .inl (fun _ => 0))), ((u_6.2 4), .inl (cy 0, 6, .inl (fun _ => 0))), ((u_6.2 5), .inl (cy 0, 6, .inl (fun _ => 0))), (q_7, .inr (0, [.ref (u_8.1 0)])), ((u_8.1 0), .inl (cy 3, 6, .inr (.inr (.inr (.inr (fun i => if i < 6 then some (u_8.2 i) else none)))))), ((u_8.2 0), .inl (cy 0, 200, .inl (fun _ => (-1)))), ((u_8.2 1), .inl (cy 0, 200, .inl (fun _ => (-1)))), ((u_8.2 2), .inl (cy 0, 200, .inl (fun _ => (-1)))), ((u_8.2 3), .inl (cy 0, 200, .inl (fun _ => (-1)))), ((u_8.2 4), .inl (cy 0, 200, .inl (fun _ => (-1)))), ((u_8.2 5), .inl (cy 0, 200, .inl (fun _ => (-1)))), (q_9, .inr (1, [.ref (u_10 0), .ref (u_10 1), .ref (u_10 2)])), ((u_10 0), .inl (cy 0, 6, .inl (fun _ => 0))), ((u_10 1), .inl (cy 0, 6, .inl (fun _ => (-1)))), ((u_10 2), .inl (cy 0, 6, .inl (fun _ => (-1))))] := hD
  refine W.widen (k := 25) (n := 2093) (Nat.le_of_ble_eq_true rfl) (Nat.le_of_ble_eq_true rfl) ?_
  refine va_putF (ci := 9) (v := .ref q_9) (ty := .object "WellCourt$Day") (C := RX9) (T := TX9) (N := 12) hx hb hts inX9 tyX9 tyX9_ok nmX9 hown hK hP hD hS 0 rfl rfl 4 (by decide) (hts _ gm_295) (fun _ h9 => h9) rfl hin rfl (by decide +kernel) rfl rfl (Nat.le_of_ble_eq_true rfl) dX9_init_60 (fun H locs hP hD hS => ?_)
  have hP : va_P G vwCl [(h0, .inr (9, [.ref q_1, .ref q_3, .ref q_5, .ref q_7, .ref q_9, .null, .null, .null, .null, .null, .int 0, .int 0])), (q_1, .inr (8, [.ref (u_2 0), .int 0])), ((u_2 0), .inl (cy 1, 800, .inl (fun _ => 0))), (q_3, .inr (7, [.ref q_1, .int 0, .int 0, .int 0, .int 0, .int 0])), (q_5, .inr (3, [.ref (u_6.1 0), .ref (u_6.1 1), .ref (u_6.1 2)])), ((u_6.1 0), .inl (cy 0, 6, .inl (fun _ => 0))), ((u_6.1 1), .inl (cy 0, 6, .inl (fun _ => 0))), ((u_6.1 2), .inl (cy 3, 6, .inr (.inr (.inr (.inr (fun i => if i < 6 then some (u_6.2 i) else none)))))), ((u_6.2 0), .inl (cy 0, 6, .inl (fun _ => 0))), ((u_6.2 1), .inl (cy 0, 6, .inl (fun _ => 0))), ((u_6.2 2), .inl (cy 0, 6, .inl (fun _ => 0))), ((u_6.2 3), .inl (cy 0, 6, .inl (fun _ => 0))), ((u_6.2 4), .inl (cy 0, 6, .inl (fun _ => 0))), ((u_6.2 5), .inl (cy 0, 6, .inl (fun _ => 0))), (q_7, .inr (0, [.ref (u_8.1 0)])), ((u_8.1 0), .inl (cy 3, 6, .inr (.inr (.inr (.inr (fun i => if i < 6 then some (u_8.2 i) else none)))))), ((u_8.2 0), .inl (cy 0, 200, .inl (fun _ => (-1)))), ((u_8.2 1), .inl (cy 0, 200, .inl (fun _ => (-1)))), ((u_8.2 2), .inl (cy 0, 200, .inl (fun _ => (-1)))), ((u_8.2 3), .inl (cy 0, 200, .inl (fun _ => (-1)))), ((u_8.2 4), .inl (cy 0, 200, .inl (fun _ => (-1)))), ((u_8.2 5), .inl (cy 0, 200, .inl (fun _ => (-1)))), (q_9, .inr (1, [.ref (u_10 0), .ref (u_10 1), .ref (u_10 2)])), ((u_10 0), .inl (cy 0, 6, .inl (fun _ => 0))), ((u_10 1), .inl (cy 0, 6, .inl (fun _ => (-1)))), ((u_10 2), .inl (cy 0, 6, .inl (fun _ => (-1))))] H := hP
  have hD : va_D A [(h0, .inr (9, [.ref q_1, .ref q_3, .ref q_5, .ref q_7, .ref q_9, .null, .null, .null, .null, .null, .int 0, .int 0])), (q_1, .inr (8, [.ref (u_2 0), .int 0])), ((u_2 0), .inl (cy 1, 800, .inl (fun _ => 0))), (q_3, .inr (7, [.ref q_1, .int 0, .int 0, .int 0, .int 0, .int 0])), (q_5, .inr (3, [.ref (u_6.1 0), .ref (u_6.1 1), .ref (u_6.1 2)])), ((u_6.1 0), .inl (cy 0, 6, .inl (fun _ => 0))), ((u_6.1 1), .inl (cy 0, 6, .inl (fun _ => 0))), ((u_6.1 2), .inl (cy 3, 6, .inr (.inr (.inr (.inr (fun i => if i < 6 then some (u_6.2 i) else none)))))), ((u_6.2 0), .inl (cy 0, 6, .inl (fun _ => 0))), ((u_6.2 1), .inl (cy 0, 6, .inl (fun _ => 0))), ((u_6.2 2), .inl (cy 0, 6, .inl (fun _ => 0))), ((u_6.2 3), .inl (cy 0, 6, .inl (fun _ => 0))), ((u_6.2 4), .inl (cy 0, 6, .inl (fun _ => 0))), ((u_6.2 5), .inl (cy 0, 6, .inl (fun _ => 0))), (q_7, .inr (0, [.ref (u_8.1 0)])), ((u_8.1 0), .inl (cy 3, 6, .inr (.inr (.inr (.inr (fun i => if i < 6 then some (u_8.2 i) else none)))))), ((u_8.2 0), .inl (cy 0, 200, .inl (fun _ => (-1)))), ((u_8.2 1), .inl (cy 0, 200, .inl (fun _ => (-1)))), ((u_8.2 2), .inl (cy 0, 200, .inl (fun _ => (-1)))), ((u_8.2 3), .inl (cy 0, 200, .inl (fun _ => (-1)))), ((u_8.2 4), .inl (cy 0, 200, .inl (fun _ => (-1)))), ((u_8.2 5), .inl (cy 0, 200, .inl (fun _ => (-1)))), (q_9, .inr (1, [.ref (u_10 0), .ref (u_10 1), .ref (u_10 2)])), ((u_10 0), .inl (cy 0, 6, .inl (fun _ => 0))), ((u_10 1), .inl (cy 0, 6, .inl (fun _ => (-1)))), ((u_10 2), .inl (cy 0, 6, .inl (fun _ => (-1))))] := hD
  refine lv_aload_n hx hb dX9_init_63 rfl (lv_at hl 0 rfl) ?_
  refine va_new (ci := 5) (fs := [.null, .int 0]) (C := RX5) (T := TX5) (N := 2) hx hb hts inX5 tyX5 tyX5_ok hown (hts _ gm_134) (hts _ gm_135) (hts _ gm_8) hK hP hD hS hA rfl dfX5 (Nat.le_of_ble_eq_true rfl) (Nat.le_of_ble_eq_true rfl) dX9_init_64 (fun q_11 H hP hD hS => ?_)
  have hP : va_P G vwCl [(h0, .inr (9, [.ref q_1, .ref q_3, .ref q_5, .ref q_7, .ref q_9, .null, .null, .null, .null, .null, .int 0, .int 0])), (q_1, .inr (8, [.ref (u_2 0), .int 0])), ((u_2 0), .inl (cy 1, 800, .inl (fun _ => 0))), (q_3, .inr (7, [.ref q_1, .int 0, .int 0, .int 0, .int 0, .int 0])), (q_5, .inr (3, [.ref (u_6.1 0), .ref (u_6.1 1), .ref (u_6.1 2)])), ((u_6.1 0), .inl (cy 0, 6, .inl (fun _ => 0))), ((u_6.1 1), .inl (cy 0, 6, .inl (fun _ => 0))), ((u_6.1 2), .inl (cy 3, 6, .inr (.inr (.inr (.inr (fun i => if i < 6 then some (u_6.2 i) else none)))))), ((u_6.2 0), .inl (cy 0, 6, .inl (fun _ => 0))), ((u_6.2 1), .inl (cy 0, 6, .inl (fun _ => 0))), ((u_6.2 2), .inl (cy 0, 6, .inl (fun _ => 0))), ((u_6.2 3), .inl (cy 0, 6, .inl (fun _ => 0))), ((u_6.2 4), .inl (cy 0, 6, .inl (fun _ => 0))), ((u_6.2 5), .inl (cy 0, 6, .inl (fun _ => 0))), (q_7, .inr (0, [.ref (u_8.1 0)])), ((u_8.1 0), .inl (cy 3, 6, .inr (.inr (.inr (.inr (fun i => if i < 6 then some (u_8.2 i) else none)))))), ((u_8.2 0), .inl (cy 0, 200, .inl (fun _ => (-1)))), ((u_8.2 1), .inl (cy 0, 200, .inl (fun _ => (-1)))), ((u_8.2 2), .inl (cy 0, 200, .inl (fun _ => (-1)))), ((u_8.2 3), .inl (cy 0, 200, .inl (fun _ => (-1)))), ((u_8.2 4), .inl (cy 0, 200, .inl (fun _ => (-1)))), ((u_8.2 5), .inl (cy 0, 200, .inl (fun _ => (-1)))), (q_9, .inr (1, [.ref (u_10 0), .ref (u_10 1), .ref (u_10 2)])), ((u_10 0), .inl (cy 0, 6, .inl (fun _ => 0))), ((u_10 1), .inl (cy 0, 6, .inl (fun _ => (-1)))), ((u_10 2), .inl (cy 0, 6, .inl (fun _ => (-1)))), (q_11, .inr (5, [.null, .int 0]))] H := hP
  have hD : va_D A [(h0, .inr (9, [.ref q_1, .ref q_3, .ref q_5, .ref q_7, .ref q_9, .null, .null, .null, .null, .null, .int 0, .int 0])), (q_1, .inr (8, [.ref (u_2 0), .int 0])), ((u_2 0), .inl (cy 1, 800, .inl (fun _ => 0))), (q_3, .inr (7, [.ref q_1, .int 0, .int 0, .int 0, .int 0, .int 0])), (q_5, .inr (3, [.ref (u_6.1 0), .ref (u_6.1 1), .ref (u_6.1 2)])), ((u_6.1 0), .inl (cy 0, 6, .inl (fun _ => 0))), ((u_6.1 1), .inl (cy 0, 6, .inl (fun _ => 0))), ((u_6.1 2), .inl (cy 3, 6, .inr (.inr (.inr (.inr (fun i => if i < 6 then some (u_6.2 i) else none)))))), ((u_6.2 0), .inl (cy 0, 6, .inl (fun _ => 0))), ((u_6.2 1), .inl (cy 0, 6, .inl (fun _ => 0))), ((u_6.2 2), .inl (cy 0, 6, .inl (fun _ => 0))), ((u_6.2 3), .inl (cy 0, 6, .inl (fun _ => 0))), ((u_6.2 4), .inl (cy 0, 6, .inl (fun _ => 0))), ((u_6.2 5), .inl (cy 0, 6, .inl (fun _ => 0))), (q_7, .inr (0, [.ref (u_8.1 0)])), ((u_8.1 0), .inl (cy 3, 6, .inr (.inr (.inr (.inr (fun i => if i < 6 then some (u_8.2 i) else none)))))), ((u_8.2 0), .inl (cy 0, 200, .inl (fun _ => (-1)))), ((u_8.2 1), .inl (cy 0, 200, .inl (fun _ => (-1)))), ((u_8.2 2), .inl (cy 0, 200, .inl (fun _ => (-1)))), ((u_8.2 3), .inl (cy 0, 200, .inl (fun _ => (-1)))), ((u_8.2 4), .inl (cy 0, 200, .inl (fun _ => (-1)))), ((u_8.2 5), .inl (cy 0, 200, .inl (fun _ => (-1)))), (q_9, .inr (1, [.ref (u_10 0), .ref (u_10 1), .ref (u_10 2)])), ((u_10 0), .inl (cy 0, 6, .inl (fun _ => 0))), ((u_10 1), .inl (cy 0, 6, .inl (fun _ => (-1)))), ((u_10 2), .inl (cy 0, 6, .inl (fun _ => (-1)))), (q_11, .inr (5, [.null, .int 0]))] := hD
  refine W.widen (k := 26) (n := 2095) (Nat.le_of_ble_eq_true rfl) (Nat.le_of_ble_eq_true rfl) ?_
  refine lv_dup hx hb dX9_init_67 rfl ?_
  refine gz_aftv (va_runIN (As := []) (rest := [.ref q_11, .ref h0]) ⟨hx, hb, hml, hown, hts⟩ (c_X5_init l G cy H.size q_11 ) ⟨(va_cnB 0 hts (gz_good gm_138) rfl rfl rfl (hov.2.2 _ gn_136) (hts _ gm_8) ⟨by decide +kernel, by decide +kernel, by decide +kernel⟩ ⟨Nat.le_of_ble_eq_true rfl, Nat.le_of_ble_eq_true rfl⟩), rfl, hts _ gm_137⟩ (gz_preS hK hov hP hD [26] (by decide) rfl) rfl rfl hl.1 rfl (lv_room (Nat.le_of_ble_eq_true rfl)) dX9_init_68 ⟨Nat.le_of_ble_eq_true rfl, Nat.le_of_ble_eq_true rfl⟩) hP hD hS hA [26] [0, 1, 2, 3, 4, 5, 6, 7, 8, 9, 10, 11, 12, 13, 14, 15, 16, 17, 18, 19, 20, 21, 22, 23, 24, 25] rfl rfl (by decide) (by decide) (fun u_12 H locs hw_12 hP hD hS => ?_)
  have hP : va_P G vwCl [(h0, .inr (9, [.ref q_1, .ref q_3, .ref q_5, .ref q_7, .ref q_9, .null, .null, .null, .null, .null, .int 0, .int 0])), (q_1, .inr (8, [.ref (u_2 0), .int 0])), ((u_2 0), .inl (cy 1, 800, .inl (fun _ => 0))), (q_3, .inr (7, [.ref q_1, .int 0, .int 0, .int 0, .int 0, .int 0])), (q_5, .inr (3, [.ref (u_6.1 0), .ref (u_6.1 1), .ref (u_6.1 2)])), ((u_6.1 0), .inl (cy 0, 6, .inl (fun _ => 0))), ((u_6.1 1), .inl (cy 0, 6, .inl (fun _ => 0))), ((u_6.1 2), .inl (cy 3, 6, .inr (.inr (.inr (.inr (fun i => if i < 6 then some (u_6.2 i) else none)))))), ((u_6.2 0), .inl (cy 0, 6, .inl (fun _ => 0))), ((u_6.2 1), .inl (cy 0, 6, .inl (fun _ => 0))), ((u_6.2 2), .inl (cy 0, 6, .inl (fun _ => 0))), ((u_6.2 3), .inl (cy 0, 6, .inl (fun _ => 0))), ((u_6.2 4), .inl (cy 0, 6, .inl (fun _ => 0))), ((u_6.2 5), .inl (cy 0, 6, .inl (fun _ => 0))), (q_7, .inr (0, [.ref (u_8.1 0)])), ((u_8.1 0), .inl (cy 3, 6, .inr (.inr (.inr (.inr (fun i => if i < 6 then some (u_8.2 i) else none)))))), ((u_8.2 0), .inl (cy 0, 200, .inl (fun _ => (-1)))), ((u_8.2 1), .inl (cy 0, 200, .inl (fun _ => (-1)))), ((u_8.2 2), .inl (cy 0, 200, .inl (fun _ => (-1)))), ((u_8.2 3), .inl (cy 0, 200, .inl (fun _ => (-1)))), ((u_8.2 4), .inl (cy 0, 200, .inl (fun _ => (-1)))), ((u_8.2 5), .inl (cy 0, 200, .inl (fun _ => (-1)))), (q_9, .inr (1, [.ref (u_10 0), .ref (u_10 1), .ref (u_10 2)])), ((u_10 0), .inl (cy 0, 6, .inl (fun _ => 0))), ((u_10 1), .inl (cy 0, 6, .inl (fun _ => (-1)))), ((u_10 2), .inl (cy 0, 6, .inl (fun _ => (-1)))), (q_11, .inr (5, [.ref (u_12 0), .int 0]))] H := hP
  have hD : va_D A [(h0, .inr (9, [.ref q_1, .ref q_3, .ref q_5, .ref q_7, .ref q_9, .null, .null, .null, .null, .null, .int 0, .int 0])), (q_1, .inr (8, [.ref (u_2 0), .int 0])), ((u_2 0), .inl (cy 1, 800, .inl (fun _ => 0))), (q_3, .inr (7, [.ref q_1, .int 0, .int 0, .int 0, .int 0, .int 0])), (q_5, .inr (3, [.ref (u_6.1 0), .ref (u_6.1 1), .ref (u_6.1 2)])), ((u_6.1 0), .inl (cy 0, 6, .inl (fun _ => 0))), ((u_6.1 1), .inl (cy 0, 6, .inl (fun _ => 0))), ((u_6.1 2), .inl (cy 3, 6, .inr (.inr (.inr (.inr (fun i => if i < 6 then some (u_6.2 i) else none)))))), ((u_6.2 0), .inl (cy 0, 6, .inl (fun _ => 0))), ((u_6.2 1), .inl (cy 0, 6, .inl (fun _ => 0))), ((u_6.2 2), .inl (cy 0, 6, .inl (fun _ => 0))), ((u_6.2 3), .inl (cy 0, 6, .inl (fun _ => 0))), ((u_6.2 4), .inl (cy 0, 6, .inl (fun _ => 0))), ((u_6.2 5), .inl (cy 0, 6, .inl (fun _ => 0))), (q_7, .inr (0, [.ref (u_8.1 0)])), ((u_8.1 0), .inl (cy 3, 6, .inr (.inr (.inr (.inr (fun i => if i < 6 then some (u_8.2 i) else none)))))), ((u_8.2 0), .inl (cy 0, 200, .inl (fun _ => (-1)))), ((u_8.2 1), .inl (cy 0, 200, .inl (fun _ => (-1)))), ((u_8.2 2), .inl (cy 0, 200, .inl (fun _ => (-1)))), ((u_8.2 3), .inl (cy 0, 200, .inl (fun _ => (-1)))), ((u_8.2 4), .inl (cy 0, 200, .inl (fun _ => (-1)))), ((u_8.2 5), .inl (cy 0, 200, .inl (fun _ => (-1)))), (q_9, .inr (1, [.ref (u_10 0), .ref (u_10 1), .ref (u_10 2)])), ((u_10 0), .inl (cy 0, 6, .inl (fun _ => 0))), ((u_10 1), .inl (cy 0, 6, .inl (fun _ => (-1)))), ((u_10 2), .inl (cy 0, 6, .inl (fun _ => (-1)))), (q_11, .inr (5, [.ref (u_12 0), .int 0]))] := hD
  refine W.widen (k := 33) (n := 3901) (Nat.le_of_ble_eq_true rfl) (Nat.le_of_ble_eq_true rfl) ?_
  refine va_putF (ci := 9) (v := .ref q_11) (ty := .object "WellCourt$Ledger") (C := RX9) (T := TX9) (N := 12) hx hb hts inX9 tyX9 tyX9_ok nmX9 hown hK hP hD hS 0 rfl rfl 5 (by decide) (hts _ gm_296) (fun _ h9 => h9) rfl hin rfl (by decide +kernel) rfl rfl (Nat.le_of_ble_eq_true rfl) dX9_init_71 (fun H locs hP hD hS => ?_)
  have hP : va_P G vwCl [(h0, .inr (9, [.ref q_1, .ref q_3, .ref q_5, .ref q_7, .ref q_9, .ref q_11, .null, .null, .null, .null, .int 0, .int 0])), (q_1, .inr (8, [.ref (u_2 0), .int 0])), ((u_2 0), .inl (cy 1, 800, .inl (fun _ => 0))), (q_3, .inr (7, [.ref q_1, .int 0, .int 0, .int 0, .int 0, .int 0])), (q_5, .inr (3, [.ref (u_6.1 0), .ref (u_6.1 1), .ref (u_6.1 2)])), ((u_6.1 0), .inl (cy 0, 6, .inl (fun _ => 0))), ((u_6.1 1), .inl (cy 0, 6, .inl (fun _ => 0))), ((u_6.1 2), .inl (cy 3, 6, .inr (.inr (.inr (.inr (fun i => if i < 6 then some (u_6.2 i) else none)))))), ((u_6.2 0), .inl (cy 0, 6, .inl (fun _ => 0))), ((u_6.2 1), .inl (cy 0, 6, .inl (fun _ => 0))), ((u_6.2 2), .inl (cy 0, 6, .inl (fun _ => 0))), ((u_6.2 3), .inl (cy 0, 6, .inl (fun _ => 0))), ((u_6.2 4), .inl (cy 0, 6, .inl (fun _ => 0))), ((u_6.2 5), .inl (cy 0, 6, .inl (fun _ => 0))), (q_7, .inr (0, [.ref (u_8.1 0)])), ((u_8.1 0), .inl (cy 3, 6, .inr (.inr (.inr (.inr (fun i => if i < 6 then some (u_8.2 i) else none)))))), ((u_8.2 0), .inl (cy 0, 200, .inl (fun _ => (-1)))), ((u_8.2 1), .inl (cy 0, 200, .inl (fun _ => (-1)))), ((u_8.2 2), .inl (cy 0, 200, .inl (fun _ => (-1)))), ((u_8.2 3), .inl (cy 0, 200, .inl (fun _ => (-1)))), ((u_8.2 4), .inl (cy 0, 200, .inl (fun _ => (-1)))), ((u_8.2 5), .inl (cy 0, 200, .inl (fun _ => (-1)))), (q_9, .inr (1, [.ref (u_10 0), .ref (u_10 1), .ref (u_10 2)])), ((u_10 0), .inl (cy 0, 6, .inl (fun _ => 0))), ((u_10 1), .inl (cy 0, 6, .inl (fun _ => (-1)))), ((u_10 2), .inl (cy 0, 6, .inl (fun _ => (-1)))), (q_11, .inr (5, [.ref (u_12 0), .int 0]))] H := hP
  have hD : va_D A [(h0, .inr (9, [.ref q_1, .ref q_3, .ref q_5, .ref q_7, .ref q_9, .ref q_11, .null, .null, .null, .null, .int 0, .int 0])), (q_1, .inr (8, [.ref (u_2 0), .int 0])), ((u_2 0), .inl (cy 1, 800, .inl (fun _ => 0))), (q_3, .inr (7, [.ref q_1, .int 0, .int 0, .int 0, .int 0, .int 0])), (q_5, .inr (3, [.ref (u_6.1 0), .ref (u_6.1 1), .ref (u_6.1 2)])), ((u_6.1 0), .inl (cy 0, 6, .inl (fun _ => 0))), ((u_6.1 1), .inl (cy 0, 6, .inl (fun _ => 0))), ((u_6.1 2), .inl (cy 3, 6, .inr (.inr (.inr (.inr (fun i => if i < 6 then some (u_6.2 i) else none)))))), ((u_6.2 0), .inl (cy 0, 6, .inl (fun _ => 0))), ((u_6.2 1), .inl (cy 0, 6, .inl (fun _ => 0))), ((u_6.2 2), .inl (cy 0, 6, .inl (fun _ => 0))), ((u_6.2 3), .inl (cy 0, 6, .inl (fun _ => 0))), ((u_6.2 4), .inl (cy 0, 6, .inl (fun _ => 0))), ((u_6.2 5), .inl (cy 0, 6, .inl (fun _ => 0))), (q_7, .inr (0, [.ref (u_8.1 0)])), ((u_8.1 0), .inl (cy 3, 6, .inr (.inr (.inr (.inr (fun i => if i < 6 then some (u_8.2 i) else none)))))), ((u_8.2 0), .inl (cy 0, 200, .inl (fun _ => (-1)))), ((u_8.2 1), .inl (cy 0, 200, .inl (fun _ => (-1)))), ((u_8.2 2), .inl (cy 0, 200, .inl (fun _ => (-1)))), ((u_8.2 3), .inl (cy 0, 200, .inl (fun _ => (-1)))), ((u_8.2 4), .inl (cy 0, 200, .inl (fun _ => (-1)))), ((u_8.2 5), .inl (cy 0, 200, .inl (fun _ => (-1)))), (q_9, .inr (1, [.ref (u_10 0), .ref (u_10 1), .ref (u_10 2)])), ((u_10 0), .inl (cy 0, 6, .inl (fun _ => 0))), ((u_10 1), .inl (cy 0, 6, .inl (fun _ => (-1)))), ((u_10 2), .inl (cy 0, 6, .inl (fun _ => (-1)))), (q_11, .inr (5, [.ref (u_12 0), .int 0]))] := hD
  refine lv_aload_n hx hb dX9_init_74 rfl (lv_at hl 0 rfl) ?_
  refine va_new (ci := 2) (fs := [.null, .null, .null, .null, .null]) (C := RX2) (T := TX2) (N := 5) hx hb hts inX2 tyX2 tyX2_ok hown (hts _ gm_150) (hts _ gm_151) (hts _ gm_9) hK hP hD hS hA rfl dfX2 (Nat.le_of_ble_eq_true rfl) (Nat.le_of_ble_eq_true rfl) dX9_init_75 (fun q_13 H hP hD hS => ?_)
  have hP : va_P G vwCl [(h0, .inr (9, [.ref q_1, .ref q_3, .ref q_5, .ref q_7, .ref q_9, .ref q_11, .null, .null, .null, .null, .int 0, .int 0])), (q_1, .inr (8, [.ref (u_2 0), .int 0])), ((u_2 0), .inl (cy 1, 800, .inl (fun _ => 0))), (q_3, .inr (7, [.ref q_1, .int 0, .int 0, .int 0, .int 0, .int 0])), (q_5, .inr (3, [.ref (u_6.1 0), .ref (u_6.1 1), .ref (u_6.1 2)])), ((u_6.1 0), .inl (cy 0, 6, .inl (fun _ => 0))), ((u_6.1 1), .inl (cy 0, 6, .inl (fun _ => 0))), ((u_6.1 2), .inl (cy 3, 6, .inr (.inr (.inr (.inr (fun i => if i < 6 then some (u_6.2 i) else none)))))), ((u_6.2 0), .inl (cy 0, 6, .inl (fun _ => 0))), ((u_6.2 1), .inl (cy 0, 6, .inl (fun _ => 0))), ((u_6.2 2), .inl (cy 0, 6, .inl (fun _ => 0))), ((u_6.2 3), .inl (cy 0, 6, .inl (fun _ => 0))), ((u_6.2 4), .inl (cy 0, 6, .inl (fun _ => 0))), ((u_6.2 5), .inl (cy 0, 6, .inl (fun _ => 0))), (q_7, .inr (0, [.ref (u_8.1 0)])), ((u_8.1 0), .inl (cy 3, 6, .inr (.inr (.inr (.inr (fun i => if i < 6 then some (u_8.2 i) else none)))))), ((u_8.2 0), .inl (cy 0, 200, .inl (fun _ => (-1)))), ((u_8.2 1), .inl (cy 0, 200, .inl (fun _ => (-1)))), ((u_8.2 2), .inl (cy 0, 200, .inl (fun _ => (-1)))), ((u_8.2 3), .inl (cy 0, 200, .inl (fun _ => (-1)))), ((u_8.2 4), .inl (cy 0, 200, .inl (fun _ => (-1)))), ((u_8.2 5), .inl (cy 0, 200, .inl (fun _ => (-1)))), (q_9, .inr (1, [.ref (u_10 0), .ref (u_10 1), .ref (u_10 2)])), ((u_10 0), .inl (cy 0, 6, .inl (fun _ => 0))), ((u_10 1), .inl (cy 0, 6, .inl (fun _ => (-1)))), ((u_10 2), .inl (cy 0, 6, .inl (fun _ => (-1)))), (q_11, .inr (5, [.ref (u_12 0), .int 0])), (q_13, .inr (2, [.null, .null, .null, .null, .null]))] H := hP
  have hD : va_D A [(h0, .inr (9, [.ref q_1, .ref q_3, .ref q_5, .ref q_7, .ref q_9, .ref q_11, .null, .null, .null, .null, .int 0, .int 0])), (q_1, .inr (8, [.ref (u_2 0), .int 0])), ((u_2 0), .inl (cy 1, 800, .inl (fun _ => 0))), (q_3, .inr (7, [.ref q_1, .int 0, .int 0, .int 0, .int 0, .int 0])), (q_5, .inr (3, [.ref (u_6.1 0), .ref (u_6.1 1), .ref (u_6.1 2)])), ((u_6.1 0), .inl (cy 0, 6, .inl (fun _ => 0))), ((u_6.1 1), .inl (cy 0, 6, .inl (fun _ => 0))), ((u_6.1 2), .inl (cy 3, 6, .inr (.inr (.inr (.inr (fun i => if i < 6 then some (u_6.2 i) else none)))))), ((u_6.2 0), .inl (cy 0, 6, .inl (fun _ => 0))), ((u_6.2 1), .inl (cy 0, 6, .inl (fun _ => 0))), ((u_6.2 2), .inl (cy 0, 6, .inl (fun _ => 0))), ((u_6.2 3), .inl (cy 0, 6, .inl (fun _ => 0))), ((u_6.2 4), .inl (cy 0, 6, .inl (fun _ => 0))), ((u_6.2 5), .inl (cy 0, 6, .inl (fun _ => 0))), (q_7, .inr (0, [.ref (u_8.1 0)])), ((u_8.1 0), .inl (cy 3, 6, .inr (.inr (.inr (.inr (fun i => if i < 6 then some (u_8.2 i) else none)))))), ((u_8.2 0), .inl (cy 0, 200, .inl (fun _ => (-1)))), ((u_8.2 1), .inl (cy 0, 200, .inl (fun _ => (-1)))), ((u_8.2 2), .inl (cy 0, 200, .inl (fun _ => (-1)))), ((u_8.2 3), .inl (cy 0, 200, .inl (fun _ => (-1)))), ((u_8.2 4), .inl (cy 0, 200, .inl (fun _ => (-1)))), ((u_8.2 5), .inl (cy 0, 200, .inl (fun _ => (-1)))), (q_9, .inr (1, [.ref (u_10 0), .ref (u_10 1), .ref (u_10 2)])), ((u_10 0), .inl (cy 0, 6, .inl (fun _ => 0))), ((u_10 1), .inl (cy 0, 6, .inl (fun _ => (-1)))), ((u_10 2), .inl (cy 0, 6, .inl (fun _ => (-1)))), (q_11, .inr (5, [.ref (u_12 0), .int 0])), (q_13, .inr (2, [.null, .null, .null, .null, .null]))] := hD
  refine W.widen (k := 34) (n := 3906) (Nat.le_of_ble_eq_true rfl) (Nat.le_of_ble_eq_true rfl) ?_
  refine lv_dup hx hb dX9_init_78 rfl ?_
  refine gz_aftv (va_runI (As := []) (rest := [.ref q_13, .ref h0]) ⟨hx, hb, hml, hown, hts⟩ (c_X2_init l G cy H.size q_13 ) ⟨(gz_cb (n := 0) hts gm_152 gm_9 gm_154 ⟨by decide +kernel, by decide +kernel, by decide +kernel⟩ ⟨Nat.le_of_ble_eq_true rfl, Nat.le_of_ble_eq_true rfl⟩), rfl, hts _ gm_153⟩ (gz_preS hK hov hP hD [27] (by decide) rfl) rfl rfl hl.1 rfl (lv_room (Nat.le_of_ble_eq_true rfl)) dX9_init_79 ⟨Nat.le_of_ble_eq_true rfl, Nat.le_of_ble_eq_true rfl⟩) hP hD hS hA [27] [0, 1, 2, 3, 4, 5, 6, 7, 8, 9, 10, 11, 12, 13, 14, 15, 16, 17, 18, 19, 20, 21, 22, 23, 24, 25, 26] rfl rfl (by decide) (by decide) (fun u_14 H locs hw_14 hP hD hS => ?_)
  have hP : va_P G vwCl [(h0, .inr (9, [.ref q_1, .ref q_3, .ref q_5, .ref q_7, .ref q_9, .ref q_11, .null, .null, .null, .null, .int 0, .int 0])), (q_1, .inr (8, [.ref (u_2 0), .int 0])), ((u_2 0), .inl (cy 1, 800, .inl (fun _ => 0))), (q_3, .inr (7, [.ref q_1, .int 0, .int 0, .int 0, .int 0, .int 0])), (q_5, .inr (3, [.ref (u_6.1 0), .ref (u_6.1 1), .ref (u_6.1 2)])), ((u_6.1 0), .inl (cy 0, 6, .inl (fun _ => 0))), ((u_6.1 1), .inl (cy 0, 6, .inl (fun _ => 0))), ((u_6.1 2), .inl (cy 3, 6, .inr (.inr (.inr (.inr (fun i => if i < 6 then some (u_6.2 i) else none)))))), ((u_6.2 0), .inl (cy 0, 6, .inl (fun _ => 0))), ((u_6.2 1), .inl (cy 0, 6, .inl (fun _ => 0))), ((u_6.2 2), .inl (cy 0, 6, .inl (fun _ => 0))), ((u_6.2 3), .inl (cy 0, 6, .inl (fun _ => 0))), ((u_6.2 4), .inl (cy 0, 6, .inl (fun _ => 0))), ((u_6.2 5), .inl (cy 0, 6, .inl (fun _ => 0))), (q_7, .inr (0, [.ref (u_8.1 0)])), ((u_8.1 0), .inl (cy 3, 6, .inr (.inr (.inr (.inr (fun i => if i < 6 then some (u_8.2 i) else none)))))), ((u_8.2 0), .inl (cy 0, 200, .inl (fun _ => (-1)))), ((u_8.2 1), .inl (cy 0, 200, .inl (fun _ => (-1)))), ((u_8.2 2), .inl (cy 0, 200, .inl (fun _ => (-1)))), ((u_8.2 3), .inl (cy 0, 200, .inl (fun _ => (-1)))), ((u_8.2 4), .inl (cy 0, 200, .inl (fun _ => (-1)))), ((u_8.2 5), .inl (cy 0, 200, .inl (fun _ => (-1)))), (q_9, .inr (1, [.ref (u_10 0), .ref (u_10 1), .ref (u_10 2)])), ((u_10 0), .inl (cy 0, 6, .inl (fun _ => 0))), ((u_10 1), .inl (cy 0, 6, .inl (fun _ => (-1)))), ((u_10 2), .inl (cy 0, 6, .inl (fun _ => (-1)))), (q_11, .inr (5, [.ref (u_12 0), .int 0])), (q_13, .inr (2, [.ref (u_14 0), .ref (u_14 1), .ref (u_14 2), .ref (u_14 3), .ref (u_14 4)])), ((u_14 0), .inl (cy 0, 4, .inl (fun _ => (-1))))] H := hP
  have hD : va_D A [(h0, .inr (9, [.ref q_1, .ref q_3, .ref q_5, .ref q_7, .ref q_9, .ref q_11, .null, .null, .null, .null, .int 0, .int 0])), (q_1, .inr (8, [.ref (u_2 0), .int 0])), ((u_2 0), .inl (cy 1, 800, .inl (fun _ => 0))), (q_3, .inr (7, [.ref q_1, .int 0, .int 0, .int 0, .int 0, .int 0])), (q_5, .inr (3, [.ref (u_6.1 0), .ref (u_6.1 1), .ref (u_6.1 2)])), ((u_6.1 0), .inl (cy 0, 6, .inl (fun _ => 0))), ((u_6.1 1), .inl (cy 0, 6, .inl (fun _ => 0))), ((u_6.1 2), .inl (cy 3, 6, .inr (.inr (.inr (.inr (fun i => if i < 6 then some (u_6.2 i) else none)))))), ((u_6.2 0), .inl (cy 0, 6, .inl (fun _ => 0))), ((u_6.2 1), .inl (cy 0, 6, .inl (fun _ => 0))), ((u_6.2 2), .inl (cy 0, 6, .inl (fun _ => 0))), ((u_6.2 3), .inl (cy 0, 6, .inl (fun _ => 0))), ((u_6.2 4), .inl (cy 0, 6, .inl (fun _ => 0))), ((u_6.2 5), .inl (cy 0, 6, .inl (fun _ => 0))), (q_7, .inr (0, [.ref (u_8.1 0)])), ((u_8.1 0), .inl (cy 3, 6, .inr (.inr (.inr (.inr (fun i => if i < 6 then some (u_8.2 i) else none)))))), ((u_8.2 0), .inl (cy 0, 200, .inl (fun _ => (-1)))), ((u_8.2 1), .inl (cy 0, 200, .inl (fun _ => (-1)))), ((u_8.2 2), .inl (cy 0, 200, .inl (fun _ => (-1)))), ((u_8.2 3), .inl (cy 0, 200, .inl (fun _ => (-1)))), ((u_8.2 4), .inl (cy 0, 200, .inl (fun _ => (-1)))), ((u_8.2 5), .inl (cy 0, 200, .inl (fun _ => (-1)))), (q_9, .inr (1, [.ref (u_10 0), .ref (u_10 1), .ref (u_10 2)])), ((u_10 0), .inl (cy 0, 6, .inl (fun _ => 0))), ((u_10 1), .inl (cy 0, 6, .inl (fun _ => (-1)))), ((u_10 2), .inl (cy 0, 6, .inl (fun _ => (-1)))), (q_11, .inr (5, [.ref (u_12 0), .int 0])), (q_13, .inr (2, [.ref (u_14 0), .ref (u_14 1), .ref (u_14 2), .ref (u_14 3), .ref (u_14 4)])), ((u_14 0), .inl (cy 0, 4, .inl (fun _ => (-1))))] := hD
  refine W.widen (k := 39) (n := 3926) (Nat.le_of_ble_eq_true rfl) (Nat.le_of_ble_eq_true rfl) ?_
  refine va_putF (ci := 9) (v := .ref q_13) (ty := .object "WellCourt$Flock") (C := RX9) (T := TX9) (N := 12) hx hb hts inX9 tyX9 tyX9_ok nmX9 hown hK hP hD hS 0 rfl rfl 6 (by decide) (hts _ gm_297) (fun _ h9 => h9) rfl hin rfl (by decide +kernel) rfl rfl (Nat.le_of_ble_eq_true rfl) dX9_init_82 (fun H locs hP hD hS => ?_)
  have hP : va_P G vwCl [(h0, .inr (9, [.ref q_1, .ref q_3, .ref q_5, .ref q_7, .ref q_9, .ref q_11, .ref q_13, .null, .null, .null, .int 0, .int 0])), (q_1, .inr (8, [.ref (u_2 0), .int 0])), ((u_2 0), .inl (cy 1, 800, .inl (fun _ => 0))), (q_3, .inr (7, [.ref q_1, .int 0, .int 0, .int 0, .int 0, .int 0])), (q_5, .inr (3, [.ref (u_6.1 0), .ref (u_6.1 1), .ref (u_6.1 2)])), ((u_6.1 0), .inl (cy 0, 6, .inl (fun _ => 0))), ((u_6.1 1), .inl (cy 0, 6, .inl (fun _ => 0))), ((u_6.1 2), .inl (cy 3, 6, .inr (.inr (.inr (.inr (fun i => if i < 6 then some (u_6.2 i) else none)))))), ((u_6.2 0), .inl (cy 0, 6, .inl (fun _ => 0))), ((u_6.2 1), .inl (cy 0, 6, .inl (fun _ => 0))), ((u_6.2 2), .inl (cy 0, 6, .inl (fun _ => 0))), ((u_6.2 3), .inl (cy 0, 6, .inl (fun _ => 0))), ((u_6.2 4), .inl (cy 0, 6, .inl (fun _ => 0))), ((u_6.2 5), .inl (cy 0, 6, .inl (fun _ => 0))), (q_7, .inr (0, [.ref (u_8.1 0)])), ((u_8.1 0), .inl (cy 3, 6, .inr (.inr (.inr (.inr (fun i => if i < 6 then some (u_8.2 i) else none)))))), ((u_8.2 0), .inl (cy 0, 200, .inl (fun _ => (-1)))), ((u_8.2 1), .inl (cy 0, 200, .inl (fun _ => (-1)))), ((u_8.2 2), .inl (cy 0, 200, .inl (fun _ => (-1)))), ((u_8.2 3), .inl (cy 0, 200, .inl (fun _ => (-1)))), ((u_8.2 4), .inl (cy 0, 200, .inl (fun _ => (-1)))), ((u_8.2 5), .inl (cy 0, 200, .inl (fun _ => (-1)))), (q_9, .inr (1, [.ref (u_10 0), .ref (u_10 1), .ref (u_10 2)])), ((u_10 0), .inl (cy 0, 6, .inl (fun _ => 0))), ((u_10 1), .inl (cy 0, 6, .inl (fun _ => (-1)))), ((u_10 2), .inl (cy 0, 6, .inl (fun _ => (-1)))), (q_11, .inr (5, [.ref (u_12 0), .int 0])), (q_13, .inr (2, [.ref (u_14 0), .ref (u_14 1), .ref (u_14 2), .ref (u_14 3), .ref (u_14 4)])), ((u_14 0), .inl (cy 0, 4, .inl (fun _ => (-1))))] H := hP
  have hD : va_D A [(h0, .inr (9, [.ref q_1, .ref q_3, .ref q_5, .ref q_7, .ref q_9, .ref q_11, .ref q_13, .null, .null, .null, .int 0, .int 0])), (q_1, .inr (8, [.ref (u_2 0), .int 0])), ((u_2 0), .inl (cy 1, 800, .inl (fun _ => 0))), (q_3, .inr (7, [.ref q_1, .int 0, .int 0, .int 0, .int 0, .int 0])), (q_5, .inr (3, [.ref (u_6.1 0), .ref (u_6.1 1), .ref (u_6.1 2)])), ((u_6.1 0), .inl (cy 0, 6, .inl (fun _ => 0))), ((u_6.1 1), .inl (cy 0, 6, .inl (fun _ => 0))), ((u_6.1 2), .inl (cy 3, 6, .inr (.inr (.inr (.inr (fun i => if i < 6 then some (u_6.2 i) else none)))))), ((u_6.2 0), .inl (cy 0, 6, .inl (fun _ => 0))), ((u_6.2 1), .inl (cy 0, 6, .inl (fun _ => 0))), ((u_6.2 2), .inl (cy 0, 6, .inl (fun _ => 0))), ((u_6.2 3), .inl (cy 0, 6, .inl (fun _ => 0))), ((u_6.2 4), .inl (cy 0, 6, .inl (fun _ => 0))), ((u_6.2 5), .inl (cy 0, 6, .inl (fun _ => 0))), (q_7, .inr (0, [.ref (u_8.1 0)])), ((u_8.1 0), .inl (cy 3, 6, .inr (.inr (.inr (.inr (fun i => if i < 6 then some (u_8.2 i) else none)))))), ((u_8.2 0), .inl (cy 0, 200, .inl (fun _ => (-1)))), ((u_8.2 1), .inl (cy 0, 200, .inl (fun _ => (-1)))), ((u_8.2 2), .inl (cy 0, 200, .inl (fun _ => (-1)))), ((u_8.2 3), .inl (cy 0, 200, .inl (fun _ => (-1)))), ((u_8.2 4), .inl (cy 0, 200, .inl (fun _ => (-1)))), ((u_8.2 5), .inl (cy 0, 200, .inl (fun _ => (-1)))), (q_9, .inr (1, [.ref (u_10 0), .ref (u_10 1), .ref (u_10 2)])), ((u_10 0), .inl (cy 0, 6, .inl (fun _ => 0))), ((u_10 1), .inl (cy 0, 6, .inl (fun _ => (-1)))), ((u_10 2), .inl (cy 0, 6, .inl (fun _ => (-1)))), (q_11, .inr (5, [.ref (u_12 0), .int 0])), (q_13, .inr (2, [.ref (u_14 0), .ref (u_14 1), .ref (u_14 2), .ref (u_14 3), .ref (u_14 4)])), ((u_14 0), .inl (cy 0, 4, .inl (fun _ => (-1))))] := hD
  refine lv_aload_n hx hb dX9_init_85 rfl (lv_at hl 0 rfl) ?_
  refine va_new (ci := 4) (fs := [.int 0, .null, .null, .null, .null, .int 0, .null, .null, .null, .int 0, .null, .null, .null, .null]) (C := RX4) (T := TX4) (N := 14) hx hb hts inX4 tyX4 tyX4_ok hown (hts _ gm_181) (hts _ gm_182) (hts _ gm_10) hK hP hD hS hA rfl dfX4 (Nat.le_of_ble_eq_true rfl) (Nat.le_of_ble_eq_true rfl) dX9_init_86 (fun q_15 H hP hD hS => ?_)
  have hP : va_P G vwCl [(h0, .inr (9, [.ref q_1, .ref q_3, .ref q_5, .ref q_7, .ref q_9, .ref q_11, .ref q_13, .null, .null, .null, .int 0, .int 0])), (q_1, .inr (8, [.ref (u_2 0), .int 0])), ((u_2 0), .inl (cy 1, 800, .inl (fun _ => 0))), (q_3, .inr (7, [.ref q_1, .int 0, .int 0, .int 0, .int 0, .int 0])), (q_5, .inr (3, [.ref (u_6.1 0), .ref (u_6.1 1), .ref (u_6.1 2)])), ((u_6.1 0), .inl (cy 0, 6, .inl (fun _ => 0))), ((u_6.1 1), .inl (cy 0, 6, .inl (fun _ => 0))), ((u_6.1 2), .inl (cy 3, 6, .inr (.inr (.inr (.inr (fun i => if i < 6 then some (u_6.2 i) else none)))))), ((u_6.2 0), .inl (cy 0, 6, .inl (fun _ => 0))), ((u_6.2 1), .inl (cy 0, 6, .inl (fun _ => 0))), ((u_6.2 2), .inl (cy 0, 6, .inl (fun _ => 0))), ((u_6.2 3), .inl (cy 0, 6, .inl (fun _ => 0))), ((u_6.2 4), .inl (cy 0, 6, .inl (fun _ => 0))), ((u_6.2 5), .inl (cy 0, 6, .inl (fun _ => 0))), (q_7, .inr (0, [.ref (u_8.1 0)])), ((u_8.1 0), .inl (cy 3, 6, .inr (.inr (.inr (.inr (fun i => if i < 6 then some (u_8.2 i) else none)))))), ((u_8.2 0), .inl (cy 0, 200, .inl (fun _ => (-1)))), ((u_8.2 1), .inl (cy 0, 200, .inl (fun _ => (-1)))), ((u_8.2 2), .inl (cy 0, 200, .inl (fun _ => (-1)))), ((u_8.2 3), .inl (cy 0, 200, .inl (fun _ => (-1)))), ((u_8.2 4), .inl (cy 0, 200, .inl (fun _ => (-1)))), ((u_8.2 5), .inl (cy 0, 200, .inl (fun _ => (-1)))), (q_9, .inr (1, [.ref (u_10 0), .ref (u_10 1), .ref (u_10 2)])), ((u_10 0), .inl (cy 0, 6, .inl (fun _ => 0))), ((u_10 1), .inl (cy 0, 6, .inl (fun _ => (-1)))), ((u_10 2), .inl (cy 0, 6, .inl (fun _ => (-1)))), (q_11, .inr (5, [.ref (u_12 0), .int 0])), (q_13, .inr (2, [.ref (u_14 0), .ref (u_14 1), .ref (u_14 2), .ref (u_14 3), .ref (u_14 4)])), ((u_14 0), .inl (cy 0, 4, .inl (fun _ => (-1)))), (q_15, .inr (4, [.int 0, .null, .null, .null, .null, .int 0, .null, .null, .null, .int 0, .null, .null, .null, .null]))] H := hP
  have hD : va_D A [(h0, .inr (9, [.ref q_1, .ref q_3, .ref q_5, .ref q_7, .ref q_9, .ref q_11, .ref q_13, .null, .null, .null, .int 0, .int 0])), (q_1, .inr (8, [.ref (u_2 0), .int 0])), ((u_2 0), .inl (cy 1, 800, .inl (fun _ => 0))), (q_3, .inr (7, [.ref q_1, .int 0, .int 0, .int 0, .int 0, .int 0])), (q_5, .inr (3, [.ref (u_6.1 0), .ref (u_6.1 1), .ref (u_6.1 2)])), ((u_6.1 0), .inl (cy 0, 6, .inl (fun _ => 0))), ((u_6.1 1), .inl (cy 0, 6, .inl (fun _ => 0))), ((u_6.1 2), .inl (cy 3, 6, .inr (.inr (.inr (.inr (fun i => if i < 6 then some (u_6.2 i) else none)))))), ((u_6.2 0), .inl (cy 0, 6, .inl (fun _ => 0))), ((u_6.2 1), .inl (cy 0, 6, .inl (fun _ => 0))), ((u_6.2 2), .inl (cy 0, 6, .inl (fun _ => 0))), ((u_6.2 3), .inl (cy 0, 6, .inl (fun _ => 0))), ((u_6.2 4), .inl (cy 0, 6, .inl (fun _ => 0))), ((u_6.2 5), .inl (cy 0, 6, .inl (fun _ => 0))), (q_7, .inr (0, [.ref (u_8.1 0)])), ((u_8.1 0), .inl (cy 3, 6, .inr (.inr (.inr (.inr (fun i => if i < 6 then some (u_8.2 i) else none)))))), ((u_8.2 0), .inl (cy 0, 200, .inl (fun _ => (-1)))), ((u_8.2 1), .inl (cy 0, 200, .inl (fun _ => (-1)))), ((u_8.2 2), .inl (cy 0, 200, .inl (fun _ => (-1)))), ((u_8.2 3), .inl (cy 0, 200, .inl (fun _ => (-1)))), ((u_8.2 4), .inl (cy 0, 200, .inl (fun _ => (-1)))), ((u_8.2 5), .inl (cy 0, 200, .inl (fun _ => (-1)))), (q_9, .inr (1, [.ref (u_10 0), .ref (u_10 1), .ref (u_10 2)])), ((u_10 0), .inl (cy 0, 6, .inl (fun _ => 0))), ((u_10 1), .inl (cy 0, 6, .inl (fun _ => (-1)))), ((u_10 2), .inl (cy 0, 6, .inl (fun _ => (-1)))), (q_11, .inr (5, [.ref (u_12 0), .int 0])), (q_13, .inr (2, [.ref (u_14 0), .ref (u_14 1), .ref (u_14 2), .ref (u_14 3), .ref (u_14 4)])), ((u_14 0), .inl (cy 0, 4, .inl (fun _ => (-1)))), (q_15, .inr (4, [.int 0, .null, .null, .null, .null, .int 0, .null, .null, .null, .int 0, .null, .null, .null, .null]))] := hD
  refine W.widen (k := 40) (n := 3940) (Nat.le_of_ble_eq_true rfl) (Nat.le_of_ble_eq_true rfl) ?_
  refine lv_dup hx hb dX9_init_89 rfl ?_
  refine gz_aftv (va_runIN (As := []) (rest := [.ref q_15, .ref h0]) ⟨hx, hb, hml, hown, hts⟩ (c_X4_init l G cy H.size q_15 ) ⟨(va_cnB 0 hts (gz_good gm_185) rfl rfl rfl (hov.2.2 _ gn_183) (hts _ gm_10) ⟨by decide +kernel, by decide +kernel, by decide +kernel⟩ ⟨Nat.le_of_ble_eq_true rfl, Nat.le_of_ble_eq_true rfl⟩), rfl, hts _ gm_184⟩ (gz_preS hK hov hP hD [29] (by decide) rfl) rfl rfl hl.1 rfl (lv_room (Nat.le_of_ble_eq_true rfl)) dX9_init_90 ⟨Nat.le_of_ble_eq_true rfl, Nat.le_of_ble_eq_true rfl⟩) hP hD hS hA [29] [0, 1, 2, 3, 4, 5, 6, 7, 8, 9, 10, 11, 12, 13, 14, 15, 16, 17, 18, 19, 20, 21, 22, 23, 24, 25, 26, 27, 28] rfl rfl (by decide) (by decide) (fun u_16 H locs hw_16 hP hD hS => ?_)
  have hP : va_P G vwCl [(h0, .inr (9, [.ref q_1, .ref q_3, .ref q_5, .ref q_7, .ref q_9, .ref q_11, .ref q_13, .null, .null, .null, .int 0, .int 0])), (q_1, .inr (8, [.ref (u_2 0), .int 0])), ((u_2 0), .inl (cy 1, 800, .inl (fun _ => 0))), (q_3, .inr (7, [.ref q_1, .int 0, .int 0, .int 0, .int 0, .int 0])), (q_5, .inr (3, [.ref (u_6.1 0), .ref (u_6.1 1), .ref (u_6.1 2)])), ((u_6.1 0), .inl (cy 0, 6, .inl (fun _ => 0))), ((u_6.1 1), .inl (cy 0, 6, .inl (fun _ => 0))), ((u_6.1 2), .inl (cy 3, 6, .inr (.inr (.inr (.inr (fun i => if i < 6 then some (u_6.2 i) else none)))))), ((u_6.2 0), .inl (cy 0, 6, .inl (fun _ => 0))), ((u_6.2 1), .inl (cy 0, 6, .inl (fun _ => 0))), ((u_6.2 2), .inl (cy 0, 6, .inl (fun _ => 0))), ((u_6.2 3), .inl (cy 0, 6, .inl (fun _ => 0))), ((u_6.2 4), .inl (cy 0, 6, .inl (fun _ => 0))), ((u_6.2 5), .inl (cy 0, 6, .inl (fun _ => 0))), (q_7, .inr (0, [.ref (u_8.1 0)])), ((u_8.1 0), .inl (cy 3, 6, .inr (.inr (.inr (.inr (fun i => if i < 6 then some (u_8.2 i) else none)))))), ((u_8.2 0), .inl (cy 0, 200, .inl (fun _ => (-1)))), ((u_8.2 1), .inl (cy 0, 200, .inl (fun _ => (-1)))), ((u_8.2 2), .inl (cy 0, 200, .inl (fun _ => (-1)))), ((u_8.2 3), .inl (cy 0, 200, .inl (fun _ => (-1)))), ((u_8.2 4), .inl (cy 0, 200, .inl (fun _ => (-1)))), ((u_8.2 5), .inl (cy 0, 200, .inl (fun _ => (-1)))), (q_9, .inr (1, [.ref (u_10 0), .ref (u_10 1), .ref (u_10 2)])), ((u_10 0), .inl (cy 0, 6, .inl (fun _ => 0))), ((u_10 1), .inl (cy 0, 6, .inl (fun _ => (-1)))), ((u_10 2), .inl (cy 0, 6, .inl (fun _ => (-1)))), (q_11, .inr (5, [.ref (u_12 0), .int 0])), (q_13, .inr (2, [.ref (u_14 0), .ref (u_14 1), .ref (u_14 2), .ref (u_14 3), .ref (u_14 4)])), ((u_14 0), .inl (cy 0, 4, .inl (fun _ => (-1)))), (q_15, .inr (4, [.int 0, .ref (u_16 0), .ref (u_16 1), .ref (u_16 2), .ref (u_16 3), .int 0, .ref (u_16 4), .ref (u_16 5), .ref (u_16 6), .int 0, .ref (u_16 7), .ref (u_16 8), .ref (u_16 9), .ref (u_16 10)])), ((u_16 1), .inl (cy 0, 6, .inl (fun _ => 0))), ((u_16 2), .inl (cy 0, 6, .inl (fun _ => 0))), ((u_16 3), .inl (cy 0, 6, .inl (fun _ => 0)))] H := hP
  have hD : va_D A [(h0, .inr (9, [.ref q_1, .ref q_3, .ref q_5, .ref q_7, .ref q_9, .ref q_11, .ref q_13, .null, .null, .null, .int 0, .int 0])), (q_1, .inr (8, [.ref (u_2 0), .int 0])), ((u_2 0), .inl (cy 1, 800, .inl (fun _ => 0))), (q_3, .inr (7, [.ref q_1, .int 0, .int 0, .int 0, .int 0, .int 0])), (q_5, .inr (3, [.ref (u_6.1 0), .ref (u_6.1 1), .ref (u_6.1 2)])), ((u_6.1 0), .inl (cy 0, 6, .inl (fun _ => 0))), ((u_6.1 1), .inl (cy 0, 6, .inl (fun _ => 0))), ((u_6.1 2), .inl (cy 3, 6, .inr (.inr (.inr (.inr (fun i => if i < 6 then some (u_6.2 i) else none)))))), ((u_6.2 0), .inl (cy 0, 6, .inl (fun _ => 0))), ((u_6.2 1), .inl (cy 0, 6, .inl (fun _ => 0))), ((u_6.2 2), .inl (cy 0, 6, .inl (fun _ => 0))), ((u_6.2 3), .inl (cy 0, 6, .inl (fun _ => 0))), ((u_6.2 4), .inl (cy 0, 6, .inl (fun _ => 0))), ((u_6.2 5), .inl (cy 0, 6, .inl (fun _ => 0))), (q_7, .inr (0, [.ref (u_8.1 0)])), ((u_8.1 0), .inl (cy 3, 6, .inr (.inr (.inr (.inr (fun i => if i < 6 then some (u_8.2 i) else none)))))), ((u_8.2 0), .inl (cy 0, 200, .inl (fun _ => (-1)))), ((u_8.2 1), .inl (cy 0, 200, .inl (fun _ => (-1)))), ((u_8.2 2), .inl (cy 0, 200, .inl (fun _ => (-1)))), ((u_8.2 3), .inl (cy 0, 200, .inl (fun _ => (-1)))), ((u_8.2 4), .inl (cy 0, 200, .inl (fun _ => (-1)))), ((u_8.2 5), .inl (cy 0, 200, .inl (fun _ => (-1)))), (q_9, .inr (1, [.ref (u_10 0), .ref (u_10 1), .ref (u_10 2)])), ((u_10 0), .inl (cy 0, 6, .inl (fun _ => 0))), ((u_10 1), .inl (cy 0, 6, .inl (fun _ => (-1)))), ((u_10 2), .inl (cy 0, 6, .inl (fun _ => (-1)))), (q_11, .inr (5, [.ref (u_12 0), .int 0])), (q_13, .inr (2, [.ref (u_14 0), .ref (u_14 1), .ref (u_14 2), .ref (u_14 3), .ref (u_14 4)])), ((u_14 0), .inl (cy 0, 4, .inl (fun _ => (-1)))), (q_15, .inr (4, [.int 0, .ref (u_16 0), .ref (u_16 1), .ref (u_16 2), .ref (u_16 3), .int 0, .ref (u_16 4), .ref (u_16 5), .ref (u_16 6), .int 0, .ref (u_16 7), .ref (u_16 8), .ref (u_16 9), .ref (u_16 10)])), ((u_16 1), .inl (cy 0, 6, .inl (fun _ => 0))), ((u_16 2), .inl (cy 0, 6, .inl (fun _ => 0))), ((u_16 3), .inl (cy 0, 6, .inl (fun _ => 0)))] := hD
  refine W.widen (k := 57) (n := 4536) (Nat.le_of_ble_eq_true rfl) (Nat.le_of_ble_eq_true rfl) ?_
  refine va_put (ci := 9) (v := .ref q_15) (ty := .object "WellCourt$Law") (C := RX9) (T := TX9) (N := 12) hx hb hts inX9 tyX9 tyX9_ok nmX9 hown hK hP hD hS 0 rfl rfl 7 (by decide) (hts _ gm_298) (fun _ h9 => h9) rfl (by decide +kernel) rfl rfl (Nat.le_of_ble_eq_true rfl) dX9_init_93 (fun H locs hP hD hS => ?_)
  have hP : va_P G vwCl [(h0, .inr (9, [.ref q_1, .ref q_3, .ref q_5, .ref q_7, .ref q_9, .ref q_11, .ref q_13, .ref q_15, .null, .null, .int 0, .int 0])), (q_1, .inr (8, [.ref (u_2 0), .int 0])), ((u_2 0), .inl (cy 1, 800, .inl (fun _ => 0))), (q_3, .inr (7, [.ref q_1, .int 0, .int 0, .int 0, .int 0, .int 0])), (q_5, .inr (3, [.ref (u_6.1 0), .ref (u_6.1 1), .ref (u_6.1 2)])), ((u_6.1 0), .inl (cy 0, 6, .inl (fun _ => 0))), ((u_6.1 1), .inl (cy 0, 6, .inl (fun _ => 0))), ((u_6.1 2), .inl (cy 3, 6, .inr (.inr (.inr (.inr (fun i => if i < 6 then some (u_6.2 i) else none)))))), ((u_6.2 0), .inl (cy 0, 6, .inl (fun _ => 0))), ((u_6.2 1), .inl (cy 0, 6, .inl (fun _ => 0))), ((u_6.2 2), .inl (cy 0, 6, .inl (fun _ => 0))), ((u_6.2 3), .inl (cy 0, 6, .inl (fun _ => 0))), ((u_6.2 4), .inl (cy 0, 6, .inl (fun _ => 0))), ((u_6.2 5), .inl (cy 0, 6, .inl (fun _ => 0))), (q_7, .inr (0, [.ref (u_8.1 0)])), ((u_8.1 0), .inl (cy 3, 6, .inr (.inr (.inr (.inr (fun i => if i < 6 then some (u_8.2 i) else none)))))), ((u_8.2 0), .inl (cy 0, 200, .inl (fun _ => (-1)))), ((u_8.2 1), .inl (cy 0, 200, .inl (fun _ => (-1)))), ((u_8.2 2), .inl (cy 0, 200, .inl (fun _ => (-1)))), ((u_8.2 3), .inl (cy 0, 200, .inl (fun _ => (-1)))), ((u_8.2 4), .inl (cy 0, 200, .inl (fun _ => (-1)))), ((u_8.2 5), .inl (cy 0, 200, .inl (fun _ => (-1)))), (q_9, .inr (1, [.ref (u_10 0), .ref (u_10 1), .ref (u_10 2)])), ((u_10 0), .inl (cy 0, 6, .inl (fun _ => 0))), ((u_10 1), .inl (cy 0, 6, .inl (fun _ => (-1)))), ((u_10 2), .inl (cy 0, 6, .inl (fun _ => (-1)))), (q_11, .inr (5, [.ref (u_12 0), .int 0])), (q_13, .inr (2, [.ref (u_14 0), .ref (u_14 1), .ref (u_14 2), .ref (u_14 3), .ref (u_14 4)])), ((u_14 0), .inl (cy 0, 4, .inl (fun _ => (-1)))), (q_15, .inr (4, [.int 0, .ref (u_16 0), .ref (u_16 1), .ref (u_16 2), .ref (u_16 3), .int 0, .ref (u_16 4), .ref (u_16 5), .ref (u_16 6), .int 0, .ref (u_16 7), .ref (u_16 8), .ref (u_16 9), .ref (u_16 10)])), ((u_16 1), .inl (cy 0, 6, .inl (fun _ => 0))), ((u_16 2), .inl (cy 0, 6, .inl (fun _ => 0))), ((u_16 3), .inl (cy 0, 6, .inl (fun _ => 0)))] H := hP
  have hD : va_D A [(h0, .inr (9, [.ref q_1, .ref q_3, .ref q_5, .ref q_7, .ref q_9, .ref q_11, .ref q_13, .ref q_15, .null, .null, .int 0, .int 0])), (q_1, .inr (8, [.ref (u_2 0), .int 0])), ((u_2 0), .inl (cy 1, 800, .inl (fun _ => 0))), (q_3, .inr (7, [.ref q_1, .int 0, .int 0, .int 0, .int 0, .int 0])), (q_5, .inr (3, [.ref (u_6.1 0), .ref (u_6.1 1), .ref (u_6.1 2)])), ((u_6.1 0), .inl (cy 0, 6, .inl (fun _ => 0))), ((u_6.1 1), .inl (cy 0, 6, .inl (fun _ => 0))), ((u_6.1 2), .inl (cy 3, 6, .inr (.inr (.inr (.inr (fun i => if i < 6 then some (u_6.2 i) else none)))))), ((u_6.2 0), .inl (cy 0, 6, .inl (fun _ => 0))), ((u_6.2 1), .inl (cy 0, 6, .inl (fun _ => 0))), ((u_6.2 2), .inl (cy 0, 6, .inl (fun _ => 0))), ((u_6.2 3), .inl (cy 0, 6, .inl (fun _ => 0))), ((u_6.2 4), .inl (cy 0, 6, .inl (fun _ => 0))), ((u_6.2 5), .inl (cy 0, 6, .inl (fun _ => 0))), (q_7, .inr (0, [.ref (u_8.1 0)])), ((u_8.1 0), .inl (cy 3, 6, .inr (.inr (.inr (.inr (fun i => if i < 6 then some (u_8.2 i) else none)))))), ((u_8.2 0), .inl (cy 0, 200, .inl (fun _ => (-1)))), ((u_8.2 1), .inl (cy 0, 200, .inl (fun _ => (-1)))), ((u_8.2 2), .inl (cy 0, 200, .inl (fun _ => (-1)))), ((u_8.2 3), .inl (cy 0, 200, .inl (fun _ => (-1)))), ((u_8.2 4), .inl (cy 0, 200, .inl (fun _ => (-1)))), ((u_8.2 5), .inl (cy 0, 200, .inl (fun _ => (-1)))), (q_9, .inr (1, [.ref (u_10 0), .ref (u_10 1), .ref (u_10 2)])), ((u_10 0), .inl (cy 0, 6, .inl (fun _ => 0))), ((u_10 1), .inl (cy 0, 6, .inl (fun _ => (-1)))), ((u_10 2), .inl (cy 0, 6, .inl (fun _ => (-1)))), (q_11, .inr (5, [.ref (u_12 0), .int 0])), (q_13, .inr (2, [.ref (u_14 0), .ref (u_14 1), .ref (u_14 2), .ref (u_14 3), .ref (u_14 4)])), ((u_14 0), .inl (cy 0, 4, .inl (fun _ => (-1)))), (q_15, .inr (4, [.int 0, .ref (u_16 0), .ref (u_16 1), .ref (u_16 2), .ref (u_16 3), .int 0, .ref (u_16 4), .ref (u_16 5), .ref (u_16 6), .int 0, .ref (u_16 7), .ref (u_16 8), .ref (u_16 9), .ref (u_16 10)])), ((u_16 1), .inl (cy 0, 6, .inl (fun _ => 0))), ((u_16 2), .inl (cy 0, 6, .inl (fun _ => 0))), ((u_16 3), .inl (cy 0, 6, .inl (fun _ => 0)))] := hD
  refine lv_aload_n hx hb dX9_init_96 rfl (lv_at hl 0 rfl) ?_
  refine va_new (ci := 4) (fs := [.int 0, .null, .null, .null, .null, .int 0, .null, .null, .null, .int 0, .null, .null, .null, .null]) (C := RX4) (T := TX4) (N := 14) hx hb hts inX4 tyX4 tyX4_ok hown (hts _ gm_181) (hts _ gm_182) (hts _ gm_10) hK hP hD hS hA rfl dfX4 (Nat.le_of_ble_eq_true rfl) (Nat.le_of_ble_eq_true rfl) dX9_init_97 (fun q_17 H hP hD hS => ?_)
  have hP : va_P G vwCl [(h0, .inr (9, [.ref q_1, .ref q_3, .ref q_5, .ref q_7, .ref q_9, .ref q_11, .ref q_13, .ref q_15, .null, .null, .int 0, .int 0])), (q_1, .inr (8, [.ref (u_2 0), .int 0])), ((u_2 0), .inl (cy 1, 800, .inl (fun _ => 0))), (q_3, .inr (7, [.ref q_1, .int 0, .int 0, .int 0, .int 0, .int 0])), (q_5, .inr (3, [.ref (u_6.1 0), .ref (u_6.1 1), .ref (u_6.1 2)])), ((u_6.1 0), .inl (cy 0, 6, .inl (fun _ => 0))), ((u_6.1 1), .inl (cy 0, 6, .inl (fun _ => 0))), ((u_6.1 2), .inl (cy 3, 6, .inr (.inr (.inr (.inr (fun i => if i < 6 then some (u_6.2 i) else none)))))), ((u_6.2 0), .inl (cy 0, 6, .inl (fun _ => 0))), ((u_6.2 1), .inl (cy 0, 6, .inl (fun _ => 0))), ((u_6.2 2), .inl (cy 0, 6, .inl (fun _ => 0))), ((u_6.2 3), .inl (cy 0, 6, .inl (fun _ => 0))), ((u_6.2 4), .inl (cy 0, 6, .inl (fun _ => 0))), ((u_6.2 5), .inl (cy 0, 6, .inl (fun _ => 0))), (q_7, .inr (0, [.ref (u_8.1 0)])), ((u_8.1 0), .inl (cy 3, 6, .inr (.inr (.inr (.inr (fun i => if i < 6 then some (u_8.2 i) else none)))))), ((u_8.2 0), .inl (cy 0, 200, .inl (fun _ => (-1)))), ((u_8.2 1), .inl (cy 0, 200, .inl (fun _ => (-1)))), ((u_8.2 2), .inl (cy 0, 200, .inl (fun _ => (-1)))), ((u_8.2 3), .inl (cy 0, 200, .inl (fun _ => (-1)))), ((u_8.2 4), .inl (cy 0, 200, .inl (fun _ => (-1)))), ((u_8.2 5), .inl (cy 0, 200, .inl (fun _ => (-1)))), (q_9, .inr (1, [.ref (u_10 0), .ref (u_10 1), .ref (u_10 2)])), ((u_10 0), .inl (cy 0, 6, .inl (fun _ => 0))), ((u_10 1), .inl (cy 0, 6, .inl (fun _ => (-1)))), ((u_10 2), .inl (cy 0, 6, .inl (fun _ => (-1)))), (q_11, .inr (5, [.ref (u_12 0), .int 0])), (q_13, .inr (2, [.ref (u_14 0), .ref (u_14 1), .ref (u_14 2), .ref (u_14 3), .ref (u_14 4)])), ((u_14 0), .inl (cy 0, 4, .inl (fun _ => (-1)))), (q_15, .inr (4, [.int 0, .ref (u_16 0), .ref (u_16 1), .ref (u_16 2), .ref (u_16 3), .int 0, .ref (u_16 4), .ref (u_16 5), .ref (u_16 6), .int 0, .ref (u_16 7), .ref (u_16 8), .ref (u_16 9), .ref (u_16 10)])), ((u_16 1), .inl (cy 0, 6, .inl (fun _ => 0))), ((u_16 2), .inl (cy 0, 6, .inl (fun _ => 0))), ((u_16 3), .inl (cy 0, 6, .inl (fun _ => 0))), (q_17, .inr (4, [.int 0, .null, .null, .null, .null, .int 0, .null, .null, .null, .int 0, .null, .null, .null, .null]))] H := hP
  have hD : va_D A [(h0, .inr (9, [.ref q_1, .ref q_3, .ref q_5, .ref q_7, .ref q_9, .ref q_11, .ref q_13, .ref q_15, .null, .null, .int 0, .int 0])), (q_1, .inr (8, [.ref (u_2 0), .int 0])), ((u_2 0), .inl (cy 1, 800, .inl (fun _ => 0))), (q_3, .inr (7, [.ref q_1, .int 0, .int 0, .int 0, .int 0, .int 0])), (q_5, .inr (3, [.ref (u_6.1 0), .ref (u_6.1 1), .ref (u_6.1 2)])), ((u_6.1 0), .inl (cy 0, 6, .inl (fun _ => 0))), ((u_6.1 1), .inl (cy 0, 6, .inl (fun _ => 0))), ((u_6.1 2), .inl (cy 3, 6, .inr (.inr (.inr (.inr (fun i => if i < 6 then some (u_6.2 i) else none)))))), ((u_6.2 0), .inl (cy 0, 6, .inl (fun _ => 0))), ((u_6.2 1), .inl (cy 0, 6, .inl (fun _ => 0))), ((u_6.2 2), .inl (cy 0, 6, .inl (fun _ => 0))), ((u_6.2 3), .inl (cy 0, 6, .inl (fun _ => 0))), ((u_6.2 4), .inl (cy 0, 6, .inl (fun _ => 0))), ((u_6.2 5), .inl (cy 0, 6, .inl (fun _ => 0))), (q_7, .inr (0, [.ref (u_8.1 0)])), ((u_8.1 0), .inl (cy 3, 6, .inr (.inr (.inr (.inr (fun i => if i < 6 then some (u_8.2 i) else none)))))), ((u_8.2 0), .inl (cy 0, 200, .inl (fun _ => (-1)))), ((u_8.2 1), .inl (cy 0, 200, .inl (fun _ => (-1)))), ((u_8.2 2), .inl (cy 0, 200, .inl (fun _ => (-1)))), ((u_8.2 3), .inl (cy 0, 200, .inl (fun _ => (-1)))), ((u_8.2 4), .inl (cy 0, 200, .inl (fun _ => (-1)))), ((u_8.2 5), .inl (cy 0, 200, .inl (fun _ => (-1)))), (q_9, .inr (1, [.ref (u_10 0), .ref (u_10 1), .ref (u_10 2)])), ((u_10 0), .inl (cy 0, 6, .inl (fun _ => 0))), ((u_10 1), .inl (cy 0, 6, .inl (fun _ => (-1)))), ((u_10 2), .inl (cy 0, 6, .inl (fun _ => (-1)))), (q_11, .inr (5, [.ref (u_12 0), .int 0])), (q_13, .inr (2, [.ref (u_14 0), .ref (u_14 1), .ref (u_14 2), .ref (u_14 3), .ref (u_14 4)])), ((u_14 0), .inl (cy 0, 4, .inl (fun _ => (-1)))), (q_15, .inr (4, [.int 0, .ref (u_16 0), .ref (u_16 1), .ref (u_16 2), .ref (u_16 3), .int 0, .ref (u_16 4), .ref (u_16 5), .ref (u_16 6), .int 0, .ref (u_16 7), .ref (u_16 8), .ref (u_16 9), .ref (u_16 10)])), ((u_16 1), .inl (cy 0, 6, .inl (fun _ => 0))), ((u_16 2), .inl (cy 0, 6, .inl (fun _ => 0))), ((u_16 3), .inl (cy 0, 6, .inl (fun _ => 0))), (q_17, .inr (4, [.int 0, .null, .null, .null, .null, .int 0, .null, .null, .null, .int 0, .null, .null, .null, .null]))] := hD
  refine W.widen (k := 58) (n := 4550) (Nat.le_of_ble_eq_true rfl) (Nat.le_of_ble_eq_true rfl) ?_
  refine lv_dup hx hb dX9_init_100 rfl ?_
  refine gz_aftv (va_runIN (As := []) (rest := [.ref q_17, .ref h0]) ⟨hx, hb, hml, hown, hts⟩ (c_X4_init l G cy H.size q_17 ) ⟨(va_cnB 0 hts (gz_good gm_185) rfl rfl rfl (hov.2.2 _ gn_183) (hts _ gm_10) ⟨by decide +kernel, by decide +kernel, by decide +kernel⟩ ⟨Nat.le_of_ble_eq_true rfl, Nat.le_of_ble_eq_true rfl⟩), rfl, hts _ gm_184⟩ (gz_preS hK hov hP hD [33] (by decide) rfl) rfl rfl hl.1 rfl (lv_room (Nat.le_of_ble_eq_true rfl)) dX9_init_101 ⟨Nat.le_of_ble_eq_true rfl, Nat.le_of_ble_eq_true rfl⟩) hP hD hS hA [33] [0, 1, 2, 3, 4, 5, 6, 7, 8, 9, 10, 11, 12, 13, 14, 15, 16, 17, 18, 19, 20, 21, 22, 23, 24, 25, 26, 27, 28, 29, 30, 31, 32] rfl rfl (by decide) (by decide) (fun u_18 H locs hw_18 hP hD hS => ?_)
  have hP : va_P G vwCl [(h0, .inr (9, [.ref q_1, .ref q_3, .ref q_5, .ref q_7, .ref q_9, .ref q_11, .ref q_13, .ref q_15, .null, .null, .int 0, .int 0])), (q_1, .inr (8, [.ref (u_2 0), .int 0])), ((u_2 0), .inl (cy 1, 800, .inl (fun _ => 0))), (q_3, .inr (7, [.ref q_1, .int 0, .int 0, .int 0, .int 0, .int 0])), (q_5, .inr (3, [.ref (u_6.1 0), .ref (u_6.1 1), .ref (u_6.1 2)])), ((u_6.1 0), .inl (cy 0, 6, .inl (fun _ => 0))), ((u_6.1 1), .inl (cy 0, 6, .inl (fun _ => 0))), ((u_6.1 2), .inl (cy 3, 6, .inr (.inr (.inr (.inr (fun i => if i < 6 then some (u_6.2 i) else none)))))), ((u_6.2 0), .inl (cy 0, 6, .inl (fun _ => 0))), ((u_6.2 1), .inl (cy 0, 6, .inl (fun _ => 0))), ((u_6.2 2), .inl (cy 0, 6, .inl (fun _ => 0))), ((u_6.2 3), .inl (cy 0, 6, .inl (fun _ => 0))), ((u_6.2 4), .inl (cy 0, 6, .inl (fun _ => 0))), ((u_6.2 5), .inl (cy 0, 6, .inl (fun _ => 0))), (q_7, .inr (0, [.ref (u_8.1 0)])), ((u_8.1 0), .inl (cy 3, 6, .inr (.inr (.inr (.inr (fun i => if i < 6 then some (u_8.2 i) else none)))))), ((u_8.2 0), .inl (cy 0, 200, .inl (fun _ => (-1)))), ((u_8.2 1), .inl (cy 0, 200, .inl (fun _ => (-1)))), ((u_8.2 2), .inl (cy 0, 200, .inl (fun _ => (-1)))), ((u_8.2 3), .inl (cy 0, 200, .inl (fun _ => (-1)))), ((u_8.2 4), .inl (cy 0, 200, .inl (fun _ => (-1)))), ((u_8.2 5), .inl (cy 0, 200, .inl (fun _ => (-1)))), (q_9, .inr (1, [.ref (u_10 0), .ref (u_10 1), .ref (u_10 2)])), ((u_10 0), .inl (cy 0, 6, .inl (fun _ => 0))), ((u_10 1), .inl (cy 0, 6, .inl (fun _ => (-1)))), ((u_10 2), .inl (cy 0, 6, .inl (fun _ => (-1)))), (q_11, .inr (5, [.ref (u_12 0), .int 0])), (q_13, .inr (2, [.ref (u_14 0), .ref (u_14 1), .ref (u_14 2), .ref (u_14 3), .ref (u_14 4)])), ((u_14 0), .inl (cy 0, 4, .inl (fun _ => (-1)))), (q_15, .inr (4, [.int 0, .ref (u_16 0), .ref (u_16 1), .ref (u_16 2), .ref (u_16 3), .int 0, .ref (u_16 4), .ref (u_16 5), .ref (u_16 6), .int 0, .ref (u_16 7), .ref (u_16 8), .ref (u_16 9), .ref (u_16 10)])), ((u_16 1), .inl (cy 0, 6, .inl (fun _ => 0))), ((u_16 2), .inl (cy 0, 6, .inl (fun _ => 0))), ((u_16 3), .inl (cy 0, 6, .inl (fun _ => 0))), (q_17, .inr (4, [.int 0, .ref (u_18 0), .ref (u_18 1), .ref (u_18 2), .ref (u_18 3), .int 0, .ref (u_18 4), .ref (u_18 5), .ref (u_18 6), .int 0, .ref (u_18 7), .ref (u_18 8), .ref (u_18 9), .ref (u_18 10)])), ((u_18 1), .inl (cy 0, 6, .inl (fun _ => 0))), ((u_18 2), .inl (cy 0, 6, .inl (fun _ => 0))), ((u_18 3), .inl (cy 0, 6, .inl (fun _ => 0)))] H := hP
  have hD : va_D A [(h0, .inr (9, [.ref q_1, .ref q_3, .ref q_5, .ref q_7, .ref q_9, .ref q_11, .ref q_13, .ref q_15, .null, .null, .int 0, .int 0])), (q_1, .inr (8, [.ref (u_2 0), .int 0])), ((u_2 0), .inl (cy 1, 800, .inl (fun _ => 0))), (q_3, .inr (7, [.ref q_1, .int 0, .int 0, .int 0, .int 0, .int 0])), (q_5, .inr (3, [.ref (u_6.1 0), .ref (u_6.1 1), .ref (u_6.1 2)])), ((u_6.1 0), .inl (cy 0, 6, .inl (fun _ => 0))), ((u_6.1 1), .inl (cy 0, 6, .inl (fun _ => 0))), ((u_6.1 2), .inl (cy 3, 6, .inr (.inr (.inr (.inr (fun i => if i < 6 then some (u_6.2 i) else none)))))), ((u_6.2 0), .inl (cy 0, 6, .inl (fun _ => 0))), ((u_6.2 1), .inl (cy 0, 6, .inl (fun _ => 0))), ((u_6.2 2), .inl (cy 0, 6, .inl (fun _ => 0))), ((u_6.2 3), .inl (cy 0, 6, .inl (fun _ => 0))), ((u_6.2 4), .inl (cy 0, 6, .inl (fun _ => 0))), ((u_6.2 5), .inl (cy 0, 6, .inl (fun _ => 0))), (q_7, .inr (0, [.ref (u_8.1 0)])), ((u_8.1 0), .inl (cy 3, 6, .inr (.inr (.inr (.inr (fun i => if i < 6 then some (u_8.2 i) else none)))))), ((u_8.2 0), .inl (cy 0, 200, .inl (fun _ => (-1)))), ((u_8.2 1), .inl (cy 0, 200, .inl (fun _ => (-1)))), ((u_8.2 2), .inl (cy 0, 200, .inl (fun _ => (-1)))), ((u_8.2 3), .inl (cy 0, 200, .inl (fun _ => (-1)))), ((u_8.2 4), .inl (cy 0, 200, .inl (fun _ => (-1)))), ((u_8.2 5), .inl (cy 0, 200, .inl (fun _ => (-1)))), (q_9, .inr (1, [.ref (u_10 0), .ref (u_10 1), .ref (u_10 2)])), ((u_10 0), .inl (cy 0, 6, .inl (fun _ => 0))), ((u_10 1), .inl (cy 0, 6, .inl (fun _ => (-1)))), ((u_10 2), .inl (cy 0, 6, .inl (fun _ => (-1)))), (q_11, .inr (5, [.ref (u_12 0), .int 0])), (q_13, .inr (2, [.ref (u_14 0), .ref (u_14 1), .ref (u_14 2), .ref (u_14 3), .ref (u_14 4)])), ((u_14 0), .inl (cy 0, 4, .inl (fun _ => (-1)))), (q_15, .inr (4, [.int 0, .ref (u_16 0), .ref (u_16 1), .ref (u_16 2), .ref (u_16 3), .int 0, .ref (u_16 4), .ref (u_16 5), .ref (u_16 6), .int 0, .ref (u_16 7), .ref (u_16 8), .ref (u_16 9), .ref (u_16 10)])), ((u_16 1), .inl (cy 0, 6, .inl (fun _ => 0))), ((u_16 2), .inl (cy 0, 6, .inl (fun _ => 0))), ((u_16 3), .inl (cy 0, 6, .inl (fun _ => 0))), (q_17, .inr (4, [.int 0, .ref (u_18 0), .ref (u_18 1), .ref (u_18 2), .ref (u_18 3), .int 0, .ref (u_18 4), .ref (u_18 5), .ref (u_18 6), .int 0, .ref (u_18 7), .ref (u_18 8), .ref (u_18 9), .ref (u_18 10)])), ((u_18 1), .inl (cy 0, 6, .inl (fun _ => 0))), ((u_18 2), .inl (cy 0, 6, .inl (fun _ => 0))), ((u_18 3), .inl (cy 0, 6, .inl (fun _ => 0)))] := hD
  refine W.widen (k := 75) (n := 5146) (Nat.le_of_ble_eq_true rfl) (Nat.le_of_ble_eq_true rfl) ?_
  refine va_put (ci := 9) (v := .ref q_17) (ty := .object "WellCourt$Law") (C := RX9) (T := TX9) (N := 12) hx hb hts inX9 tyX9 tyX9_ok nmX9 hown hK hP hD hS 0 rfl rfl 8 (by decide) (hts _ gm_299) (fun _ h9 => h9) rfl (by decide +kernel) rfl rfl (Nat.le_of_ble_eq_true rfl) dX9_init_104 (fun H locs hP hD hS => ?_)
  have hP : va_P G vwCl [(h0, .inr (9, [.ref q_1, .ref q_3, .ref q_5, .ref q_7, .ref q_9, .ref q_11, .ref q_13, .ref q_15, .ref q_17, .null, .int 0, .int 0])), (q_1, .inr (8, [.ref (u_2 0), .int 0])), ((u_2 0), .inl (cy 1, 800, .inl (fun _ => 0))), (q_3, .inr (7, [.ref q_1, .int 0, .int 0, .int 0, .int 0, .int 0])), (q_5, .inr (3, [.ref (u_6.1 0), .ref (u_6.1 1), .ref (u_6.1 2)])), ((u_6.1 0), .inl (cy 0, 6, .inl (fun _ => 0))), ((u_6.1 1), .inl (cy 0, 6, .inl (fun _ => 0))), ((u_6.1 2), .inl (cy 3, 6, .inr (.inr (.inr (.inr (fun i => if i < 6 then some (u_6.2 i) else none)))))), ((u_6.2 0), .inl (cy 0, 6, .inl (fun _ => 0))), ((u_6.2 1), .inl (cy 0, 6, .inl (fun _ => 0))), ((u_6.2 2), .inl (cy 0, 6, .inl (fun _ => 0))), ((u_6.2 3), .inl (cy 0, 6, .inl (fun _ => 0))), ((u_6.2 4), .inl (cy 0, 6, .inl (fun _ => 0))), ((u_6.2 5), .inl (cy 0, 6, .inl (fun _ => 0))), (q_7, .inr (0, [.ref (u_8.1 0)])), ((u_8.1 0), .inl (cy 3, 6, .inr (.inr (.inr (.inr (fun i => if i < 6 then some (u_8.2 i) else none)))))), ((u_8.2 0), .inl (cy 0, 200, .inl (fun _ => (-1)))), ((u_8.2 1), .inl (cy 0, 200, .inl (fun _ => (-1)))), ((u_8.2 2), .inl (cy 0, 200, .inl (fun _ => (-1)))), ((u_8.2 3), .inl (cy 0, 200, .inl (fun _ => (-1)))), ((u_8.2 4), .inl (cy 0, 200, .inl (fun _ => (-1)))), ((u_8.2 5), .inl (cy 0, 200, .inl (fun _ => (-1)))), (q_9, .inr (1, [.ref (u_10 0), .ref (u_10 1), .ref (u_10 2)])), ((u_10 0), .inl (cy 0, 6, .inl (fun _ => 0))), ((u_10 1), .inl (cy 0, 6, .inl (fun _ => (-1)))), ((u_10 2), .inl (cy 0, 6, .inl (fun _ => (-1)))), (q_11, .inr (5, [.ref (u_12 0), .int 0])), (q_13, .inr (2, [.ref (u_14 0), .ref (u_14 1), .ref (u_14 2), .ref (u_14 3), .ref (u_14 4)])), ((u_14 0), .inl (cy 0, 4, .inl (fun _ => (-1)))), (q_15, .inr (4, [.int 0, .ref (u_16 0), .ref (u_16 1), .ref (u_16 2), .ref (u_16 3), .int 0, .ref (u_16 4), .ref (u_16 5), .ref (u_16 6), .int 0, .ref (u_16 7), .ref (u_16 8), .ref (u_16 9), .ref (u_16 10)])), ((u_16 1), .inl (cy 0, 6, .inl (fun _ => 0))), ((u_16 2), .inl (cy 0, 6, .inl (fun _ => 0))), ((u_16 3), .inl (cy 0, 6, .inl (fun _ => 0))), (q_17, .inr (4, [.int 0, .ref (u_18 0), .ref (u_18 1), .ref (u_18 2), .ref (u_18 3), .int 0, .ref (u_18 4), .ref (u_18 5), .ref (u_18 6), .int 0, .ref (u_18 7), .ref (u_18 8), .ref (u_18 9), .ref (u_18 10)])), ((u_18 1), .inl (cy 0, 6, .inl (fun _ => 0))), ((u_18 2), .inl (cy 0, 6, .inl (fun _ => 0))), ((u_18 3), .inl (cy 0, 6, .inl (fun _ => 0)))] H := hP
  have hD : va_D A [(h0, .inr (9, [.ref q_1, .ref q_3, .ref q_5, .ref q_7, .ref q_9, .ref q_11, .ref q_13, .ref q_15, .ref q_17, .null, .int 0, .int 0])), (q_1, .inr (8, [.ref (u_2 0), .int 0])), ((u_2 0), .inl (cy 1, 800, .inl (fun _ => 0))), (q_3, .inr (7, [.ref q_1, .int 0, .int 0, .int 0, .int 0, .int 0])), (q_5, .inr (3, [.ref (u_6.1 0), .ref (u_6.1 1), .ref (u_6.1 2)])), ((u_6.1 0), .inl (cy 0, 6, .inl (fun _ => 0))), ((u_6.1 1), .inl (cy 0, 6, .inl (fun _ => 0))), ((u_6.1 2), .inl (cy 3, 6, .inr (.inr (.inr (.inr (fun i => if i < 6 then some (u_6.2 i) else none)))))), ((u_6.2 0), .inl (cy 0, 6, .inl (fun _ => 0))), ((u_6.2 1), .inl (cy 0, 6, .inl (fun _ => 0))), ((u_6.2 2), .inl (cy 0, 6, .inl (fun _ => 0))), ((u_6.2 3), .inl (cy 0, 6, .inl (fun _ => 0))), ((u_6.2 4), .inl (cy 0, 6, .inl (fun _ => 0))), ((u_6.2 5), .inl (cy 0, 6, .inl (fun _ => 0))), (q_7, .inr (0, [.ref (u_8.1 0)])), ((u_8.1 0), .inl (cy 3, 6, .inr (.inr (.inr (.inr (fun i => if i < 6 then some (u_8.2 i) else none)))))), ((u_8.2 0), .inl (cy 0, 200, .inl (fun _ => (-1)))), ((u_8.2 1), .inl (cy 0, 200, .inl (fun _ => (-1)))), ((u_8.2 2), .inl (cy 0, 200, .inl (fun _ => (-1)))), ((u_8.2 3), .inl (cy 0, 200, .inl (fun _ => (-1)))), ((u_8.2 4), .inl (cy 0, 200, .inl (fun _ => (-1)))), ((u_8.2 5), .inl (cy 0, 200, .inl (fun _ => (-1)))), (q_9, .inr (1, [.ref (u_10 0), .ref (u_10 1), .ref (u_10 2)])), ((u_10 0), .inl (cy 0, 6, .inl (fun _ => 0))), ((u_10 1), .inl (cy 0, 6, .inl (fun _ => (-1)))), ((u_10 2), .inl (cy 0, 6, .inl (fun _ => (-1)))), (q_11, .inr (5, [.ref (u_12 0), .int 0])), (q_13, .inr (2, [.ref (u_14 0), .ref (u_14 1), .ref (u_14 2), .ref (u_14 3), .ref (u_14 4)])), ((u_14 0), .inl (cy 0, 4, .inl (fun _ => (-1)))), (q_15, .inr (4, [.int 0, .ref (u_16 0), .ref (u_16 1), .ref (u_16 2), .ref (u_16 3), .int 0, .ref (u_16 4), .ref (u_16 5), .ref (u_16 6), .int 0, .ref (u_16 7), .ref (u_16 8), .ref (u_16 9), .ref (u_16 10)])), ((u_16 1), .inl (cy 0, 6, .inl (fun _ => 0))), ((u_16 2), .inl (cy 0, 6, .inl (fun _ => 0))), ((u_16 3), .inl (cy 0, 6, .inl (fun _ => 0))), (q_17, .inr (4, [.int 0, .ref (u_18 0), .ref (u_18 1), .ref (u_18 2), .ref (u_18 3), .int 0, .ref (u_18 4), .ref (u_18 5), .ref (u_18 6), .int 0, .ref (u_18 7), .ref (u_18 8), .ref (u_18 9), .ref (u_18 10)])), ((u_18 1), .inl (cy 0, 6, .inl (fun _ => 0))), ((u_18 2), .inl (cy 0, 6, .inl (fun _ => 0))), ((u_18 3), .inl (cy 0, 6, .inl (fun _ => 0)))] := hD
  refine lv_aload_n hx hb dX9_init_107 rfl (lv_at hl 0 rfl) ?_
  refine va_new (ci := 6) (fs := [.null, .null, .null, .null, .int 0, .null, .null, .null, .null, .null, .int 0, .int 0, .null, .int 0, .int 0]) (C := RX6) (T := TX6) (N := 15) hx hb hts inX6 tyX6 tyX6_ok hown (hts _ gm_233) (hts _ gm_234) (hts _ gm_11) hK hP hD hS hA rfl dfX6 (Nat.le_of_ble_eq_true rfl) (Nat.le_of_ble_eq_true rfl) dX9_init_108 (fun q_19 H hP hD hS => ?_)
  have hP : va_P G vwCl [(h0, .inr (9, [.ref q_1, .ref q_3, .ref q_5, .ref q_7, .ref q_9, .ref q_11, .ref q_13, .ref q_15, .ref q_17, .null, .int 0, .int 0])), (q_1, .inr (8, [.ref (u_2 0), .int 0])), ((u_2 0), .inl (cy 1, 800, .inl (fun _ => 0))), (q_3, .inr (7, [.ref q_1, .int 0, .int 0, .int 0, .int 0, .int 0])), (q_5, .inr (3, [.ref (u_6.1 0), .ref (u_6.1 1), .ref (u_6.1 2)])), ((u_6.1 0), .inl (cy 0, 6, .inl (fun _ => 0))), ((u_6.1 1), .inl (cy 0, 6, .inl (fun _ => 0))), ((u_6.1 2), .inl (cy 3, 6, .inr (.inr (.inr (.inr (fun i => if i < 6 then some (u_6.2 i) else none)))))), ((u_6.2 0), .inl (cy 0, 6, .inl (fun _ => 0))), ((u_6.2 1), .inl (cy 0, 6, .inl (fun _ => 0))), ((u_6.2 2), .inl (cy 0, 6, .inl (fun _ => 0))), ((u_6.2 3), .inl (cy 0, 6, .inl (fun _ => 0))), ((u_6.2 4), .inl (cy 0, 6, .inl (fun _ => 0))), ((u_6.2 5), .inl (cy 0, 6, .inl (fun _ => 0))), (q_7, .inr (0, [.ref (u_8.1 0)])), ((u_8.1 0), .inl (cy 3, 6, .inr (.inr (.inr (.inr (fun i => if i < 6 then some (u_8.2 i) else none)))))), ((u_8.2 0), .inl (cy 0, 200, .inl (fun _ => (-1)))), ((u_8.2 1), .inl (cy 0, 200, .inl (fun _ => (-1)))), ((u_8.2 2), .inl (cy 0, 200, .inl (fun _ => (-1)))), ((u_8.2 3), .inl (cy 0, 200, .inl (fun _ => (-1)))), ((u_8.2 4), .inl (cy 0, 200, .inl (fun _ => (-1)))), ((u_8.2 5), .inl (cy 0, 200, .inl (fun _ => (-1)))), (q_9, .inr (1, [.ref (u_10 0), .ref (u_10 1), .ref (u_10 2)])), ((u_10 0), .inl (cy 0, 6, .inl (fun _ => 0))), ((u_10 1), .inl (cy 0, 6, .inl (fun _ => (-1)))), ((u_10 2), .inl (cy 0, 6, .inl (fun _ => (-1)))), (q_11, .inr (5, [.ref (u_12 0), .int 0])), (q_13, .inr (2, [.ref (u_14 0), .ref (u_14 1), .ref (u_14 2), .ref (u_14 3), .ref (u_14 4)])), ((u_14 0), .inl (cy 0, 4, .inl (fun _ => (-1)))), (q_15, .inr (4, [.int 0, .ref (u_16 0), .ref (u_16 1), .ref (u_16 2), .ref (u_16 3), .int 0, .ref (u_16 4), .ref (u_16 5), .ref (u_16 6), .int 0, .ref (u_16 7), .ref (u_16 8), .ref (u_16 9), .ref (u_16 10)])), ((u_16 1), .inl (cy 0, 6, .inl (fun _ => 0))), ((u_16 2), .inl (cy 0, 6, .inl (fun _ => 0))), ((u_16 3), .inl (cy 0, 6, .inl (fun _ => 0))), (q_17, .inr (4, [.int 0, .ref (u_18 0), .ref (u_18 1), .ref (u_18 2), .ref (u_18 3), .int 0, .ref (u_18 4), .ref (u_18 5), .ref (u_18 6), .int 0, .ref (u_18 7), .ref (u_18 8), .ref (u_18 9), .ref (u_18 10)])), ((u_18 1), .inl (cy 0, 6, .inl (fun _ => 0))), ((u_18 2), .inl (cy 0, 6, .inl (fun _ => 0))), ((u_18 3), .inl (cy 0, 6, .inl (fun _ => 0))), (q_19, .inr (6, [.null, .null, .null, .null, .int 0, .null, .null, .null, .null, .null, .int 0, .int 0, .null, .int 0, .int 0]))] H := hP
  have hD : va_D A [(h0, .inr (9, [.ref q_1, .ref q_3, .ref q_5, .ref q_7, .ref q_9, .ref q_11, .ref q_13, .ref q_15, .ref q_17, .null, .int 0, .int 0])), (q_1, .inr (8, [.ref (u_2 0), .int 0])), ((u_2 0), .inl (cy 1, 800, .inl (fun _ => 0))), (q_3, .inr (7, [.ref q_1, .int 0, .int 0, .int 0, .int 0, .int 0])), (q_5, .inr (3, [.ref (u_6.1 0), .ref (u_6.1 1), .ref (u_6.1 2)])), ((u_6.1 0), .inl (cy 0, 6, .inl (fun _ => 0))), ((u_6.1 1), .inl (cy 0, 6, .inl (fun _ => 0))), ((u_6.1 2), .inl (cy 3, 6, .inr (.inr (.inr (.inr (fun i => if i < 6 then some (u_6.2 i) else none)))))), ((u_6.2 0), .inl (cy 0, 6, .inl (fun _ => 0))), ((u_6.2 1), .inl (cy 0, 6, .inl (fun _ => 0))), ((u_6.2 2), .inl (cy 0, 6, .inl (fun _ => 0))), ((u_6.2 3), .inl (cy 0, 6, .inl (fun _ => 0))), ((u_6.2 4), .inl (cy 0, 6, .inl (fun _ => 0))), ((u_6.2 5), .inl (cy 0, 6, .inl (fun _ => 0))), (q_7, .inr (0, [.ref (u_8.1 0)])), ((u_8.1 0), .inl (cy 3, 6, .inr (.inr (.inr (.inr (fun i => if i < 6 then some (u_8.2 i) else none)))))), ((u_8.2 0), .inl (cy 0, 200, .inl (fun _ => (-1)))), ((u_8.2 1), .inl (cy 0, 200, .inl (fun _ => (-1)))), ((u_8.2 2), .inl (cy 0, 200, .inl (fun _ => (-1)))), ((u_8.2 3), .inl (cy 0, 200, .inl (fun _ => (-1)))), ((u_8.2 4), .inl (cy 0, 200, .inl (fun _ => (-1)))), ((u_8.2 5), .inl (cy 0, 200, .inl (fun _ => (-1)))), (q_9, .inr (1, [.ref (u_10 0), .ref (u_10 1), .ref (u_10 2)])), ((u_10 0), .inl (cy 0, 6, .inl (fun _ => 0))), ((u_10 1), .inl (cy 0, 6, .inl (fun _ => (-1)))), ((u_10 2), .inl (cy 0, 6, .inl (fun _ => (-1)))), (q_11, .inr (5, [.ref (u_12 0), .int 0])), (q_13, .inr (2, [.ref (u_14 0), .ref (u_14 1), .ref (u_14 2), .ref (u_14 3), .ref (u_14 4)])), ((u_14 0), .inl (cy 0, 4, .inl (fun _ => (-1)))), (q_15, .inr (4, [.int 0, .ref (u_16 0), .ref (u_16 1), .ref (u_16 2), .ref (u_16 3), .int 0, .ref (u_16 4), .ref (u_16 5), .ref (u_16 6), .int 0, .ref (u_16 7), .ref (u_16 8), .ref (u_16 9), .ref (u_16 10)])), ((u_16 1), .inl (cy 0, 6, .inl (fun _ => 0))), ((u_16 2), .inl (cy 0, 6, .inl (fun _ => 0))), ((u_16 3), .inl (cy 0, 6, .inl (fun _ => 0))), (q_17, .inr (4, [.int 0, .ref (u_18 0), .ref (u_18 1), .ref (u_18 2), .ref (u_18 3), .int 0, .ref (u_18 4), .ref (u_18 5), .ref (u_18 6), .int 0, .ref (u_18 7), .ref (u_18 8), .ref (u_18 9), .ref (u_18 10)])), ((u_18 1), .inl (cy 0, 6, .inl (fun _ => 0))), ((u_18 2), .inl (cy 0, 6, .inl (fun _ => 0))), ((u_18 3), .inl (cy 0, 6, .inl (fun _ => 0))), (q_19, .inr (6, [.null, .null, .null, .null, .int 0, .null, .null, .null, .null, .null, .int 0, .int 0, .null, .int 0, .int 0]))] := hD
  refine W.widen (k := 76) (n := 5161) (Nat.le_of_ble_eq_true rfl) (Nat.le_of_ble_eq_true rfl) ?_
  refine lv_dup hx hb dX9_init_111 rfl ?_
  refine lv_aload_n hx hb dX9_init_112 rfl (lv_at hl 0 rfl) ?_
  refine va_get (ci := 9) (v := .ref q_5) (C := RX9) (T := TX9) (N := 12) hx hb hts inX9 hown hK hP 0 rfl rfl 2 (by decide) (hts _ gm_293) (fun _ h9 => h9) rfl dX9_init_113 ?_
  refine lv_aload_n hx hb dX9_init_116 rfl (lv_at hl 0 rfl) ?_
  refine va_get (ci := 9) (v := .ref q_7) (C := RX9) (T := TX9) (N := 12) hx hb hts inX9 hown hK hP 0 rfl rfl 3 (by decide) (hts _ gm_294) (fun _ h9 => h9) rfl dX9_init_117 ?_
  refine lv_aload_n hx hb dX9_init_120 rfl (lv_at hl 0 rfl) ?_
  refine va_get (ci := 9) (v := .ref q_13) (C := RX9) (T := TX9) (N := 12) hx hb hts inX9 hown hK hP 0 rfl rfl 6 (by decide) (hts _ gm_297) (fun _ h9 => h9) rfl dX9_init_121 ?_
  refine lv_aload_n hx hb dX9_init_124 rfl (lv_at hl 0 rfl) ?_
  refine va_get (ci := 9) (v := .ref q_15) (C := RX9) (T := TX9) (N := 12) hx hb hts inX9 hown hK hP 0 rfl rfl 7 (by decide) (hts _ gm_298) (fun _ h9 => h9) rfl dX9_init_125 ?_
  refine gz_aftv (va_runI (As := [.ref q_5, .ref q_7, .ref q_13, .ref q_15]) (rest := [.ref q_19, .ref h0]) ⟨hx, hb, hml, hown, hts⟩ (c_X6_init l G cy H.size q_19 q_5 q_7 q_13 q_15 ) ⟨(gz_cb (n := 4) hts gm_235 gm_11 gm_237 ⟨by decide +kernel, by decide +kernel, by decide +kernel⟩ ⟨Nat.le_of_ble_eq_true rfl, Nat.le_of_ble_eq_true rfl⟩), rfl, hts _ gm_236⟩ (gz_preS hK hov hP hD [37] (by decide) rfl) rfl rfl hl.1 rfl (lv_room (Nat.le_of_ble_eq_true rfl)) dX9_init_128 ⟨Nat.le_of_ble_eq_true rfl, Nat.le_of_ble_eq_true rfl⟩) hP hD hS hA [37] [0, 1, 2, 3, 4, 5, 6, 7, 8, 9, 10, 11, 12, 13, 14, 15, 16, 17, 18, 19, 20, 21, 22, 23, 24, 25, 26, 27, 28, 29, 30, 31, 32, 33, 34, 35, 36] rfl rfl (by decide) (by decide) (fun u_20 H locs hw_20 hP hD hS => ?_)
  have hP : va_P G vwCl [(h0, .inr (9, [.ref q_1, .ref q_3, .ref q_5, .ref q_7, .ref q_9, .ref q_11, .ref q_13, .ref q_15, .ref q_17, .null, .int 0, .int 0])), (q_1, .inr (8, [.ref (u_2 0), .int 0])), ((u_2 0), .inl (cy 1, 800, .inl (fun _ => 0))), (q_3, .inr (7, [.ref q_1, .int 0, .int 0, .int 0, .int 0, .int 0])), (q_5, .inr (3, [.ref (u_6.1 0), .ref (u_6.1 1), .ref (u_6.1 2)])), ((u_6.1 0), .inl (cy 0, 6, .inl (fun _ => 0))), ((u_6.1 1), .inl (cy 0, 6, .inl (fun _ => 0))), ((u_6.1 2), .inl (cy 3, 6, .inr (.inr (.inr (.inr (fun i => if i < 6 then some (u_6.2 i) else none)))))), ((u_6.2 0), .inl (cy 0, 6, .inl (fun _ => 0))), ((u_6.2 1), .inl (cy 0, 6, .inl (fun _ => 0))), ((u_6.2 2), .inl (cy 0, 6, .inl (fun _ => 0))), ((u_6.2 3), .inl (cy 0, 6, .inl (fun _ => 0))), ((u_6.2 4), .inl (cy 0, 6, .inl (fun _ => 0))), ((u_6.2 5), .inl (cy 0, 6, .inl (fun _ => 0))), (q_7, .inr (0, [.ref (u_8.1 0)])), ((u_8.1 0), .inl (cy 3, 6, .inr (.inr (.inr (.inr (fun i => if i < 6 then some (u_8.2 i) else none)))))), ((u_8.2 0), .inl (cy 0, 200, .inl (fun _ => (-1)))), ((u_8.2 1), .inl (cy 0, 200, .inl (fun _ => (-1)))), ((u_8.2 2), .inl (cy 0, 200, .inl (fun _ => (-1)))), ((u_8.2 3), .inl (cy 0, 200, .inl (fun _ => (-1)))), ((u_8.2 4), .inl (cy 0, 200, .inl (fun _ => (-1)))), ((u_8.2 5), .inl (cy 0, 200, .inl (fun _ => (-1)))), (q_9, .inr (1, [.ref (u_10 0), .ref (u_10 1), .ref (u_10 2)])), ((u_10 0), .inl (cy 0, 6, .inl (fun _ => 0))), ((u_10 1), .inl (cy 0, 6, .inl (fun _ => (-1)))), ((u_10 2), .inl (cy 0, 6, .inl (fun _ => (-1)))), (q_11, .inr (5, [.ref (u_12 0), .int 0])), (q_13, .inr (2, [.ref (u_14 0), .ref (u_14 1), .ref (u_14 2), .ref (u_14 3), .ref (u_14 4)])), ((u_14 0), .inl (cy 0, 4, .inl (fun _ => (-1)))), (q_15, .inr (4, [.int 0, .ref (u_16 0), .ref (u_16 1), .ref (u_16 2), .ref (u_16 3), .int 0, .ref (u_16 4), .ref (u_16 5), .ref (u_16 6), .int 0, .ref (u_16 7), .ref (u_16 8), .ref (u_16 9), .ref (u_16 10)])), ((u_16 1), .inl (cy 0, 6, .inl (fun _ => 0))), ((u_16 2), .inl (cy 0, 6, .inl (fun _ => 0))), ((u_16 3), .inl (cy 0, 6, .inl (fun _ => 0))), (q_17, .inr (4, [.int 0, .ref (u_18 0), .ref (u_18 1), .ref (u_18 2), .ref (u_18 3), .int 0, .ref (u_18 4), .ref (u_18 5), .ref (u_18 6), .int 0, .ref (u_18 7), .ref (u_18 8), .ref (u_18 9), .ref (u_18 10)])), ((u_18 1), .inl (cy 0, 6, .inl (fun _ => 0))), ((u_18 2), .inl (cy 0, 6, .inl (fun _ => 0))), ((u_18 3), .inl (cy 0, 6, .inl (fun _ => 0))), (q_19, .inr (6, [.ref q_5, .ref q_7, .ref q_13, .ref q_15, .int 0, .ref (u_20 0), .ref (u_20 1), .ref (u_20 2), .ref (u_20 3), .ref (u_20 4), .int 0, .int 0, .ref (u_20 5), .int 0, .int 0]))] H := hP
  have hD : va_D A [(h0, .inr (9, [.ref q_1, .ref q_3, .ref q_5, .ref q_7, .ref q_9, .ref q_11, .ref q_13, .ref q_15, .ref q_17, .null, .int 0, .int 0])), (q_1, .inr (8, [.ref (u_2 0), .int 0])), ((u_2 0), .inl (cy 1, 800, .inl (fun _ => 0))), (q_3, .inr (7, [.ref q_1, .int 0, .int 0, .int 0, .int 0, .int 0])), (q_5, .inr (3, [.ref (u_6.1 0), .ref (u_6.1 1), .ref (u_6.1 2)])), ((u_6.1 0), .inl (cy 0, 6, .inl (fun _ => 0))), ((u_6.1 1), .inl (cy 0, 6, .inl (fun _ => 0))), ((u_6.1 2), .inl (cy 3, 6, .inr (.inr (.inr (.inr (fun i => if i < 6 then some (u_6.2 i) else none)))))), ((u_6.2 0), .inl (cy 0, 6, .inl (fun _ => 0))), ((u_6.2 1), .inl (cy 0, 6, .inl (fun _ => 0))), ((u_6.2 2), .inl (cy 0, 6, .inl (fun _ => 0))), ((u_6.2 3), .inl (cy 0, 6, .inl (fun _ => 0))), ((u_6.2 4), .inl (cy 0, 6, .inl (fun _ => 0))), ((u_6.2 5), .inl (cy 0, 6, .inl (fun _ => 0))), (q_7, .inr (0, [.ref (u_8.1 0)])), ((u_8.1 0), .inl (cy 3, 6, .inr (.inr (.inr (.inr (fun i => if i < 6 then some (u_8.2 i) else none)))))), ((u_8.2 0), .inl (cy 0, 200, .inl (fun _ => (-1)))), ((u_8.2 1), .inl (cy 0, 200, .inl (fun _ => (-1)))), ((u_8.2 2), .inl (cy 0, 200, .inl (fun _ => (-1)))), ((u_8.2 3), .inl (cy 0, 200, .inl (fun _ => (-1)))), ((u_8.2 4), .inl (cy 0, 200, .inl (fun _ => (-1)))), ((u_8.2 5), .inl (cy 0, 200, .inl (fun _ => (-1)))), (q_9, .inr (1, [.ref (u_10 0), .ref (u_10 1), .ref (u_10 2)])), ((u_10 0), .inl (cy 0, 6, .inl (fun _ => 0))), ((u_10 1), .inl (cy 0, 6, .inl (fun _ => (-1)))), ((u_10 2), .inl (cy 0, 6, .inl (fun _ => (-1)))), (q_11, .inr (5, [.ref (u_12 0), .int 0])), (q_13, .inr (2, [.ref (u_14 0), .ref (u_14 1), .ref (u_14 2), .ref (u_14 3), .ref (u_14 4)])), ((u_14 0), .inl (cy 0, 4, .inl (fun _ => (-1)))), (q_15, .inr (4, [.int 0, .ref (u_16 0), .ref (u_16 1), .ref (u_16 2), .ref (u_16 3), .int 0, .ref (u_16 4), .ref (u_16 5), .ref (u_16 6), .int 0, .ref (u_16 7), .ref (u_16 8), .ref (u_16 9), .ref (u_16 10)])), ((u_16 1), .inl (cy 0, 6, .inl (fun _ => 0))), ((u_16 2), .inl (cy 0, 6, .inl (fun _ => 0))), ((u_16 3), .inl (cy 0, 6, .inl (fun _ => 0))), (q_17, .inr (4, [.int 0, .ref (u_18 0), .ref (u_18 1), .ref (u_18 2), .ref (u_18 3), .int 0, .ref (u_18 4), .ref (u_18 5), .ref (u_18 6), .int 0, .ref (u_18 7), .ref (u_18 8), .ref (u_18 9), .ref (u_18 10)])), ((u_18 1), .inl (cy 0, 6, .inl (fun _ => 0))), ((u_18 2), .inl (cy 0, 6, .inl (fun _ => 0))), ((u_18 3), .inl (cy 0, 6, .inl (fun _ => 0))), (q_19, .inr (6, [.ref q_5, .ref q_7, .ref q_13, .ref q_15, .int 0, .ref (u_20 0), .ref (u_20 1), .ref (u_20 2), .ref (u_20 3), .ref (u_20 4), .int 0, .int 0, .ref (u_20 5), .int 0, .int 0]))] := hD
  refine W.widen (k := 187) (n := 5828) (Nat.le_of_ble_eq_true rfl) (Nat.le_of_ble_eq_true rfl) ?_
  refine va_putF (ci := 9) (v := .ref q_19) (ty := .object "WellCourt$Planner") (C := RX9) (T := TX9) (N := 12) hx hb hts inX9 tyX9 tyX9_ok nmX9 hown hK hP hD hS 0 rfl rfl 9 (by decide) (hts _ gm_300) (fun _ h9 => h9) rfl hin rfl (by decide +kernel) rfl rfl (Nat.le_of_ble_eq_true rfl) dX9_init_131 (fun H locs hP hD hS => ?_)
  have hP : va_P G vwCl [(h0, .inr (9, [.ref q_1, .ref q_3, .ref q_5, .ref q_7, .ref q_9, .ref q_11, .ref q_13, .ref q_15, .ref q_17, .ref q_19, .int 0, .int 0])), (q_1, .inr (8, [.ref (u_2 0), .int 0])), ((u_2 0), .inl (cy 1, 800, .inl (fun _ => 0))), (q_3, .inr (7, [.ref q_1, .int 0, .int 0, .int 0, .int 0, .int 0])), (q_5, .inr (3, [.ref (u_6.1 0), .ref (u_6.1 1), .ref (u_6.1 2)])), ((u_6.1 0), .inl (cy 0, 6, .inl (fun _ => 0))), ((u_6.1 1), .inl (cy 0, 6, .inl (fun _ => 0))), ((u_6.1 2), .inl (cy 3, 6, .inr (.inr (.inr (.inr (fun i => if i < 6 then some (u_6.2 i) else none)))))), ((u_6.2 0), .inl (cy 0, 6, .inl (fun _ => 0))), ((u_6.2 1), .inl (cy 0, 6, .inl (fun _ => 0))), ((u_6.2 2), .inl (cy 0, 6, .inl (fun _ => 0))), ((u_6.2 3), .inl (cy 0, 6, .inl (fun _ => 0))), ((u_6.2 4), .inl (cy 0, 6, .inl (fun _ => 0))), ((u_6.2 5), .inl (cy 0, 6, .inl (fun _ => 0))), (q_7, .inr (0, [.ref (u_8.1 0)])), ((u_8.1 0), .inl (cy 3, 6, .inr (.inr (.inr (.inr (fun i => if i < 6 then some (u_8.2 i) else none)))))), ((u_8.2 0), .inl (cy 0, 200, .inl (fun _ => (-1)))), ((u_8.2 1), .inl (cy 0, 200, .inl (fun _ => (-1)))), ((u_8.2 2), .inl (cy 0, 200, .inl (fun _ => (-1)))), ((u_8.2 3), .inl (cy 0, 200, .inl (fun _ => (-1)))), ((u_8.2 4), .inl (cy 0, 200, .inl (fun _ => (-1)))), ((u_8.2 5), .inl (cy 0, 200, .inl (fun _ => (-1)))), (q_9, .inr (1, [.ref (u_10 0), .ref (u_10 1), .ref (u_10 2)])), ((u_10 0), .inl (cy 0, 6, .inl (fun _ => 0))), ((u_10 1), .inl (cy 0, 6, .inl (fun _ => (-1)))), ((u_10 2), .inl (cy 0, 6, .inl (fun _ => (-1)))), (q_11, .inr (5, [.ref (u_12 0), .int 0])), (q_13, .inr (2, [.ref (u_14 0), .ref (u_14 1), .ref (u_14 2), .ref (u_14 3), .ref (u_14 4)])), ((u_14 0), .inl (cy 0, 4, .inl (fun _ => (-1)))), (q_15, .inr (4, [.int 0, .ref (u_16 0), .ref (u_16 1), .ref (u_16 2), .ref (u_16 3), .int 0, .ref (u_16 4), .ref (u_16 5), .ref (u_16 6), .int 0, .ref (u_16 7), .ref (u_16 8), .ref (u_16 9), .ref (u_16 10)])), ((u_16 1), .inl (cy 0, 6, .inl (fun _ => 0))), ((u_16 2), .inl (cy 0, 6, .inl (fun _ => 0))), ((u_16 3), .inl (cy 0, 6, .inl (fun _ => 0))), (q_17, .inr (4, [.int 0, .ref (u_18 0), .ref (u_18 1), .ref (u_18 2), .ref (u_18 3), .int 0, .ref (u_18 4), .ref (u_18 5), .ref (u_18 6), .int 0, .ref (u_18 7), .ref (u_18 8), .ref (u_18 9), .ref (u_18 10)])), ((u_18 1), .inl (cy 0, 6, .inl (fun _ => 0))), ((u_18 2), .inl (cy 0, 6, .inl (fun _ => 0))), ((u_18 3), .inl (cy 0, 6, .inl (fun _ => 0))), (q_19, .inr (6, [.ref q_5, .ref q_7, .ref q_13, .ref q_15, .int 0, .ref (u_20 0), .ref (u_20 1), .ref (u_20 2), .ref (u_20 3), .ref (u_20 4), .int 0, .int 0, .ref (u_20 5), .int 0, .int 0]))] H := hP
  have hD : va_D A [(h0, .inr (9, [.ref q_1, .ref q_3, .ref q_5, .ref q_7, .ref q_9, .ref q_11, .ref q_13, .ref q_15, .ref q_17, .ref q_19, .int 0, .int 0])), (q_1, .inr (8, [.ref (u_2 0), .int 0])), ((u_2 0), .inl (cy 1, 800, .inl (fun _ => 0))), (q_3, .inr (7, [.ref q_1, .int 0, .int 0, .int 0, .int 0, .int 0])), (q_5, .inr (3, [.ref (u_6.1 0), .ref (u_6.1 1), .ref (u_6.1 2)])), ((u_6.1 0), .inl (cy 0, 6, .inl (fun _ => 0))), ((u_6.1 1), .inl (cy 0, 6, .inl (fun _ => 0))), ((u_6.1 2), .inl (cy 3, 6, .inr (.inr (.inr (.inr (fun i => if i < 6 then some (u_6.2 i) else none)))))), ((u_6.2 0), .inl (cy 0, 6, .inl (fun _ => 0))), ((u_6.2 1), .inl (cy 0, 6, .inl (fun _ => 0))), ((u_6.2 2), .inl (cy 0, 6, .inl (fun _ => 0))), ((u_6.2 3), .inl (cy 0, 6, .inl (fun _ => 0))), ((u_6.2 4), .inl (cy 0, 6, .inl (fun _ => 0))), ((u_6.2 5), .inl (cy 0, 6, .inl (fun _ => 0))), (q_7, .inr (0, [.ref (u_8.1 0)])), ((u_8.1 0), .inl (cy 3, 6, .inr (.inr (.inr (.inr (fun i => if i < 6 then some (u_8.2 i) else none)))))), ((u_8.2 0), .inl (cy 0, 200, .inl (fun _ => (-1)))), ((u_8.2 1), .inl (cy 0, 200, .inl (fun _ => (-1)))), ((u_8.2 2), .inl (cy 0, 200, .inl (fun _ => (-1)))), ((u_8.2 3), .inl (cy 0, 200, .inl (fun _ => (-1)))), ((u_8.2 4), .inl (cy 0, 200, .inl (fun _ => (-1)))), ((u_8.2 5), .inl (cy 0, 200, .inl (fun _ => (-1)))), (q_9, .inr (1, [.ref (u_10 0), .ref (u_10 1), .ref (u_10 2)])), ((u_10 0), .inl (cy 0, 6, .inl (fun _ => 0))), ((u_10 1), .inl (cy 0, 6, .inl (fun _ => (-1)))), ((u_10 2), .inl (cy 0, 6, .inl (fun _ => (-1)))), (q_11, .inr (5, [.ref (u_12 0), .int 0])), (q_13, .inr (2, [.ref (u_14 0), .ref (u_14 1), .ref (u_14 2), .ref (u_14 3), .ref (u_14 4)])), ((u_14 0), .inl (cy 0, 4, .inl (fun _ => (-1)))), (q_15, .inr (4, [.int 0, .ref (u_16 0), .ref (u_16 1), .ref (u_16 2), .ref (u_16 3), .int 0, .ref (u_16 4), .ref (u_16 5), .ref (u_16 6), .int 0, .ref (u_16 7), .ref (u_16 8), .ref (u_16 9), .ref (u_16 10)])), ((u_16 1), .inl (cy 0, 6, .inl (fun _ => 0))), ((u_16 2), .inl (cy 0, 6, .inl (fun _ => 0))), ((u_16 3), .inl (cy 0, 6, .inl (fun _ => 0))), (q_17, .inr (4, [.int 0, .ref (u_18 0), .ref (u_18 1), .ref (u_18 2), .ref (u_18 3), .int 0, .ref (u_18 4), .ref (u_18 5), .ref (u_18 6), .int 0, .ref (u_18 7), .ref (u_18 8), .ref (u_18 9), .ref (u_18 10)])), ((u_18 1), .inl (cy 0, 6, .inl (fun _ => 0))), ((u_18 2), .inl (cy 0, 6, .inl (fun _ => 0))), ((u_18 3), .inl (cy 0, 6, .inl (fun _ => 0))), (q_19, .inr (6, [.ref q_5, .ref q_7, .ref q_13, .ref q_15, .int 0, .ref (u_20 0), .ref (u_20 1), .ref (u_20 2), .ref (u_20 3), .ref (u_20 4), .int 0, .int 0, .ref (u_20 5), .int 0, .int 0]))] := hD
  refine lv_aload_n hx hb dX9_init_134 rfl (lv_at hl 0 rfl) ?_
  refine lv_iconst (v := 0) hx hb dX9_init_135 (by decide) ?_
  refine va_put (ci := 9) (v := .int 0) (ty := .int) (C := RX9) (T := TX9) (N := 12) hx hb hts inX9 tyX9 tyX9_ok nmX9 hown hK hP hD hS 0 rfl rfl 10 (by decide) (hts _ gm_301) (fun _ h9 => h9) rfl (by decide +kernel) rfl rfl (Nat.le_of_ble_eq_true rfl) dX9_init_136 (fun H locs hP hD hS => ?_)
  have hP : va_P G vwCl [(h0, .inr (9, [.ref q_1, .ref q_3, .ref q_5, .ref q_7, .ref q_9, .ref q_11, .ref q_13, .ref q_15, .ref q_17, .ref q_19, .int 0, .int 0])), (q_1, .inr (8, [.ref (u_2 0), .int 0])), ((u_2 0), .inl (cy 1, 800, .inl (fun _ => 0))), (q_3, .inr (7, [.ref q_1, .int 0, .int 0, .int 0, .int 0, .int 0])), (q_5, .inr (3, [.ref (u_6.1 0), .ref (u_6.1 1), .ref (u_6.1 2)])), ((u_6.1 0), .inl (cy 0, 6, .inl (fun _ => 0))), ((u_6.1 1), .inl (cy 0, 6, .inl (fun _ => 0))), ((u_6.1 2), .inl (cy 3, 6, .inr (.inr (.inr (.inr (fun i => if i < 6 then some (u_6.2 i) else none)))))), ((u_6.2 0), .inl (cy 0, 6, .inl (fun _ => 0))), ((u_6.2 1), .inl (cy 0, 6, .inl (fun _ => 0))), ((u_6.2 2), .inl (cy 0, 6, .inl (fun _ => 0))), ((u_6.2 3), .inl (cy 0, 6, .inl (fun _ => 0))), ((u_6.2 4), .inl (cy 0, 6, .inl (fun _ => 0))), ((u_6.2 5), .inl (cy 0, 6, .inl (fun _ => 0))), (q_7, .inr (0, [.ref (u_8.1 0)])), ((u_8.1 0), .inl (cy 3, 6, .inr (.inr (.inr (.inr (fun i => if i < 6 then some (u_8.2 i) else none)))))), ((u_8.2 0), .inl (cy 0, 200, .inl (fun _ => (-1)))), ((u_8.2 1), .inl (cy 0, 200, .inl (fun _ => (-1)))), ((u_8.2 2), .inl (cy 0, 200, .inl (fun _ => (-1)))), ((u_8.2 3), .inl (cy 0, 200, .inl (fun _ => (-1)))), ((u_8.2 4), .inl (cy 0, 200, .inl (fun _ => (-1)))), ((u_8.2 5), .inl (cy 0, 200, .inl (fun _ => (-1)))), (q_9, .inr (1, [.ref (u_10 0), .ref (u_10 1), .ref (u_10 2)])), ((u_10 0), .inl (cy 0, 6, .inl (fun _ => 0))), ((u_10 1), .inl (cy 0, 6, .inl (fun _ => (-1)))), ((u_10 2), .inl (cy 0, 6, .inl (fun _ => (-1)))), (q_11, .inr (5, [.ref (u_12 0), .int 0])), (q_13, .inr (2, [.ref (u_14 0), .ref (u_14 1), .ref (u_14 2), .ref (u_14 3), .ref (u_14 4)])), ((u_14 0), .inl (cy 0, 4, .inl (fun _ => (-1)))), (q_15, .inr (4, [.int 0, .ref (u_16 0), .ref (u_16 1), .ref (u_16 2), .ref (u_16 3), .int 0, .ref (u_16 4), .ref (u_16 5), .ref (u_16 6), .int 0, .ref (u_16 7), .ref (u_16 8), .ref (u_16 9), .ref (u_16 10)])), ((u_16 1), .inl (cy 0, 6, .inl (fun _ => 0))), ((u_16 2), .inl (cy 0, 6, .inl (fun _ => 0))), ((u_16 3), .inl (cy 0, 6, .inl (fun _ => 0))), (q_17, .inr (4, [.int 0, .ref (u_18 0), .ref (u_18 1), .ref (u_18 2), .ref (u_18 3), .int 0, .ref (u_18 4), .ref (u_18 5), .ref (u_18 6), .int 0, .ref (u_18 7), .ref (u_18 8), .ref (u_18 9), .ref (u_18 10)])), ((u_18 1), .inl (cy 0, 6, .inl (fun _ => 0))), ((u_18 2), .inl (cy 0, 6, .inl (fun _ => 0))), ((u_18 3), .inl (cy 0, 6, .inl (fun _ => 0))), (q_19, .inr (6, [.ref q_5, .ref q_7, .ref q_13, .ref q_15, .int 0, .ref (u_20 0), .ref (u_20 1), .ref (u_20 2), .ref (u_20 3), .ref (u_20 4), .int 0, .int 0, .ref (u_20 5), .int 0, .int 0]))] H := hP
  have hD : va_D A [(h0, .inr (9, [.ref q_1, .ref q_3, .ref q_5, .ref q_7, .ref q_9, .ref q_11, .ref q_13, .ref q_15, .ref q_17, .ref q_19, .int 0, .int 0])), (q_1, .inr (8, [.ref (u_2 0), .int 0])), ((u_2 0), .inl (cy 1, 800, .inl (fun _ => 0))), (q_3, .inr (7, [.ref q_1, .int 0, .int 0, .int 0, .int 0, .int 0])), (q_5, .inr (3, [.ref (u_6.1 0), .ref (u_6.1 1), .ref (u_6.1 2)])), ((u_6.1 0), .inl (cy 0, 6, .inl (fun _ => 0))), ((u_6.1 1), .inl (cy 0, 6, .inl (fun _ => 0))), ((u_6.1 2), .inl (cy 3, 6, .inr (.inr (.inr (.inr (fun i => if i < 6 then some (u_6.2 i) else none)))))), ((u_6.2 0), .inl (cy 0, 6, .inl (fun _ => 0))), ((u_6.2 1), .inl (cy 0, 6, .inl (fun _ => 0))), ((u_6.2 2), .inl (cy 0, 6, .inl (fun _ => 0))), ((u_6.2 3), .inl (cy 0, 6, .inl (fun _ => 0))), ((u_6.2 4), .inl (cy 0, 6, .inl (fun _ => 0))), ((u_6.2 5), .inl (cy 0, 6, .inl (fun _ => 0))), (q_7, .inr (0, [.ref (u_8.1 0)])), ((u_8.1 0), .inl (cy 3, 6, .inr (.inr (.inr (.inr (fun i => if i < 6 then some (u_8.2 i) else none)))))), ((u_8.2 0), .inl (cy 0, 200, .inl (fun _ => (-1)))), ((u_8.2 1), .inl (cy 0, 200, .inl (fun _ => (-1)))), ((u_8.2 2), .inl (cy 0, 200, .inl (fun _ => (-1)))), ((u_8.2 3), .inl (cy 0, 200, .inl (fun _ => (-1)))), ((u_8.2 4), .inl (cy 0, 200, .inl (fun _ => (-1)))), ((u_8.2 5), .inl (cy 0, 200, .inl (fun _ => (-1)))), (q_9, .inr (1, [.ref (u_10 0), .ref (u_10 1), .ref (u_10 2)])), ((u_10 0), .inl (cy 0, 6, .inl (fun _ => 0))), ((u_10 1), .inl (cy 0, 6, .inl (fun _ => (-1)))), ((u_10 2), .inl (cy 0, 6, .inl (fun _ => (-1)))), (q_11, .inr (5, [.ref (u_12 0), .int 0])), (q_13, .inr (2, [.ref (u_14 0), .ref (u_14 1), .ref (u_14 2), .ref (u_14 3), .ref (u_14 4)])), ((u_14 0), .inl (cy 0, 4, .inl (fun _ => (-1)))), (q_15, .inr (4, [.int 0, .ref (u_16 0), .ref (u_16 1), .ref (u_16 2), .ref (u_16 3), .int 0, .ref (u_16 4), .ref (u_16 5), .ref (u_16 6), .int 0, .ref (u_16 7), .ref (u_16 8), .ref (u_16 9), .ref (u_16 10)])), ((u_16 1), .inl (cy 0, 6, .inl (fun _ => 0))), ((u_16 2), .inl (cy 0, 6, .inl (fun _ => 0))), ((u_16 3), .inl (cy 0, 6, .inl (fun _ => 0))), (q_17, .inr (4, [.int 0, .ref (u_18 0), .ref (u_18 1), .ref (u_18 2), .ref (u_18 3), .int 0, .ref (u_18 4), .ref (u_18 5), .ref (u_18 6), .int 0, .ref (u_18 7), .ref (u_18 8), .ref (u_18 9), .ref (u_18 10)])), ((u_18 1), .inl (cy 0, 6, .inl (fun _ => 0))), ((u_18 2), .inl (cy 0, 6, .inl (fun _ => 0))), ((u_18 3), .inl (cy 0, 6, .inl (fun _ => 0))), (q_19, .inr (6, [.ref q_5, .ref q_7, .ref q_13, .ref q_15, .int 0, .ref (u_20 0), .ref (u_20 1), .ref (u_20 2), .ref (u_20 3), .ref (u_20 4), .int 0, .int 0, .ref (u_20 5), .int 0, .int 0]))] := hD
  refine lv_aload_n hx hb dX9_init_139 rfl (lv_at hl 0 rfl) ?_
  refine lv_iconst (v := 0) hx hb dX9_init_140 (by decide) ?_
  refine va_put (ci := 9) (v := .int 0) (ty := .int) (C := RX9) (T := TX9) (N := 12) hx hb hts inX9 tyX9 tyX9_ok nmX9 hown hK hP hD hS 0 rfl rfl 11 (by decide) (hts _ gm_302) (fun _ h9 => h9) rfl (by decide +kernel) rfl rfl (Nat.le_of_ble_eq_true rfl) dX9_init_141 (fun H locs hP hD hS => ?_)
  have hP : va_P G vwCl [(h0, .inr (9, [.ref q_1, .ref q_3, .ref q_5, .ref q_7, .ref q_9, .ref q_11, .ref q_13, .ref q_15, .ref q_17, .ref q_19, .int 0, .int 0])), (q_1, .inr (8, [.ref (u_2 0), .int 0])), ((u_2 0), .inl (cy 1, 800, .inl (fun _ => 0))), (q_3, .inr (7, [.ref q_1, .int 0, .int 0, .int 0, .int 0, .int 0])), (q_5, .inr (3, [.ref (u_6.1 0), .ref (u_6.1 1), .ref (u_6.1 2)])), ((u_6.1 0), .inl (cy 0, 6, .inl (fun _ => 0))), ((u_6.1 1), .inl (cy 0, 6, .inl (fun _ => 0))), ((u_6.1 2), .inl (cy 3, 6, .inr (.inr (.inr (.inr (fun i => if i < 6 then some (u_6.2 i) else none)))))), ((u_6.2 0), .inl (cy 0, 6, .inl (fun _ => 0))), ((u_6.2 1), .inl (cy 0, 6, .inl (fun _ => 0))), ((u_6.2 2), .inl (cy 0, 6, .inl (fun _ => 0))), ((u_6.2 3), .inl (cy 0, 6, .inl (fun _ => 0))), ((u_6.2 4), .inl (cy 0, 6, .inl (fun _ => 0))), ((u_6.2 5), .inl (cy 0, 6, .inl (fun _ => 0))), (q_7, .inr (0, [.ref (u_8.1 0)])), ((u_8.1 0), .inl (cy 3, 6, .inr (.inr (.inr (.inr (fun i => if i < 6 then some (u_8.2 i) else none)))))), ((u_8.2 0), .inl (cy 0, 200, .inl (fun _ => (-1)))), ((u_8.2 1), .inl (cy 0, 200, .inl (fun _ => (-1)))), ((u_8.2 2), .inl (cy 0, 200, .inl (fun _ => (-1)))), ((u_8.2 3), .inl (cy 0, 200, .inl (fun _ => (-1)))), ((u_8.2 4), .inl (cy 0, 200, .inl (fun _ => (-1)))), ((u_8.2 5), .inl (cy 0, 200, .inl (fun _ => (-1)))), (q_9, .inr (1, [.ref (u_10 0), .ref (u_10 1), .ref (u_10 2)])), ((u_10 0), .inl (cy 0, 6, .inl (fun _ => 0))), ((u_10 1), .inl (cy 0, 6, .inl (fun _ => (-1)))), ((u_10 2), .inl (cy 0, 6, .inl (fun _ => (-1)))), (q_11, .inr (5, [.ref (u_12 0), .int 0])), (q_13, .inr (2, [.ref (u_14 0), .ref (u_14 1), .ref (u_14 2), .ref (u_14 3), .ref (u_14 4)])), ((u_14 0), .inl (cy 0, 4, .inl (fun _ => (-1)))), (q_15, .inr (4, [.int 0, .ref (u_16 0), .ref (u_16 1), .ref (u_16 2), .ref (u_16 3), .int 0, .ref (u_16 4), .ref (u_16 5), .ref (u_16 6), .int 0, .ref (u_16 7), .ref (u_16 8), .ref (u_16 9), .ref (u_16 10)])), ((u_16 1), .inl (cy 0, 6, .inl (fun _ => 0))), ((u_16 2), .inl (cy 0, 6, .inl (fun _ => 0))), ((u_16 3), .inl (cy 0, 6, .inl (fun _ => 0))), (q_17, .inr (4, [.int 0, .ref (u_18 0), .ref (u_18 1), .ref (u_18 2), .ref (u_18 3), .int 0, .ref (u_18 4), .ref (u_18 5), .ref (u_18 6), .int 0, .ref (u_18 7), .ref (u_18 8), .ref (u_18 9), .ref (u_18 10)])), ((u_18 1), .inl (cy 0, 6, .inl (fun _ => 0))), ((u_18 2), .inl (cy 0, 6, .inl (fun _ => 0))), ((u_18 3), .inl (cy 0, 6, .inl (fun _ => 0))), (q_19, .inr (6, [.ref q_5, .ref q_7, .ref q_13, .ref q_15, .int 0, .ref (u_20 0), .ref (u_20 1), .ref (u_20 2), .ref (u_20 3), .ref (u_20 4), .int 0, .int 0, .ref (u_20 5), .int 0, .int 0]))] H := hP
  have hD : va_D A [(h0, .inr (9, [.ref q_1, .ref q_3, .ref q_5, .ref q_7, .ref q_9, .ref q_11, .ref q_13, .ref q_15, .ref q_17, .ref q_19, .int 0, .int 0])), (q_1, .inr (8, [.ref (u_2 0), .int 0])), ((u_2 0), .inl (cy 1, 800, .inl (fun _ => 0))), (q_3, .inr (7, [.ref q_1, .int 0, .int 0, .int 0, .int 0, .int 0])), (q_5, .inr (3, [.ref (u_6.1 0), .ref (u_6.1 1), .ref (u_6.1 2)])), ((u_6.1 0), .inl (cy 0, 6, .inl (fun _ => 0))), ((u_6.1 1), .inl (cy 0, 6, .inl (fun _ => 0))), ((u_6.1 2), .inl (cy 3, 6, .inr (.inr (.inr (.inr (fun i => if i < 6 then some (u_6.2 i) else none)))))), ((u_6.2 0), .inl (cy 0, 6, .inl (fun _ => 0))), ((u_6.2 1), .inl (cy 0, 6, .inl (fun _ => 0))), ((u_6.2 2), .inl (cy 0, 6, .inl (fun _ => 0))), ((u_6.2 3), .inl (cy 0, 6, .inl (fun _ => 0))), ((u_6.2 4), .inl (cy 0, 6, .inl (fun _ => 0))), ((u_6.2 5), .inl (cy 0, 6, .inl (fun _ => 0))), (q_7, .inr (0, [.ref (u_8.1 0)])), ((u_8.1 0), .inl (cy 3, 6, .inr (.inr (.inr (.inr (fun i => if i < 6 then some (u_8.2 i) else none)))))), ((u_8.2 0), .inl (cy 0, 200, .inl (fun _ => (-1)))), ((u_8.2 1), .inl (cy 0, 200, .inl (fun _ => (-1)))), ((u_8.2 2), .inl (cy 0, 200, .inl (fun _ => (-1)))), ((u_8.2 3), .inl (cy 0, 200, .inl (fun _ => (-1)))), ((u_8.2 4), .inl (cy 0, 200, .inl (fun _ => (-1)))), ((u_8.2 5), .inl (cy 0, 200, .inl (fun _ => (-1)))), (q_9, .inr (1, [.ref (u_10 0), .ref (u_10 1), .ref (u_10 2)])), ((u_10 0), .inl (cy 0, 6, .inl (fun _ => 0))), ((u_10 1), .inl (cy 0, 6, .inl (fun _ => (-1)))), ((u_10 2), .inl (cy 0, 6, .inl (fun _ => (-1)))), (q_11, .inr (5, [.ref (u_12 0), .int 0])), (q_13, .inr (2, [.ref (u_14 0), .ref (u_14 1), .ref (u_14 2), .ref (u_14 3), .ref (u_14 4)])), ((u_14 0), .inl (cy 0, 4, .inl (fun _ => (-1)))), (q_15, .inr (4, [.int 0, .ref (u_16 0), .ref (u_16 1), .ref (u_16 2), .ref (u_16 3), .int 0, .ref (u_16 4), .ref (u_16 5), .ref (u_16 6), .int 0, .ref (u_16 7), .ref (u_16 8), .ref (u_16 9), .ref (u_16 10)])), ((u_16 1), .inl (cy 0, 6, .inl (fun _ => 0))), ((u_16 2), .inl (cy 0, 6, .inl (fun _ => 0))), ((u_16 3), .inl (cy 0, 6, .inl (fun _ => 0))), (q_17, .inr (4, [.int 0, .ref (u_18 0), .ref (u_18 1), .ref (u_18 2), .ref (u_18 3), .int 0, .ref (u_18 4), .ref (u_18 5), .ref (u_18 6), .int 0, .ref (u_18 7), .ref (u_18 8), .ref (u_18 9), .ref (u_18 10)])), ((u_18 1), .inl (cy 0, 6, .inl (fun _ => 0))), ((u_18 2), .inl (cy 0, 6, .inl (fun _ => 0))), ((u_18 3), .inl (cy 0, 6, .inl (fun _ => 0))), (q_19, .inr (6, [.ref q_5, .ref q_7, .ref q_13, .ref q_15, .int 0, .ref (u_20 0), .ref (u_20 1), .ref (u_20 2), .ref (u_20 3), .ref (u_20 4), .int 0, .int 0, .ref (u_20 5), .int 0, .int 0]))] := hD
  exact gz_vret (cf := (fun (u : (Nat → Nat) × (Nat → Nat) × (Nat → Nat)) => [(h0, .inr (9, [.ref (u.1 0), .ref (u.1 1), .ref (u.1 2), .ref (u.1 3), .ref (u.1 4), .ref (u.1 5), .ref (u.1 6), .ref (u.1 7), .ref (u.1 8), .ref (u.1 9), .int 0, .int 0])), ((u.1 0), .inr (8, [.ref (u.1 10), .int 0])), ((u.1 10), .inl (cy 1, 800, .inl (fun _ => 0))), ((u.1 1), .inr (7, [.ref (u.1 0), .int 0, .int 0, .int 0, .int 0, .int 0])), ((u.1 2), .inr (3, [.ref (u.1 11), .ref (u.1 12), .ref (u.1 13)])), ((u.1 11), .inl (cy 0, 6, .inl (fun _ => 0))), ((u.1 12), .inl (cy 0, 6, .inl (fun _ => 0))), ((u.1 13), .inl (cy 3, 6, .inr (.inr (.inr (.inr (fun i => if i < 6 then some (u.2.1 i) else none)))))), ((u.2.1 0), .inl (cy 0, 6, .inl (fun _ => 0))), ((u.2.1 1), .inl (cy 0, 6, .inl (fun _ => 0))), ((u.2.1 2), .inl (cy 0, 6, .inl (fun _ => 0))), ((u.2.1 3), .inl (cy 0, 6, .inl (fun _ => 0))), ((u.2.1 4), .inl (cy 0, 6, .inl (fun _ => 0))), ((u.2.1 5), .inl (cy 0, 6, .inl (fun _ => 0))), ((u.1 3), .inr (0, [.ref (u.1 14)])), ((u.1 14), .inl (cy 3, 6, .inr (.inr (.inr (.inr (fun i => if i < 6 then some (u.2.2 i) else none)))))), ((u.2.2 0), .inl (cy 0, 200, .inl (fun _ => (-1)))), ((u.2.2 1), .inl (cy 0, 200, .inl (fun _ => (-1)))), ((u.2.2 2), .inl (cy 0, 200, .inl (fun _ => (-1)))), ((u.2.2 3), .inl (cy 0, 200, .inl (fun _ => (-1)))), ((u.2.2 4), .inl (cy 0, 200, .inl (fun _ => (-1)))), ((u.2.2 5), .inl (cy 0, 200, .inl (fun _ => (-1)))), ((u.1 4), .inr (1, [.ref (u.1 15), .ref (u.1 16), .ref (u.1 17)])), ((u.1 15), .inl (cy 0, 6, .inl (fun _ => 0))), ((u.1 16), .inl (cy 0, 6, .inl (fun _ => (-1)))), ((u.1 17), .inl (cy 0, 6, .inl (fun _ => (-1)))), ((u.1 5), .inr (5, [.ref (u.1 18), .int 0])), ((u.1 6), .inr (2, [.ref (u.1 19), .ref (u.1 20), .ref (u.1 21), .ref (u.1 22), .ref (u.1 23)])), ((u.1 19), .inl (cy 0, 4, .inl (fun _ => (-1)))), ((u.1 7), .inr (4, [.int 0, .ref (u.1 24), .ref (u.1 25), .ref (u.1 26), .ref (u.1 27), .int 0, .ref (u.1 28), .ref (u.1 29), .ref (u.1 30), .int 0, .ref (u.1 31), .ref (u.1 32), .ref (u.1 33), .ref (u.1 34)])), ((u.1 25), .inl (cy 0, 6, .inl (fun _ => 0))), ((u.1 26), .inl (cy 0, 6, .inl (fun _ => 0))), ((u.1 27), .inl (cy 0, 6, .inl (fun _ => 0))), ((u.1 8), .inr (4, [.int 0, .ref (u.1 35), .ref (u.1 36), .ref (u.1 37), .ref (u.1 38), .int 0, .ref (u.1 39), .ref (u.1 40), .ref (u.1 41), .int 0, .ref (u.1 42), .ref (u.1 43), .ref (u.1 44), .ref (u.1 45)])), ((u.1 36), .inl (cy 0, 6, .inl (fun _ => 0))), ((u.1 37), .inl (cy 0, 6, .inl (fun _ => 0))), ((u.1 38), .inl (cy 0, 6, .inl (fun _ => 0))), ((u.1 9), .inr (6, [.ref (u.1 2), .ref (u.1 3), .ref (u.1 6), .ref (u.1 7), .int 0, .ref (u.1 46), .ref (u.1 47), .ref (u.1 48), .ref (u.1 49), .ref (u.1 50), .int 0, .int 0, .ref (u.1 51), .int 0, .int 0]))])) (post := (fun (u : (Nat → Nat) × (Nat → Nat) × (Nat → Nat)) => True)) hx hb hr hlocks hK hP hD hS (((fun k => match k with | 0 => q_1 | 1 => q_3 | 2 => q_5 | 3 => q_7 | 4 => q_9 | 5 => q_11 | 6 => q_13 | 7 => q_15 | 8 => q_17 | 9 => q_19 | 10 => (u_2 0) | 11 => (u_6.1 0) | 12 => (u_6.1 1) | 13 => (u_6.1 2) | 14 => (u_8.1 0) | 15 => (u_10 0) | 16 => (u_10 1) | 17 => (u_10 2) | 18 => (u_12 0) | 19 => (u_14 0) | 20 => (u_14 1) | 21 => (u_14 2) | 22 => (u_14 3) | 23 => (u_14 4) | 24 => (u_16 0) | 25 => (u_16 1) | 26 => (u_16 2) | 27 => (u_16 3) | 28 => (u_16 4) | 29 => (u_16 5) | 30 => (u_16 6) | 31 => (u_16 7) | 32 => (u_16 8) | 33 => (u_16 9) | 34 => (u_16 10) | 35 => (u_18 0) | 36 => (u_18 1) | 37 => (u_18 2) | 38 => (u_18 3) | 39 => (u_18 4) | 40 => (u_18 5) | 41 => (u_18 6) | 42 => (u_18 7) | 43 => (u_18 8) | 44 => (u_18 9) | 45 => (u_18 10) | 46 => (u_20 0) | 47 => (u_20 1) | 48 => (u_20 2) | 49 => (u_20 3) | 50 => (u_20 4) | 51 => (u_20 5) | _ => 0), u_6.2, u_8.2)) [0, 1, 2, 3, 4, 5, 6, 7, 8, 9, 10, 11, 12, 13, 14, 15, 16, 17, 18, 19, 20, 21, 22, 23, 24, 25, 26, 27, 28, 29, 30, 31, 32, 33, 34, 35, 36, 37] trivial (by decide) rfl (Nat.le_of_ble_eq_true rfl) (Nat.le_of_ble_eq_true rfl) dX9_init_144

set_option maxHeartbeats 4000000 in
set_option maxRecDepth 100000 in
theorem lp_minit {p : Program} {l : Launch} {e : Env} {R : Room} {s : State} {m : MethodId} {args : Array Value} {below : List Frame} {meth : Method} {c : Code} {cells slots : Nat} {Q : State → Prop} {G : va_G} {cy : Nat → ClassId} {A : Nat → Prop} {h0 q : Nat} {fs : List Value} {wr : va_W}
    (hx : p.tables.exec = Jvm.exec) (hb : c.code = cX10_init) (hown : s.vm.findClass RX10 = some m.cls) (hts : ∀ w ∈ gz_T, w.before args s = true) (hK : va_K G vwCl (gzK cy) s) (hfs : fs[6]? = some (.ref q))
    (kend : ∀ (H : Heap) (locs : List Loc) (ls : Array Slot), va_P G vwCl ((h0, .inr (10, fs)) :: (q, .inl (cy 0, 1200, .inl (fun _ => (-1)))) :: wr) H → va_D A ((h0, .inr (10, fs)) :: (q, .inl (cy 0, 1200, .inl (fun _ => (-1)))) :: wr) → va_S A s.heap H locs → W p l e R s m args below meth c H locs cells slots Q (F0 m 344 ls [])) :
    ∀ (k i : Nat), i + k = 1200 → ∀ (g : Nat → Int32), (∀ j, j < i → g j = -1) → ∀ (H : Heap) (locs : List Loc) (ls : Array Slot), va_P G vwCl ((h0, .inr (10, fs)) :: (q, .inl (cy 0, 1200, .inl g)) :: wr) H → va_D A ((h0, .inr (10, fs)) :: (q, .inl (cy 0, 1200, .inl g)) :: wr) → va_S A s.heap H locs → lv_has ls 2 [(0, .ref h0), (1, .int (nI i))] → W p l e R s m args below meth c H locs cells slots Q (F0 m 324 ls []) := by
  intro k
  induction k with
  | zero =>
    intro i hi g hg H locs ls hP hD hS hl
    obtain rfl : i = 1200 := by omega
    refine lv_iload_n hx hb dX10_init_324 rfl (lv_at hl 1 rfl) ?_
    refine lv_sipush (v := nI 1200) hx hb dX10_init_325 (by decide) ?_
    refine lv_icmp_ge (tgt := 344) hx hb dX10_init_328 (by decide) (fun _ => ?_) (fun h9 => absurd (nI_le (Nat.le_refl _) (by decide)) h9)
    exact kend H locs ls (gz_arr (k := 1) (g := fun _ => -1) hg hP rfl) (hD.set (p := 1) rfl) hS
  | succ k ih =>
    intro i hi g hg H locs ls hP hD hS hl
    refine lv_iload_n hx hb dX10_init_324 rfl (lv_at hl 1 rfl) ?_
    refine lv_sipush (v := nI 1200) hx hb dX10_init_325 (by decide) ?_
    refine lv_icmp_ge (tgt := 344) hx hb dX10_init_328 (by decide) (fun h9 => absurd h9 (nI_ge (by omega) (by decide))) (fun _ => ?_)
    refine lv_aload_n hx hb dX10_init_331 rfl (lv_at hl 0 rfl) ?_
    refine va_get (ci := 10) (v := .ref q) (C := RX10) (T := TX10) (N := 59) hx hb hts inX10 hown hK hP 0 rfl rfl 6 (by decide) (hts _ gm_907) (fun _ h9 => h9) hfs dX10_init_332 ?_
    refine lv_iload_n hx hb dX10_init_335 rfl (lv_at hl 1 rfl) ?_
    refine lv_iconst (v := (-1)) hx hb dX10_init_336 (by decide) ?_
    refine va_iast hx hb hK hP hD hS 1 0 rfl rfl (vp_in_nI (by omega) (by decide)) dX10_init_337 (fun H locs hP hD hS => ?_)
    refine lv_iinc (v := nI (i + 1)) (lv' := [(1, .int (nI (i + 1))), (0, .ref h0)]) hx hb dX10_init_338 hl (k := 1) rfl (nI_1 i) (by decide) rfl (fun ls hl => ?_)
    refine lv_goto (tgt := 324) hx hb dX10_init_341 (by decide) ?_
    refine ih (i + 1) (by omega) (upd g (nI i).toNatClampNeg (-1)) (fun j hj => ?_) H locs ls hP hD hS (lv_sub hl [1, 0] rfl)
    rw [nI_clamp (by omega)]
    by_cases e : j = i
    · rw [e]; exact pk_us
    · rw [pk_un e]; exact hg j (by omega)

set_option maxHeartbeats 4000000 in
set_option maxRecDepth 100000 in
/-- WellCourtModel(): as it is new; arrays that no first call asks for are left out -/
theorem c_X10_init (l : Launch) (G : va_G) (cy : Nat → ClassId) (sz : Nat) (h0 : Nat)  : gMv l yX10_init cX10_init 2 ({ frames := 1, cells := 38, slots := 6830, locals := 20 }) G cy sz [.ref h0] [(h0, .inr (10, [.int 0, .null, .null, .null, .null, .null, .null, .int 0, .null, .int 0, .int 0, .int 0, .int 0, .int 0, .int 0, .int 0, .int 0, .long 0, .int 0, .int 0, .null, .null, .null, .null, .null, .null, .null, .null, .int 0, .int 0, .int 0, .null, .null, .null, .null, .null, .null, .int 0, .null, .null, .null, .null, .null, .null, .null, .null, .null, .null, .null, .null, .null, .null, .null, .null, .null, .int 0, .int 0, .int 0, .int 0]))] (fun (u : (Nat → Nat)) => True) (fun (u : (Nat → Nat)) => [(h0, .inr (10, [.int 0, .ref (u 0), .ref (u 1), .ref (u 2), .ref (u 3), .ref (u 4), .ref (u 5), .int 0, .ref (u 6), .int 0, .int 0, .int 0, .int 0, .int 0, .int 0, .int 0, .int 0, .long 0, .int 0, .int 0, .ref (u 7), .ref (u 8), .ref (u 9), .ref (u 10), .ref (u 11), .ref (u 12), .ref (u 13), .ref (u 14), .int 0, .int 0, .int 0, .ref (u 15), .ref (u 16), .ref (u 17), .ref (u 18), .ref (u 19), .ref (u 20), .int 0, .ref (u 21), .ref (u 22), .ref (u 23), .ref (u 24), .ref (u 25), .ref (u 26), .ref (u 27), .ref (u 28), .ref (u 29), .ref (u 30), .ref (u 31), .ref (u 32), .ref (u 33), .ref (u 34), .ref (u 35), .ref (u 36), .ref (u 37), .int (-1), .int 0, .int 0, .int 0])), ((u 0), .inl (cy 2, 6, .inl (fun _ => 0))), ((u 1), .inl (cy 0, 6, .inl (fun _ => 0))), ((u 2), .inl (cy 0, 6, .inl (fun _ => 0))), ((u 3), .inl (cy 0, 6, .inl (fun _ => 0))), ((u 4), .inl (cy 0, 6, .inl (fun _ => 0))), ((u 5), .inl (cy 0, 1200, .inl (fun _ => (-1)))), ((u 6), .inl (cy 1, 800, .inl (fun _ => 0))), ((u 21), .inl (cy 2, 4, .inl (fun _ => 0))), ((u 27), .inl (cy 0, 36, .inl (fun _ => 0)))]) := by
  refine gz_start (fun A => gQv G cy _ _ A) (by decide) (Nat.le_of_ble_eq_true rfl) ?_
  intro p e s m below meth c A ls H hx hb hr hml hlocks hin hown hts hK hov hsz hP hD hS hA hl
  have hl : lv_has ls 2 [(0, .ref h0)] := hl
  refine lv_aload_n hx hb dX10_init_0 rfl (lv_at hl 0 rfl) ?_
  refine W.objInit hx hb hown (hts _ gm_900) (hts _ gm_30) (hts _ gm_31) rfl (by rw [hml]; exact hl.1) rfl dX10_init_1 (Nat.le_of_ble_eq_true rfl) (Nat.le_of_ble_eq_true rfl) ?_
  refine W.eq (g2 := F0 m 4 ls []) rfl ?_
  refine lv_aload_n hx hb dX10_init_4 rfl (lv_at hl 0 rfl) ?_
  refine lv_bipush (v := 6) hx hb dX10_init_5 (by decide) ?_
  refine gz_newa (atype := .boolean) (t0 := 2) (a0 := (6, .inl (fun _ => 0))) hx hb rfl (fun _ _ h9 => h9) (hts _ gm_1079) rfl hK hP hD hS hA (fun _ => rfl) (by decide) (by decide) (Nat.le_of_ble_eq_true rfl) (Nat.le_of_ble_eq_true rfl) (Nat.le_of_ble_eq_true rfl) dX10_init_7 (fun q_1 H hP hD hS => ?_)
  have hP : va_P G vwCl [(h0, .inr (10, [.int 0, .null, .null, .null, .null, .null, .null, .int 0, .null, .int 0, .int 0, .int 0, .int 0, .int 0, .int 0, .int 0, .int 0, .long 0, .int 0, .int 0, .null, .null, .null, .null, .null, .null, .null, .null, .int 0, .int 0, .int 0, .null, .null, .null, .null, .null, .null, .int 0, .null, .null, .null, .null, .null, .null, .null, .null, .null, .null, .null, .null, .null, .null, .null, .null, .null, .int 0, .int 0, .int 0, .int 0])), (q_1, .inl (cy 2, 6, .inl (fun _ => 0)))] H := hP
  have hD : va_D A [(h0, .inr (10, [.int 0, .null, .null, .null, .null, .null, .null, .int 0, .null, .int 0, .int 0, .int 0, .int 0, .int 0, .int 0, .int 0, .int 0, .long 0, .int 0, .int 0, .null, .null, .null, .null, .null, .null, .null, .null, .int 0, .int 0, .int 0, .null, .null, .null, .null, .null, .null, .int 0, .null, .null, .null, .null, .null, .null, .null, .null, .null, .null, .null, .null, .null, .null, .null, .null, .null, .int 0, .int 0, .int 0, .int 0])), (q_1, .inl (cy 2, 6, .inl (fun _ => 0)))] := hD
  refine W.widen (k := 1) (n := 6) (Nat.le_of_ble_eq_true rfl) (Nat.le_of_ble_eq_true rfl) ?_
  refine va_putF (ci := 10) (v := .ref q_1) (ty := .array .boolean) (C := RX10) (T := TX10) (N := 59) hx hb hts inX10 tyX10 tyX10_ok nmX10 hown hK hP hD hS 0 rfl rfl 1 (by decide) (hts _ gm_902) (fun _ h9 => h9) rfl hin rfl (by decide +kernel) rfl rfl (Nat.le_of_ble_eq_true rfl) dX10_init_9 (fun H locs hP hD hS => ?_)
  have hP : va_P G vwCl [(h0, .inr (10, [.int 0, .ref q_1, .null, .null, .null, .null, .null, .int 0, .null, .int 0, .int 0, .int 0, .int 0, .int 0, .int 0, .int 0, .int 0, .long 0, .int 0, .int 0, .null, .null, .null, .null, .null, .null, .null, .null, .int 0, .int 0, .int 0, .null, .null, .null, .null, .null, .null, .int 0, .null, .null, .null, .null, .null, .null, .null, .null, .null, .null, .null, .null, .null, .null, .null, .null, .null, .int 0, .int 0, .int 0, .int 0])), (q_1, .inl (cy 2, 6, .inl (fun _ => 0)))] H := hP
  have hD : va_D A [(h0, .inr (10, [.int 0, .ref q_1, .null, .null, .null, .null, .null, .int 0, .null, .int 0, .int 0, .int 0, .int 0, .int 0, .int 0, .int 0, .int 0, .long 0, .int 0, .int 0, .null, .null, .null, .null, .null, .null, .null, .null, .int 0, .int 0, .int 0, .null, .null, .null, .null, .null, .null, .int 0, .null, .null, .null, .null, .null, .null, .null, .null, .null, .null, .null, .null, .null, .null, .null, .null, .null, .int 0, .int 0, .int 0, .int 0])), (q_1, .inl (cy 2, 6, .inl (fun _ => 0)))] := hD
  refine lv_aload_n hx hb dX10_init_12 rfl (lv_at hl 0 rfl) ?_
  refine lv_bipush (v := 6) hx hb dX10_init_13 (by decide) ?_
  refine gz_newa (atype := .int) (t0 := 0) (a0 := (6, .inl (fun _ => 0))) hx hb rfl (fun _ _ h9 => h9) (hts _ gm_98) rfl hK hP hD hS hA (fun _ => rfl) (by decide) (by decide) (Nat.le_of_ble_eq_true rfl) (Nat.le_of_ble_eq_true rfl) (Nat.le_of_ble_eq_true rfl) dX10_init_15 (fun q_2 H hP hD hS => ?_)
  have hP : va_P G vwCl [(h0, .inr (10, [.int 0, .ref q_1, .null, .null, .null, .null, .null, .int 0, .null, .int 0, .int 0, .int 0, .int 0, .int 0, .int 0, .int 0, .int 0, .long 0, .int 0, .int 0, .null, .null, .null, .null, .null, .null, .null, .null, .int 0, .int 0, .int 0, .null, .null, .null, .null, .null, .null, .int 0, .null, .null, .null, .null, .null, .null, .null, .null, .null, .null, .null, .null, .null, .null, .null, .null, .null, .int 0, .int 0, .int 0, .int 0])), (q_1, .inl (cy 2, 6, .inl (fun _ => 0))), (q_2, .inl (cy 0, 6, .inl (fun _ => 0)))] H := hP
  have hD : va_D A [(h0, .inr (10, [.int 0, .ref q_1, .null, .null, .null, .null, .null, .int 0, .null, .int 0, .int 0, .int 0, .int 0, .int 0, .int 0, .int 0, .int 0, .long 0, .int 0, .int 0, .null, .null, .null, .null, .null, .null, .null, .null, .int 0, .int 0, .int 0, .null, .null, .null, .null, .null, .null, .int 0, .null, .null, .null, .null, .null, .null, .null, .null, .null, .null, .null, .null, .null, .null, .null, .null, .null, .int 0, .int 0, .int 0, .int 0])), (q_1, .inl (cy 2, 6, .inl (fun _ => 0))), (q_2, .inl (cy 0, 6, .inl (fun _ => 0)))] := hD
  refine W.widen (k := 2) (n := 12) (Nat.le_of_ble_eq_true rfl) (Nat.le_of_ble_eq_true rfl) ?_
  refine va_putF (ci := 10) (v := .ref q_2) (ty := .array .int) (C := RX10) (T := TX10) (N := 59) hx hb hts inX10 tyX10 tyX10_ok nmX10 hown hK hP hD hS 0 rfl rfl 2 (by decide) (hts _ gm_903) (fun _ h9 => h9) rfl hin rfl (by decide +kernel) rfl rfl (Nat.le_of_ble_eq_true rfl) dX10_init_17 (fun H locs hP hD hS => ?_)
  have hP : va_P G vwCl [(h0, .inr (10, [.int 0, .ref q_1, .ref q_2, .null, .null, .null, .null, .int 0, .null, .int 0, .int 0, .int 0, .int 0, .int 0, .int 0, .int 0, .int 0, .long 0, .int 0, .int 0, .null, .null, .null, .null, .null, .null, .null, .null, .int 0, .int 0, .int 0, .null, .null, .null, .null, .null, .null, .int 0, .null, .null, .null, .null, .null, .null, .null, .null, .null, .null, .null, .null, .null, .null, .null, .null, .null, .int 0, .int 0, .int 0, .int 0])), (q_1, .inl (cy 2, 6, .inl (fun _ => 0))), (q_2, .inl (cy 0, 6, .inl (fun _ => 0)))] H := hP
  have hD : va_D A [(h0, .inr (10, [.int 0, .ref q_1, .ref q_2, .null, .null, .null, .null, .int 0, .null, .int 0, .int 0, .int 0, .int 0, .int 0, .int 0, .int 0, .int 0, .long 0, .int 0, .int 0, .null, .null, .null, .null, .null, .null, .null, .null, .int 0, .int 0, .int 0, .null, .null, .null, .null, .null, .null, .int 0, .null, .null, .null, .null, .null, .null, .null, .null, .null, .null, .null, .null, .null, .null, .null, .null, .null, .int 0, .int 0, .int 0, .int 0])), (q_1, .inl (cy 2, 6, .inl (fun _ => 0))), (q_2, .inl (cy 0, 6, .inl (fun _ => 0)))] := hD
  refine lv_aload_n hx hb dX10_init_20 rfl (lv_at hl 0 rfl) ?_
  refine lv_bipush (v := 6) hx hb dX10_init_21 (by decide) ?_
  refine gz_newa (atype := .int) (t0 := 0) (a0 := (6, .inl (fun _ => 0))) hx hb rfl (fun _ _ h9 => h9) (hts _ gm_98) rfl hK hP hD hS hA (fun _ => rfl) (by decide) (by decide) (Nat.le_of_ble_eq_true rfl) (Nat.le_of_ble_eq_true rfl) (Nat.le_of_ble_eq_true rfl) dX10_init_23 (fun q_3 H hP hD hS => ?_)
  have hP : va_P G vwCl [(h0, .inr (10, [.int 0, .ref q_1, .ref q_2, .null, .null, .null, .null, .int 0, .null, .int 0, .int 0, .int 0, .int 0, .int 0, .int 0, .int 0, .int 0, .long 0, .int 0, .int 0, .null, .null, .null, .null, .null, .null, .null, .null, .int 0, .int 0, .int 0, .null, .null, .null, .null, .null, .null, .int 0, .null, .null, .null, .null, .null, .null, .null, .null, .null, .null, .null, .null, .null, .null, .null, .null, .null, .int 0, .int 0, .int 0, .int 0])), (q_1, .inl (cy 2, 6, .inl (fun _ => 0))), (q_2, .inl (cy 0, 6, .inl (fun _ => 0))), (q_3, .inl (cy 0, 6, .inl (fun _ => 0)))] H := hP
  have hD : va_D A [(h0, .inr (10, [.int 0, .ref q_1, .ref q_2, .null, .null, .null, .null, .int 0, .null, .int 0, .int 0, .int 0, .int 0, .int 0, .int 0, .int 0, .int 0, .long 0, .int 0, .int 0, .null, .null, .null, .null, .null, .null, .null, .null, .int 0, .int 0, .int 0, .null, .null, .null, .null, .null, .null, .int 0, .null, .null, .null, .null, .null, .null, .null, .null, .null, .null, .null, .null, .null, .null, .null, .null, .null, .int 0, .int 0, .int 0, .int 0])), (q_1, .inl (cy 2, 6, .inl (fun _ => 0))), (q_2, .inl (cy 0, 6, .inl (fun _ => 0))), (q_3, .inl (cy 0, 6, .inl (fun _ => 0)))] := hD
  refine W.widen (k := 3) (n := 18) (Nat.le_of_ble_eq_true rfl) (Nat.le_of_ble_eq_true rfl) ?_
  refine va_putF (ci := 10) (v := .ref q_3) (ty := .array .int) (C := RX10) (T := TX10) (N := 59) hx hb hts inX10 tyX10 tyX10_ok nmX10 hown hK hP hD hS 0 rfl rfl 3 (by decide) (hts _ gm_904) (fun _ h9 => h9) rfl hin rfl (by decide +kernel) rfl rfl (Nat.le_of_ble_eq_true rfl) dX10_init_25 (fun H locs hP hD hS => ?_)
  have hP : va_P G vwCl [(h0, .inr (10, [.int 0, .ref q_1, .ref q_2, .ref q_3, .null, .null, .null, .int 0, .null, .int 0, .int 0, .int 0, .int 0, .int 0, .int 0, .int 0, .int 0, .long 0, .int 0, .int 0, .null, .null, .null, .null, .null, .null, .null, .null, .int 0, .int 0, .int 0, .null, .null, .null, .null, .null, .null, .int 0, .null, .null, .null, .null, .null, .null, .null, .null, .null, .null, .null, .null, .null, .null, .null, .null, .null, .int 0, .int 0, .int 0, .int 0])), (q_1, .inl (cy 2, 6, .inl (fun _ => 0))), (q_2, .inl (cy 0, 6, .inl (fun _ => 0))), (q_3, .inl (cy 0, 6, .inl (fun _ => 0)))] H := hP
  have hD : va_D A [(h0, .inr (10, [.int 0, .ref q_1, .ref q_2, .ref q_3, .null, .null, .null, .int 0, .null, .int 0, .int 0, .int 0, .int 0, .int 0, .int 0, .int 0, .int 0, .long 0, .int 0, .int 0, .null, .null, .null, .null, .null, .null, .null, .null, .int 0, .int 0, .int 0, .null, .null, .null, .null, .null, .null, .int 0, .null, .null, .null, .null, .null, .null, .null, .null, .null, .null, .null, .null, .null, .null, .null, .null, .null, .int 0, .int 0, .int 0, .int 0])), (q_1, .inl (cy 2, 6, .inl (fun _ => 0))), (q_2, .inl (cy 0, 6, .inl (fun _ => 0))), (q_3, .inl (cy 0, 6, .inl (fun _ => 0)))] := hD
  refine lv_aload_n hx hb dX10_init_28 rfl (lv_at hl 0 rfl) ?_
  refine lv_bipush (v := 6) hx hb dX10_init_29 (by decide) ?_
  refine gz_newa (atype := .int) (t0 := 0) (a0 := (6, .inl (fun _ => 0))) hx hb rfl (fun _ _ h9 => h9) (hts _ gm_98) rfl hK hP hD hS hA (fun _ => rfl) (by decide) (by decide) (Nat.le_of_ble_eq_true rfl) (Nat.le_of_ble_eq_true rfl) (Nat.le_of_ble_eq_true rfl) dX10_init_31 (fun q_4 H hP hD hS => ?_)
  have hP : va_P G vwCl [(h0, .inr (10, [.int 0, .ref q_1, .ref q_2, .ref q_3, .null, .null, .null, .int 0, .null, .int 0, .int 0, .int 0, .int 0, .int 0, .int 0, .int 0, .int 0, .long 0, .int 0, .int 0, .null, .null, .null, .null, .null, .null, .null, .null, .int 0, .int 0, .int 0, .null, .null, .null, .null, .null, .null, .int 0, .null, .null, .null, .null, .null, .null, .null, .null, .null, .null, .null, .null, .null, .null, .null, .null, .null, .int 0, .int 0, .int 0, .int 0])), (q_1, .inl (cy 2, 6, .inl (fun _ => 0))), (q_2, .inl (cy 0, 6, .inl (fun _ => 0))), (q_3, .inl (cy 0, 6, .inl (fun _ => 0))), (q_4, .inl (cy 0, 6, .inl (fun _ => 0)))] H := hP
  have hD : va_D A [(h0, .inr (10, [.int 0, .ref q_1, .ref q_2, .ref q_3, .null, .null, .null, .int 0, .null, .int 0, .int 0, .int 0, .int 0, .int 0, .int 0, .int 0, .int 0, .long 0, .int 0, .int 0, .null, .null, .null, .null, .null, .null, .null, .null, .int 0, .int 0, .int 0, .null, .null, .null, .null, .null, .null, .int 0, .null, .null, .null, .null, .null, .null, .null, .null, .null, .null, .null, .null, .null, .null, .null, .null, .null, .int 0, .int 0, .int 0, .int 0])), (q_1, .inl (cy 2, 6, .inl (fun _ => 0))), (q_2, .inl (cy 0, 6, .inl (fun _ => 0))), (q_3, .inl (cy 0, 6, .inl (fun _ => 0))), (q_4, .inl (cy 0, 6, .inl (fun _ => 0)))] := hD
  refine W.widen (k := 4) (n := 24) (Nat.le_of_ble_eq_true rfl) (Nat.le_of_ble_eq_true rfl) ?_
  refine va_putF (ci := 10) (v := .ref q_4) (ty := .array .int) (C := RX10) (T := TX10) (N := 59) hx hb hts inX10 tyX10 tyX10_ok nmX10 hown hK hP hD hS 0 rfl rfl 4 (by decide) (hts _ gm_905) (fun _ h9 => h9) rfl hin rfl (by decide +kernel) rfl rfl (Nat.le_of_ble_eq_true rfl) dX10_init_33 (fun H locs hP hD hS => ?_)
  have hP : va_P G vwCl [(h0, .inr (10, [.int 0, .ref q_1, .ref q_2, .ref q_3, .ref q_4, .null, .null, .int 0, .null, .int 0, .int 0, .int 0, .int 0, .int 0, .int 0, .int 0, .int 0, .long 0, .int 0, .int 0, .null, .null, .null, .null, .null, .null, .null, .null, .int 0, .int 0, .int 0, .null, .null, .null, .null, .null, .null, .int 0, .null, .null, .null, .null, .null, .null, .null, .null, .null, .null, .null, .null, .null, .null, .null, .null, .null, .int 0, .int 0, .int 0, .int 0])), (q_1, .inl (cy 2, 6, .inl (fun _ => 0))), (q_2, .inl (cy 0, 6, .inl (fun _ => 0))), (q_3, .inl (cy 0, 6, .inl (fun _ => 0))), (q_4, .inl (cy 0, 6, .inl (fun _ => 0)))] H := hP
  have hD : va_D A [(h0, .inr (10, [.int 0, .ref q_1, .ref q_2, .ref q_3, .ref q_4, .null, .null, .int 0, .null, .int 0, .int 0, .int 0, .int 0, .int 0, .int 0, .int 0, .int 0, .long 0, .int 0, .int 0, .null, .null, .null, .null, .null, .null, .null, .null, .int 0, .int 0, .int 0, .null, .null, .null, .null, .null, .null, .int 0, .null, .null, .null, .null, .null, .null, .null, .null, .null, .null, .null, .null, .null, .null, .null, .null, .null, .int 0, .int 0, .int 0, .int 0])), (q_1, .inl (cy 2, 6, .inl (fun _ => 0))), (q_2, .inl (cy 0, 6, .inl (fun _ => 0))), (q_3, .inl (cy 0, 6, .inl (fun _ => 0))), (q_4, .inl (cy 0, 6, .inl (fun _ => 0)))] := hD
  refine lv_aload_n hx hb dX10_init_36 rfl (lv_at hl 0 rfl) ?_
  refine lv_bipush (v := 6) hx hb dX10_init_37 (by decide) ?_
  refine gz_newa (atype := .int) (t0 := 0) (a0 := (6, .inl (fun _ => 0))) hx hb rfl (fun _ _ h9 => h9) (hts _ gm_98) rfl hK hP hD hS hA (fun _ => rfl) (by decide) (by decide) (Nat.le_of_ble_eq_true rfl) (Nat.le_of_ble_eq_true rfl) (Nat.le_of_ble_eq_true rfl) dX10_init_39 (fun q_5 H hP hD hS => ?_)
  have hP : va_P G vwCl [(h0, .inr (10, [.int 0, .ref q_1, .ref q_2, .ref q_3, .ref q_4, .null, .null, .int 0, .null, .int 0, .int 0, .int 0, .int 0, .int 0, .int 0, .int 0, .int 0, .long 0, .int 0, .int 0, .null, .null, .null, .null, .null, .null, .null, .null, .int 0, .int 0, .int 0, .null, .null, .null, .null, .null, .null, .int 0, .null, .null, .null, .null, .null, .null, .null, .null, .null, .null, .null, .null, .null, .null, .null, .null, .null, .int 0, .int 0, .int 0, .int 0])), (q_1, .inl (cy 2, 6, .inl (fun _ => 0))), (q_2, .inl (cy 0, 6, .inl (fun _ => 0))), (q_3, .inl (cy 0, 6, .inl (fun _ => 0))), (q_4, .inl (cy 0, 6, .inl (fun _ => 0))), (q_5, .inl (cy 0, 6, .inl (fun _ => 0)))] H := hP
  have hD : va_D A [(h0, .inr (10, [.int 0, .ref q_1, .ref q_2, .ref q_3, .ref q_4, .null, .null, .int 0, .null, .int 0, .int 0, .int 0, .int 0, .int 0, .int 0, .int 0, .int 0, .long 0, .int 0, .int 0, .null, .null, .null, .null, .null, .null, .null, .null, .int 0, .int 0, .int 0, .null, .null, .null, .null, .null, .null, .int 0, .null, .null, .null, .null, .null, .null, .null, .null, .null, .null, .null, .null, .null, .null, .null, .null, .null, .int 0, .int 0, .int 0, .int 0])), (q_1, .inl (cy 2, 6, .inl (fun _ => 0))), (q_2, .inl (cy 0, 6, .inl (fun _ => 0))), (q_3, .inl (cy 0, 6, .inl (fun _ => 0))), (q_4, .inl (cy 0, 6, .inl (fun _ => 0))), (q_5, .inl (cy 0, 6, .inl (fun _ => 0)))] := hD
  refine W.widen (k := 5) (n := 30) (Nat.le_of_ble_eq_true rfl) (Nat.le_of_ble_eq_true rfl) ?_
  refine va_putF (ci := 10) (v := .ref q_5) (ty := .array .int) (C := RX10) (T := TX10) (N := 59) hx hb hts inX10 tyX10 tyX10_ok nmX10 hown hK hP hD hS 0 rfl rfl 5 (by decide) (hts _ gm_906) (fun _ h9 => h9) rfl hin rfl (by decide +kernel) rfl rfl (Nat.le_of_ble_eq_true rfl) dX10_init_41 (fun H locs hP hD hS => ?_)
  have hP : va_P G vwCl [(h0, .inr (10, [.int 0, .ref q_1, .ref q_2, .ref q_3, .ref q_4, .ref q_5, .null, .int 0, .null, .int 0, .int 0, .int 0, .int 0, .int 0, .int 0, .int 0, .int 0, .long 0, .int 0, .int 0, .null, .null, .null, .null, .null, .null, .null, .null, .int 0, .int 0, .int 0, .null, .null, .null, .null, .null, .null, .int 0, .null, .null, .null, .null, .null, .null, .null, .null, .null, .null, .null, .null, .null, .null, .null, .null, .null, .int 0, .int 0, .int 0, .int 0])), (q_1, .inl (cy 2, 6, .inl (fun _ => 0))), (q_2, .inl (cy 0, 6, .inl (fun _ => 0))), (q_3, .inl (cy 0, 6, .inl (fun _ => 0))), (q_4, .inl (cy 0, 6, .inl (fun _ => 0))), (q_5, .inl (cy 0, 6, .inl (fun _ => 0)))] H := hP
  have hD : va_D A [(h0, .inr (10, [.int 0, .ref q_1, .ref q_2, .ref q_3, .ref q_4, .ref q_5, .null, .int 0, .null, .int 0, .int 0, .int 0, .int 0, .int 0, .int 0, .int 0, .int 0, .long 0, .int 0, .int 0, .null, .null, .null, .null, .null, .null, .null, .null, .int 0, .int 0, .int 0, .null, .null, .null, .null, .null, .null, .int 0, .null, .null, .null, .null, .null, .null, .null, .null, .null, .null, .null, .null, .null, .null, .null, .null, .null, .int 0, .int 0, .int 0, .int 0])), (q_1, .inl (cy 2, 6, .inl (fun _ => 0))), (q_2, .inl (cy 0, 6, .inl (fun _ => 0))), (q_3, .inl (cy 0, 6, .inl (fun _ => 0))), (q_4, .inl (cy 0, 6, .inl (fun _ => 0))), (q_5, .inl (cy 0, 6, .inl (fun _ => 0)))] := hD
  refine lv_aload_n hx hb dX10_init_44 rfl (lv_at hl 0 rfl) ?_
  refine lv_sipush (v := 1200) hx hb dX10_init_45 (by decide) ?_
  refine gz_newa (atype := .int) (t0 := 0) (a0 := (1200, .inl (fun _ => 0))) hx hb rfl (fun _ _ h9 => h9) (hts _ gm_98) rfl hK hP hD hS hA (fun _ => rfl) (by decide) (by decide) (Nat.le_of_ble_eq_true rfl) (Nat.le_of_ble_eq_true rfl) (Nat.le_of_ble_eq_true rfl) dX10_init_48 (fun q_6 H hP hD hS => ?_)
  have hP : va_P G vwCl [(h0, .inr (10, [.int 0, .ref q_1, .ref q_2, .ref q_3, .ref q_4, .ref q_5, .null, .int 0, .null, .int 0, .int 0, .int 0, .int 0, .int 0, .int 0, .int 0, .int 0, .long 0, .int 0, .int 0, .null, .null, .null, .null, .null, .null, .null, .null, .int 0, .int 0, .int 0, .null, .null, .null, .null, .null, .null, .int 0, .null, .null, .null, .null, .null, .null, .null, .null, .null, .null, .null, .null, .null, .null, .null, .null, .null, .int 0, .int 0, .int 0, .int 0])), (q_1, .inl (cy 2, 6, .inl (fun _ => 0))), (q_2, .inl (cy 0, 6, .inl (fun _ => 0))), (q_3, .inl (cy 0, 6, .inl (fun _ => 0))), (q_4, .inl (cy 0, 6, .inl (fun _ => 0))), (q_5, .inl (cy 0, 6, .inl (fun _ => 0))), (q_6, .inl (cy 0, 1200, .inl (fun _ => 0)))] H := hP
  have hD : va_D A [(h0, .inr (10, [.int 0, .ref q_1, .ref q_2, .ref q_3, .ref q_4, .ref q_5, .null, .int 0, .null, .int 0, .int 0, .int 0, .int 0, .int 0, .int 0, .int 0, .int 0, .long 0, .int 0, .int 0, .null, .null, .null, .null, .null, .null, .null, .null, .int 0, .int 0, .int 0, .null, .null, .null, .null, .null, .null, .int 0, .null, .null, .null, .null, .null, .null, .null, .null, .null, .null, .null, .null, .null, .null, .null, .null, .null, .int 0, .int 0, .int 0, .int 0])), (q_1, .inl (cy 2, 6, .inl (fun _ => 0))), (q_2, .inl (cy 0, 6, .inl (fun _ => 0))), (q_3, .inl (cy 0, 6, .inl (fun _ => 0))), (q_4, .inl (cy 0, 6, .inl (fun _ => 0))), (q_5, .inl (cy 0, 6, .inl (fun _ => 0))), (q_6, .inl (cy 0, 1200, .inl (fun _ => 0)))] := hD
  refine W.widen (k := 6) (n := 1230) (Nat.le_of_ble_eq_true rfl) (Nat.le_of_ble_eq_true rfl) ?_
  refine va_putF (ci := 10) (v := .ref q_6) (ty := .array .int) (C := RX10) (T := TX10) (N := 59) hx hb hts inX10 tyX10 tyX10_ok nmX10 hown hK hP hD hS 0 rfl rfl 6 (by decide) (hts _ gm_907) (fun _ h9 => h9) rfl hin rfl (by decide +kernel) rfl rfl (Nat.le_of_ble_eq_true rfl) dX10_init_50 (fun H locs hP hD hS => ?_)
  have hP : va_P G vwCl [(h0, .inr (10, [.int 0, .ref q_1, .ref q_2, .ref q_3, .ref q_4, .ref q_5, .ref q_6, .int 0, .null, .int 0, .int 0, .int 0, .int 0, .int 0, .int 0, .int 0, .int 0, .long 0, .int 0, .int 0, .null, .null, .null, .null, .null, .null, .null, .null, .int 0, .int 0, .int 0, .null, .null, .null, .null, .null, .null, .int 0, .null, .null, .null, .null, .null, .null, .null, .null, .null, .null, .null, .null, .null, .null, .null, .null, .null, .int 0, .int 0, .int 0, .int 0])), (q_1, .inl (cy 2, 6, .inl (fun _ => 0))), (q_2, .inl (cy 0, 6, .inl (fun _ => 0))), (q_3, .inl (cy 0, 6, .inl (fun _ => 0))), (q_4, .inl (cy 0, 6, .inl (fun _ => 0))), (q_5, .inl (cy 0, 6, .inl (fun _ => 0))), (q_6, .inl (cy 0, 1200, .inl (fun _ => 0)))] H := hP
  have hD : va_D A [(h0, .inr (10, [.int 0, .ref q_1, .ref q_2, .ref q_3, .ref q_4, .ref q_5, .ref q_6, .int 0, .null, .int 0, .int 0, .int 0, .int 0, .int 0, .int 0, .int 0, .int 0, .long 0, .int 0, .int 0, .null, .null, .null, .null, .null, .null, .null, .null, .int 0, .int 0, .int 0, .null, .null, .null, .null, .null, .null, .int 0, .null, .null, .null, .null, .null, .null, .null, .null, .null, .null, .null, .null, .null, .null, .null, .null, .null, .int 0, .int 0, .int 0, .int 0])), (q_1, .inl (cy 2, 6, .inl (fun _ => 0))), (q_2, .inl (cy 0, 6, .inl (fun _ => 0))), (q_3, .inl (cy 0, 6, .inl (fun _ => 0))), (q_4, .inl (cy 0, 6, .inl (fun _ => 0))), (q_5, .inl (cy 0, 6, .inl (fun _ => 0))), (q_6, .inl (cy 0, 1200, .inl (fun _ => 0)))] := hD
  refine lv_aload_n hx hb dX10_init_53 rfl (lv_at hl 0 rfl) ?_
  refine lv_sipush (v := 800) hx hb dX10_init_54 (by decide) ?_
  refine gz_newa (atype := .byte) (t0 := 1) (a0 := (800, .inl (fun _ => 0))) hx hb rfl (fun _ _ h9 => h9) (hts _ gm_46) rfl hK hP hD hS hA (fun _ => rfl) (by decide) (by decide) (Nat.le_of_ble_eq_true rfl) (Nat.le_of_ble_eq_true rfl) (Nat.le_of_ble_eq_true rfl) dX10_init_57 (fun q_7 H hP hD hS => ?_)
  have hP : va_P G vwCl [(h0, .inr (10, [.int 0, .ref q_1, .ref q_2, .ref q_3, .ref q_4, .ref q_5, .ref q_6, .int 0, .null, .int 0, .int 0, .int 0, .int 0, .int 0, .int 0, .int 0, .int 0, .long 0, .int 0, .int 0, .null, .null, .null, .null, .null, .null, .null, .null, .int 0, .int 0, .int 0, .null, .null, .null, .null, .null, .null, .int 0, .null, .null, .null, .null, .null, .null, .null, .null, .null, .null, .null, .null, .null, .null, .null, .null, .null, .int 0, .int 0, .int 0, .int 0])), (q_1, .inl (cy 2, 6, .inl (fun _ => 0))), (q_2, .inl (cy 0, 6, .inl (fun _ => 0))), (q_3, .inl (cy 0, 6, .inl (fun _ => 0))), (q_4, .inl (cy 0, 6, .inl (fun _ => 0))), (q_5, .inl (cy 0, 6, .inl (fun _ => 0))), (q_6, .inl (cy 0, 1200, .inl (fun _ => 0))), (q_7, .inl (cy 1, 800, .inl (fun _ => 0)))] H := hP
  have hD : va_D A [(h0, .inr (10, [.int 0, .ref q_1, .ref q_2, .ref q_3, .ref q_4, .ref q_5, .ref q_6, .int 0, .null, .int 0, .int 0, .int 0, .int 0, .int 0, .int 0, .int 0, .int 0, .long 0, .int 0, .int 0, .null, .null, .null, .null, .null, .null, .null, .null, .int 0, .int 0, .int 0, .null, .null, .null, .null, .null, .null, .int 0, .null, .null, .null, .null, .null, .null, .null, .null, .null, .null, .null, .null, .null, .null, .null, .null, .null, .int 0, .int 0, .int 0, .int 0])), (q_1, .inl (cy 2, 6, .inl (fun _ => 0))), (q_2, .inl (cy 0, 6, .inl (fun _ => 0))), (q_3, .inl (cy 0, 6, .inl (fun _ => 0))), (q_4, .inl (cy 0, 6, .inl (fun _ => 0))), (q_5, .inl (cy 0, 6, .inl (fun _ => 0))), (q_6, .inl (cy 0, 1200, .inl (fun _ => 0))), (q_7, .inl (cy 1, 800, .inl (fun _ => 0)))] := hD
  refine W.widen (k := 7) (n := 2030) (Nat.le_of_ble_eq_true rfl) (Nat.le_of_ble_eq_true rfl) ?_
  refine va_putF (ci := 10) (v := .ref q_7) (ty := .array .byte) (C := RX10) (T := TX10) (N := 59) hx hb hts inX10 tyX10 tyX10_ok nmX10 hown hK hP hD hS 0 rfl rfl 8 (by decide) (hts _ gm_909) (fun _ h9 => h9) rfl hin rfl (by decide +kernel) rfl rfl (Nat.le_of_ble_eq_true rfl) dX10_init_59 (fun H locs hP hD hS => ?_)
  have hP : va_P G vwCl [(h0, .inr (10, [.int 0, .ref q_1, .ref q_2, .ref q_3, .ref q_4, .ref q_5, .ref q_6, .int 0, .ref q_7, .int 0, .int 0, .int 0, .int 0, .int 0, .int 0, .int 0, .int 0, .long 0, .int 0, .int 0, .null, .null, .null, .null, .null, .null, .null, .null, .int 0, .int 0, .int 0, .null, .null, .null, .null, .null, .null, .int 0, .null, .null, .null, .null, .null, .null, .null, .null, .null, .null, .null, .null, .null, .null, .null, .null, .null, .int 0, .int 0, .int 0, .int 0])), (q_1, .inl (cy 2, 6, .inl (fun _ => 0))), (q_2, .inl (cy 0, 6, .inl (fun _ => 0))), (q_3, .inl (cy 0, 6, .inl (fun _ => 0))), (q_4, .inl (cy 0, 6, .inl (fun _ => 0))), (q_5, .inl (cy 0, 6, .inl (fun _ => 0))), (q_6, .inl (cy 0, 1200, .inl (fun _ => 0))), (q_7, .inl (cy 1, 800, .inl (fun _ => 0)))] H := hP
  have hD : va_D A [(h0, .inr (10, [.int 0, .ref q_1, .ref q_2, .ref q_3, .ref q_4, .ref q_5, .ref q_6, .int 0, .ref q_7, .int 0, .int 0, .int 0, .int 0, .int 0, .int 0, .int 0, .int 0, .long 0, .int 0, .int 0, .null, .null, .null, .null, .null, .null, .null, .null, .int 0, .int 0, .int 0, .null, .null, .null, .null, .null, .null, .int 0, .null, .null, .null, .null, .null, .null, .null, .null, .null, .null, .null, .null, .null, .null, .null, .null, .null, .int 0, .int 0, .int 0, .int 0])), (q_1, .inl (cy 2, 6, .inl (fun _ => 0))), (q_2, .inl (cy 0, 6, .inl (fun _ => 0))), (q_3, .inl (cy 0, 6, .inl (fun _ => 0))), (q_4, .inl (cy 0, 6, .inl (fun _ => 0))), (q_5, .inl (cy 0, 6, .inl (fun _ => 0))), (q_6, .inl (cy 0, 1200, .inl (fun _ => 0))), (q_7, .inl (cy 1, 800, .inl (fun _ => 0)))] := hD
  refine lv_aload_n hx hb dX10_init_62 rfl (lv_at hl 0 rfl) ?_
  refine lv_bipush (v := 48) hx hb dX10_init_63 (by decide) ?_
  refine gz_newa (atype := .int) (t0 := 0) (a0 := (48, .inl (fun _ => 0))) hx hb rfl (fun _ _ h9 => h9) (hts _ gm_98) rfl hK hP hD hS hA (fun _ => rfl) (by decide) (by decide) (Nat.le_of_ble_eq_true rfl) (Nat.le_of_ble_eq_true rfl) (Nat.le_of_ble_eq_true rfl) dX10_init_65 (fun q_8 H hP hD hS => ?_)
  have hP : va_P G vwCl [(h0, .inr (10, [.int 0, .ref q_1, .ref q_2, .ref q_3, .ref q_4, .ref q_5, .ref q_6, .int 0, .ref q_7, .int 0, .int 0, .int 0, .int 0, .int 0, .int 0, .int 0, .int 0, .long 0, .int 0, .int 0, .null, .null, .null, .null, .null, .null, .null, .null, .int 0, .int 0, .int 0, .null, .null, .null, .null, .null, .null, .int 0, .null, .null, .null, .null, .null, .null, .null, .null, .null, .null, .null, .null, .null, .null, .null, .null, .null, .int 0, .int 0, .int 0, .int 0])), (q_1, .inl (cy 2, 6, .inl (fun _ => 0))), (q_2, .inl (cy 0, 6, .inl (fun _ => 0))), (q_3, .inl (cy 0, 6, .inl (fun _ => 0))), (q_4, .inl (cy 0, 6, .inl (fun _ => 0))), (q_5, .inl (cy 0, 6, .inl (fun _ => 0))), (q_6, .inl (cy 0, 1200, .inl (fun _ => 0))), (q_7, .inl (cy 1, 800, .inl (fun _ => 0))), (q_8, .inl (cy 0, 48, .inl (fun _ => 0)))] H := hP
  have hD : va_D A [(h0, .inr (10, [.int 0, .ref q_1, .ref q_2, .ref q_3, .ref q_4, .ref q_5, .ref q_6, .int 0, .ref q_7, .int 0, .int 0, .int 0, .int 0, .int 0, .int 0, .int 0, .int 0, .long 0, .int 0, .int 0, .null, .null, .null, .null, .null, .null, .null, .null, .int 0, .int 0, .int 0, .null, .null, .null, .null, .null, .null, .int 0, .null, .null, .null, .null, .null, .null, .null, .null, .null, .null, .null, .null, .null, .null, .null, .null, .null, .int 0, .int 0, .int 0, .int 0])), (q_1, .inl (cy 2, 6, .inl (fun _ => 0))), (q_2, .inl (cy 0, 6, .inl (fun _ => 0))), (q_3, .inl (cy 0, 6, .inl (fun _ => 0))), (q_4, .inl (cy 0, 6, .inl (fun _ => 0))), (q_5, .inl (cy 0, 6, .inl (fun _ => 0))), (q_6, .inl (cy 0, 1200, .inl (fun _ => 0))), (q_7, .inl (cy 1, 800, .inl (fun _ => 0))), (q_8, .inl (cy 0, 48, .inl (fun _ => 0)))] := hD
  refine W.widen (k := 8) (n := 2078) (Nat.le_of_ble_eq_true rfl) (Nat.le_of_ble_eq_true rfl) ?_
  refine va_putF (ci := 10) (v := .ref q_8) (ty := .array .int) (C := RX10) (T := TX10) (N := 59) hx hb hts inX10 tyX10 tyX10_ok nmX10 hown hK hP hD hS 0 rfl rfl 20 (by decide) (hts _ gm_921) (fun _ h9 => h9) rfl hin rfl (by decide +kernel) rfl rfl (Nat.le_of_ble_eq_true rfl) dX10_init_67 (fun H locs hP hD hS => ?_)
  have hP : va_P G vwCl [(h0, .inr (10, [.int 0, .ref q_1, .ref q_2, .ref q_3, .ref q_4, .ref q_5, .ref q_6, .int 0, .ref q_7, .int 0, .int 0, .int 0, .int 0, .int 0, .int 0, .int 0, .int 0, .long 0, .int 0, .int 0, .ref q_8, .null, .null, .null, .null, .null, .null, .null, .int 0, .int 0, .int 0, .null, .null, .null, .null, .null, .null, .int 0, .null, .null, .null, .null, .null, .null, .null, .null, .null, .null, .null, .null, .null, .null, .null, .null, .null, .int 0, .int 0, .int 0, .int 0])), (q_1, .inl (cy 2, 6, .inl (fun _ => 0))), (q_2, .inl (cy 0, 6, .inl (fun _ => 0))), (q_3, .inl (cy 0, 6, .inl (fun _ => 0))), (q_4, .inl (cy 0, 6, .inl (fun _ => 0))), (q_5, .inl (cy 0, 6, .inl (fun _ => 0))), (q_6, .inl (cy 0, 1200, .inl (fun _ => 0))), (q_7, .inl (cy 1, 800, .inl (fun _ => 0)))] H := va_P.sub hP [0, 1, 2, 3, 4, 5, 6, 7] rfl
  have hD : va_D A [(h0, .inr (10, [.int 0, .ref q_1, .ref q_2, .ref q_3, .ref q_4, .ref q_5, .ref q_6, .int 0, .ref q_7, .int 0, .int 0, .int 0, .int 0, .int 0, .int 0, .int 0, .int 0, .long 0, .int 0, .int 0, .ref q_8, .null, .null, .null, .null, .null, .null, .null, .int 0, .int 0, .int 0, .null, .null, .null, .null, .null, .null, .int 0, .null, .null, .null, .null, .null, .null, .null, .null, .null, .null, .null, .null, .null, .null, .null, .null, .null, .int 0, .int 0, .int 0, .int 0])), (q_1, .inl (cy 2, 6, .inl (fun _ => 0))), (q_2, .inl (cy 0, 6, .inl (fun _ => 0))), (q_3, .inl (cy 0, 6, .inl (fun _ => 0))), (q_4, .inl (cy 0, 6, .inl (fun _ => 0))), (q_5, .inl (cy 0, 6, .inl (fun _ => 0))), (q_6, .inl (cy 0, 1200, .inl (fun _ => 0))), (q_7, .inl (cy 1, 800, .inl (fun _ => 0)))] := va_D.sub hD [0, 1, 2, 3, 4, 5, 6, 7] (by decide) rfl
  refine lv_aload_n hx hb dX10_init_70 rfl (lv_at hl 0 rfl) ?_
  refine lv_bipush (v := 48) hx hb dX10_init_71 (by decide) ?_
  refine gz_newa (atype := .int) (t0 := 0) (a0 := (48, .inl (fun _ => 0))) hx hb rfl (fun _ _ h9 => h9) (hts _ gm_98) rfl hK hP hD hS hA (fun _ => rfl) (by decide) (by decide) (Nat.le_of_ble_eq_true rfl) (Nat.le_of_ble_eq_true rfl) (Nat.le_of_ble_eq_true rfl) dX10_init_73 (fun q_9 H hP hD hS => ?_)
  have hP : va_P G vwCl [(h0, .inr (10, [.int 0, .ref q_1, .ref q_2, .ref q_3, .ref q_4, .ref q_5, .ref q_6, .int 0, .ref q_7, .int 0, .int 0, .int 0, .int 0, .int 0, .int 0, .int 0, .int 0, .long 0, .int 0, .int 0, .ref q_8, .null, .null, .null, .null, .null, .null, .null, .int 0, .int 0, .int 0, .null, .null, .null, .null, .null, .null, .int 0, .null, .null, .null, .null, .null, .null, .null, .null, .null, .null, .null, .null, .null, .null, .null, .null, .null, .int 0, .int 0, .int 0, .int 0])), (q_1, .inl (cy 2, 6, .inl (fun _ => 0))), (q_2, .inl (cy 0, 6, .inl (fun _ => 0))), (q_3, .inl (cy 0, 6, .inl (fun _ => 0))), (q_4, .inl (cy 0, 6, .inl (fun _ => 0))), (q_5, .inl (cy 0, 6, .inl (fun _ => 0))), (q_6, .inl (cy 0, 1200, .inl (fun _ => 0))), (q_7, .inl (cy 1, 800, .inl (fun _ => 0))), (q_9, .inl (cy 0, 48, .inl (fun _ => 0)))] H := hP
  have hD : va_D A [(h0, .inr (10, [.int 0, .ref q_1, .ref q_2, .ref q_3, .ref q_4, .ref q_5, .ref q_6, .int 0, .ref q_7, .int 0, .int 0, .int 0, .int 0, .int 0, .int 0, .int 0, .int 0, .long 0, .int 0, .int 0, .ref q_8, .null, .null, .null, .null, .null, .null, .null, .int 0, .int 0, .int 0, .null, .null, .null, .null, .null, .null, .int 0, .null, .null, .null, .null, .null, .null, .null, .null, .null, .null, .null, .null, .null, .null, .null, .null, .null, .int 0, .int 0, .int 0, .int 0])), (q_1, .inl (cy 2, 6, .inl (fun _ => 0))), (q_2, .inl (cy 0, 6, .inl (fun _ => 0))), (q_3, .inl (cy 0, 6, .inl (fun _ => 0))), (q_4, .inl (cy 0, 6, .inl (fun _ => 0))), (q_5, .inl (cy 0, 6, .inl (fun _ => 0))), (q_6, .inl (cy 0, 1200, .inl (fun _ => 0))), (q_7, .inl (cy 1, 800, .inl (fun _ => 0))), (q_9, .inl (cy 0, 48, .inl (fun _ => 0)))] := hD
  refine W.widen (k := 9) (n := 2126) (Nat.le_of_ble_eq_true rfl) (Nat.le_of_ble_eq_true rfl) ?_
  refine va_putF (ci := 10) (v := .ref q_9) (ty := .array .int) (C := RX10) (T := TX10) (N := 59) hx hb hts inX10 tyX10 tyX10_ok nmX10 hown hK hP hD hS 0 rfl rfl 21 (by decide) (hts _ gm_922) (fun _ h9 => h9) rfl hin rfl (by decide +kernel) rfl rfl (Nat.le_of_ble_eq_true rfl) dX10_init_75 (fun H locs hP hD hS => ?_)
  have hP : va_P G vwCl [(h0, .inr (10, [.int 0, .ref q_1, .ref q_2, .ref q_3, .ref q_4, .ref q_5, .ref q_6, .int 0, .ref q_7, .int 0, .int 0, .int 0, .int 0, .int 0, .int 0, .int 0, .int 0, .long 0, .int 0, .int 0, .ref q_8, .ref q_9, .null, .null, .null, .null, .null, .null, .int 0, .int 0, .int 0, .null, .null, .null, .null, .null, .null, .int 0, .null, .null, .null, .null, .null, .null, .null, .null, .null, .null, .null, .null, .null, .null, .null, .null, .null, .int 0, .int 0, .int 0, .int 0])), (q_1, .inl (cy 2, 6, .inl (fun _ => 0))), (q_2, .inl (cy 0, 6, .inl (fun _ => 0))), (q_3, .inl (cy 0, 6, .inl (fun _ => 0))), (q_4, .inl (cy 0, 6, .inl (fun _ => 0))), (q_5, .inl (cy 0, 6, .inl (fun _ => 0))), (q_6, .inl (cy 0, 1200, .inl (fun _ => 0))), (q_7, .inl (cy 1, 800, .inl (fun _ => 0)))] H := va_P.sub hP [0, 1, 2, 3, 4, 5, 6, 7] rfl
  have hD : va_D A [(h0, .inr (10, [.int 0, .ref q_1, .ref q_2, .ref q_3, .ref q_4, .ref q_5, .ref q_6, .int 0, .ref q_7, .int 0, .int 0, .int 0, .int 0, .int 0, .int 0, .int 0, .int 0, .long 0, .int 0, .int 0, .ref q_8, .ref q_9, .null, .null, .null, .null, .null, .null, .int 0, .int 0, .int 0, .null, .null, .null, .null, .null, .null, .int 0, .null, .null, .null, .null, .null, .null, .null, .null, .null, .null, .null, .null, .null, .null, .null, .null, .null, .int 0, .int 0, .int 0, .int 0])), (q_1, .inl (cy 2, 6, .inl (fun _ => 0))), (q_2, .inl (cy 0, 6, .inl (fun _ => 0))), (q_3, .inl (cy 0, 6, .inl (fun _ => 0))), (q_4, .inl (cy 0, 6, .inl (fun _ => 0))), (q_5, .inl (cy 0, 6, .inl (fun _ => 0))), (q_6, .inl (cy 0, 1200, .inl (fun _ => 0))), (q_7, .inl (cy 1, 800, .inl (fun _ => 0)))] := va_D.sub hD [0, 1, 2, 3, 4, 5, 6, 7] (by decide) rfl
  refine lv_aload_n hx hb dX10_init_78 rfl (lv_at hl 0 rfl) ?_
  refine lv_bipush (v := 48) hx hb dX10_init_79 (by decide) ?_
  refine gz_newa (atype := .int) (t0 := 0) (a0 := (48, .inl (fun _ => 0))) hx hb rfl (fun _ _ h9 => h9) (hts _ gm_98) rfl hK hP hD hS hA (fun _ => rfl) (by decide) (by decide) (Nat.le_of_ble_eq_true rfl) (Nat.le_of_ble_eq_true rfl) (Nat.le_of_ble_eq_true rfl) dX10_init_81 (fun q_10 H hP hD hS => ?_)
  have hP : va_P G vwCl [(h0, .inr (10, [.int 0, .ref q_1, .ref q_2, .ref q_3, .ref q_4, .ref q_5, .ref q_6, .int 0, .ref q_7, .int 0, .int 0, .int 0, .int 0, .int 0, .int 0, .int 0, .int 0, .long 0, .int 0, .int 0, .ref q_8, .ref q_9, .null, .null, .null, .null, .null, .null, .int 0, .int 0, .int 0, .null, .null, .null, .null, .null, .null, .int 0, .null, .null, .null, .null, .null, .null, .null, .null, .null, .null, .null, .null, .null, .null, .null, .null, .null, .int 0, .int 0, .int 0, .int 0])), (q_1, .inl (cy 2, 6, .inl (fun _ => 0))), (q_2, .inl (cy 0, 6, .inl (fun _ => 0))), (q_3, .inl (cy 0, 6, .inl (fun _ => 0))), (q_4, .inl (cy 0, 6, .inl (fun _ => 0))), (q_5, .inl (cy 0, 6, .inl (fun _ => 0))), (q_6, .inl (cy 0, 1200, .inl (fun _ => 0))), (q_7, .inl (cy 1, 800, .inl (fun _ => 0))), (q_10, .inl (cy 0, 48, .inl (fun _ => 0)))] H := hP
  have hD : va_D A [(h0, .inr (10, [.int 0, .ref q_1, .ref q_2, .ref q_3, .ref q_4, .ref q_5, .ref q_6, .int 0, .ref q_7, .int 0, .int 0, .int 0, .int 0, .int 0, .int 0, .int 0, .int 0, .long 0, .int 0, .int 0, .ref q_8, .ref q_9, .null, .null, .null, .null, .null, .null, .int 0, .int 0, .int 0, .null, .null, .null, .null, .null, .null, .int 0, .null, .null, .null, .null, .null, .null, .null, .null, .null, .null, .null, .null, .null, .null, .null, .null, .null, .int 0, .int 0, .int 0, .int 0])), (q_1, .inl (cy 2, 6, .inl (fun _ => 0))), (q_2, .inl (cy 0, 6, .inl (fun _ => 0))), (q_3, .inl (cy 0, 6, .inl (fun _ => 0))), (q_4, .inl (cy 0, 6, .inl (fun _ => 0))), (q_5, .inl (cy 0, 6, .inl (fun _ => 0))), (q_6, .inl (cy 0, 1200, .inl (fun _ => 0))), (q_7, .inl (cy 1, 800, .inl (fun _ => 0))), (q_10, .inl (cy 0, 48, .inl (fun _ => 0)))] := hD
  refine W.widen (k := 10) (n := 2174) (Nat.le_of_ble_eq_true rfl) (Nat.le_of_ble_eq_true rfl) ?_
  refine va_putF (ci := 10) (v := .ref q_10) (ty := .array .int) (C := RX10) (T := TX10) (N := 59) hx hb hts inX10 tyX10 tyX10_ok nmX10 hown hK hP hD hS 0 rfl rfl 22 (by decide) (hts _ gm_923) (fun _ h9 => h9) rfl hin rfl (by decide +kernel) rfl rfl (Nat.le_of_ble_eq_true rfl) dX10_init_83 (fun H locs hP hD hS => ?_)
  have hP : va_P G vwCl [(h0, .inr (10, [.int 0, .ref q_1, .ref q_2, .ref q_3, .ref q_4, .ref q_5, .ref q_6, .int 0, .ref q_7, .int 0, .int 0, .int 0, .int 0, .int 0, .int 0, .int 0, .int 0, .long 0, .int 0, .int 0, .ref q_8, .ref q_9, .ref q_10, .null, .null, .null, .null, .null, .int 0, .int 0, .int 0, .null, .null, .null, .null, .null, .null, .int 0, .null, .null, .null, .null, .null, .null, .null, .null, .null, .null, .null, .null, .null, .null, .null, .null, .null, .int 0, .int 0, .int 0, .int 0])), (q_1, .inl (cy 2, 6, .inl (fun _ => 0))), (q_2, .inl (cy 0, 6, .inl (fun _ => 0))), (q_3, .inl (cy 0, 6, .inl (fun _ => 0))), (q_4, .inl (cy 0, 6, .inl (fun _ => 0))), (q_5, .inl (cy 0, 6, .inl (fun _ => 0))), (q_6, .inl (cy 0, 1200, .inl (fun _ => 0))), (q_7, .inl (cy 1, 800, .inl (fun _ => 0)))] H := va_P.sub hP [0, 1, 2, 3, 4, 5, 6, 7] rfl
  have hD : va_D A [(h0, .inr (10, [.int 0, .ref q_1, .ref q_2, .ref q_3, .ref q_4, .ref q_5, .ref q_6, .int 0, .ref q_7, .int 0, .int 0, .int 0, .int 0, .int 0, .int 0, .int 0, .int 0, .long 0, .int 0, .int 0, .ref q_8, .ref q_9, .ref q_10, .null, .null, .null, .null, .null, .int 0, .int 0, .int 0, .null, .null, .null, .null, .null, .null, .int 0, .null, .null, .null, .null, .null, .null, .null, .null, .null, .null, .null, .null, .null, .null, .null, .null, .null, .int 0, .int 0, .int 0, .int 0])), (q_1, .inl (cy 2, 6, .inl (fun _ => 0))), (q_2, .inl (cy 0, 6, .inl (fun _ => 0))), (q_3, .inl (cy 0, 6, .inl (fun _ => 0))), (q_4, .inl (cy 0, 6, .inl (fun _ => 0))), (q_5, .inl (cy 0, 6, .inl (fun _ => 0))), (q_6, .inl (cy 0, 1200, .inl (fun _ => 0))), (q_7, .inl (cy 1, 800, .inl (fun _ => 0)))] := va_D.sub hD [0, 1, 2, 3, 4, 5, 6, 7] (by decide) rfl
  refine lv_aload_n hx hb dX10_init_86 rfl (lv_at hl 0 rfl) ?_
  refine lv_bipush (v := 48) hx hb dX10_init_87 (by decide) ?_
  refine gz_newa (atype := .int) (t0 := 0) (a0 := (48, .inl (fun _ => 0))) hx hb rfl (fun _ _ h9 => h9) (hts _ gm_98) rfl hK hP hD hS hA (fun _ => rfl) (by decide) (by decide) (Nat.le_of_ble_eq_true rfl) (Nat.le_of_ble_eq_true rfl) (Nat.le_of_ble_eq_true rfl) dX10_init_89 (fun q_11 H hP hD hS => ?_)
  have hP : va_P G vwCl [(h0, .inr (10, [.int 0, .ref q_1, .ref q_2, .ref q_3, .ref q_4, .ref q_5, .ref q_6, .int 0, .ref q_7, .int 0, .int 0, .int 0, .int 0, .int 0, .int 0, .int 0, .int 0, .long 0, .int 0, .int 0, .ref q_8, .ref q_9, .ref q_10, .null, .null, .null, .null, .null, .int 0, .int 0, .int 0, .null, .null, .null, .null, .null, .null, .int 0, .null, .null, .null, .null, .null, .null, .null, .null, .null, .null, .null, .null, .null, .null, .null, .null, .null, .int 0, .int 0, .int 0, .int 0])), (q_1, .inl (cy 2, 6, .inl (fun _ => 0))), (q_2, .inl (cy 0, 6, .inl (fun _ => 0))), (q_3, .inl (cy 0, 6, .inl (fun _ => 0))), (q_4, .inl (cy 0, 6, .inl (fun _ => 0))), (q_5, .inl (cy 0, 6, .inl (fun _ => 0))), (q_6, .inl (cy 0, 1200, .inl (fun _ => 0))), (q_7, .inl (cy 1, 800, .inl (fun _ => 0))), (q_11, .inl (cy 0, 48, .inl (fun _ => 0)))] H := hP
  have hD : va_D A [(h0, .inr (10, [.int 0, .ref q_1, .ref q_2, .ref q_3, .ref q_4, .ref q_5, .ref q_6, .int 0, .ref q_7, .int 0, .int 0, .int 0, .int 0, .int 0, .int 0, .int 0, .int 0, .long 0, .int 0, .int 0, .ref q_8, .ref q_9, .ref q_10, .null, .null, .null, .null, .null, .int 0, .int 0, .int 0, .null, .null, .null, .null, .null, .null, .int 0, .null, .null, .null, .null, .null, .null, .null, .null, .null, .null, .null, .null, .null, .null, .null, .null, .null, .int 0, .int 0, .int 0, .int 0])), (q_1, .inl (cy 2, 6, .inl (fun _ => 0))), (q_2, .inl (cy 0, 6, .inl (fun _ => 0))), (q_3, .inl (cy 0, 6, .inl (fun _ => 0))), (q_4, .inl (cy 0, 6, .inl (fun _ => 0))), (q_5, .inl (cy 0, 6, .inl (fun _ => 0))), (q_6, .inl (cy 0, 1200, .inl (fun _ => 0))), (q_7, .inl (cy 1, 800, .inl (fun _ => 0))), (q_11, .inl (cy 0, 48, .inl (fun _ => 0)))] := hD
  refine W.widen (k := 11) (n := 2222) (Nat.le_of_ble_eq_true rfl) (Nat.le_of_ble_eq_true rfl) ?_
  refine va_putF (ci := 10) (v := .ref q_11) (ty := .array .int) (C := RX10) (T := TX10) (N := 59) hx hb hts inX10 tyX10 tyX10_ok nmX10 hown hK hP hD hS 0 rfl rfl 23 (by decide) (hts _ gm_924) (fun _ h9 => h9) rfl hin rfl (by decide +kernel) rfl rfl (Nat.le_of_ble_eq_true rfl) dX10_init_91 (fun H locs hP hD hS => ?_)
  have hP : va_P G vwCl [(h0, .inr (10, [.int 0, .ref q_1, .ref q_2, .ref q_3, .ref q_4, .ref q_5, .ref q_6, .int 0, .ref q_7, .int 0, .int 0, .int 0, .int 0, .int 0, .int 0, .int 0, .int 0, .long 0, .int 0, .int 0, .ref q_8, .ref q_9, .ref q_10, .ref q_11, .null, .null, .null, .null, .int 0, .int 0, .int 0, .null, .null, .null, .null, .null, .null, .int 0, .null, .null, .null, .null, .null, .null, .null, .null, .null, .null, .null, .null, .null, .null, .null, .null, .null, .int 0, .int 0, .int 0, .int 0])), (q_1, .inl (cy 2, 6, .inl (fun _ => 0))), (q_2, .inl (cy 0, 6, .inl (fun _ => 0))), (q_3, .inl (cy 0, 6, .inl (fun _ => 0))), (q_4, .inl (cy 0, 6, .inl (fun _ => 0))), (q_5, .inl (cy 0, 6, .inl (fun _ => 0))), (q_6, .inl (cy 0, 1200, .inl (fun _ => 0))), (q_7, .inl (cy 1, 800, .inl (fun _ => 0)))] H := va_P.sub hP [0, 1, 2, 3, 4, 5, 6, 7] rfl
  have hD : va_D A [(h0, .inr (10, [.int 0, .ref q_1, .ref q_2, .ref q_3, .ref q_4, .ref q_5, .ref q_6, .int 0, .ref q_7, .int 0, .int 0, .int 0, .int 0, .int 0, .int 0, .int 0, .int 0, .long 0, .int 0, .int 0, .ref q_8, .ref q_9, .ref q_10, .ref q_11, .null, .null, .null, .null, .int 0, .int 0, .int 0, .null, .null, .null, .null, .null, .null, .int 0, .null, .null, .null, .null, .null, .null, .null, .null, .null, .null, .null, .null, .null, .null, .null, .null, .null, .int 0, .int 0, .int 0, .int 0])), (q_1, .inl (cy 2, 6, .inl (fun _ => 0))), (q_2, .inl (cy 0, 6, .inl (fun _ => 0))), (q_3, .inl (cy 0, 6, .inl (fun _ => 0))), (q_4, .inl (cy 0, 6, .inl (fun _ => 0))), (q_5, .inl (cy 0, 6, .inl (fun _ => 0))), (q_6, .inl (cy 0, 1200, .inl (fun _ => 0))), (q_7, .inl (cy 1, 800, .inl (fun _ => 0)))] := va_D.sub hD [0, 1, 2, 3, 4, 5, 6, 7] (by decide) rfl
  refine lv_aload_n hx hb dX10_init_94 rfl (lv_at hl 0 rfl) ?_
  refine lv_bipush (v := 48) hx hb dX10_init_95 (by decide) ?_
  refine gz_newa (atype := .int) (t0 := 0) (a0 := (48, .inl (fun _ => 0))) hx hb rfl (fun _ _ h9 => h9) (hts _ gm_98) rfl hK hP hD hS hA (fun _ => rfl) (by decide) (by decide) (Nat.le_of_ble_eq_true rfl) (Nat.le_of_ble_eq_true rfl) (Nat.le_of_ble_eq_true rfl) dX10_init_97 (fun q_12 H hP hD hS => ?_)
  have hP : va_P G vwCl [(h0, .inr (10, [.int 0, .ref q_1, .ref q_2, .ref q_3, .ref q_4, .ref q_5, .ref q_6, .int 0, .ref q_7, .int 0, .int 0, .int 0, .int 0, .int 0, .int 0, .int 0, .int 0, .long 0, .int 0, .int 0, .ref q_8, .ref q_9, .ref q_10, .ref q_11, .null, .null, .null, .null, .int 0, .int 0, .int 0, .null, .null, .null, .null, .null, .null, .int 0, .null, .null, .null, .null, .null, .null, .null, .null, .null, .null, .null, .null, .null, .null, .null, .null, .null, .int 0, .int 0, .int 0, .int 0])), (q_1, .inl (cy 2, 6, .inl (fun _ => 0))), (q_2, .inl (cy 0, 6, .inl (fun _ => 0))), (q_3, .inl (cy 0, 6, .inl (fun _ => 0))), (q_4, .inl (cy 0, 6, .inl (fun _ => 0))), (q_5, .inl (cy 0, 6, .inl (fun _ => 0))), (q_6, .inl (cy 0, 1200, .inl (fun _ => 0))), (q_7, .inl (cy 1, 800, .inl (fun _ => 0))), (q_12, .inl (cy 0, 48, .inl (fun _ => 0)))] H := hP
  have hD : va_D A [(h0, .inr (10, [.int 0, .ref q_1, .ref q_2, .ref q_3, .ref q_4, .ref q_5, .ref q_6, .int 0, .ref q_7, .int 0, .int 0, .int 0, .int 0, .int 0, .int 0, .int 0, .int 0, .long 0, .int 0, .int 0, .ref q_8, .ref q_9, .ref q_10, .ref q_11, .null, .null, .null, .null, .int 0, .int 0, .int 0, .null, .null, .null, .null, .null, .null, .int 0, .null, .null, .null, .null, .null, .null, .null, .null, .null, .null, .null, .null, .null, .null, .null, .null, .null, .int 0, .int 0, .int 0, .int 0])), (q_1, .inl (cy 2, 6, .inl (fun _ => 0))), (q_2, .inl (cy 0, 6, .inl (fun _ => 0))), (q_3, .inl (cy 0, 6, .inl (fun _ => 0))), (q_4, .inl (cy 0, 6, .inl (fun _ => 0))), (q_5, .inl (cy 0, 6, .inl (fun _ => 0))), (q_6, .inl (cy 0, 1200, .inl (fun _ => 0))), (q_7, .inl (cy 1, 800, .inl (fun _ => 0))), (q_12, .inl (cy 0, 48, .inl (fun _ => 0)))] := hD
  refine W.widen (k := 12) (n := 2270) (Nat.le_of_ble_eq_true rfl) (Nat.le_of_ble_eq_true rfl) ?_
  refine va_putF (ci := 10) (v := .ref q_12) (ty := .array .int) (C := RX10) (T := TX10) (N := 59) hx hb hts inX10 tyX10 tyX10_ok nmX10 hown hK hP hD hS 0 rfl rfl 24 (by decide) (hts _ gm_925) (fun _ h9 => h9) rfl hin rfl (by decide +kernel) rfl rfl (Nat.le_of_ble_eq_true rfl) dX10_init_99 (fun H locs hP hD hS => ?_)
  have hP : va_P G vwCl [(h0, .inr (10, [.int 0, .ref q_1, .ref q_2, .ref q_3, .ref q_4, .ref q_5, .ref q_6, .int 0, .ref q_7, .int 0, .int 0, .int 0, .int 0, .int 0, .int 0, .int 0, .int 0, .long 0, .int 0, .int 0, .ref q_8, .ref q_9, .ref q_10, .ref q_11, .ref q_12, .null, .null, .null, .int 0, .int 0, .int 0, .null, .null, .null, .null, .null, .null, .int 0, .null, .null, .null, .null, .null, .null, .null, .null, .null, .null, .null, .null, .null, .null, .null, .null, .null, .int 0, .int 0, .int 0, .int 0])), (q_1, .inl (cy 2, 6, .inl (fun _ => 0))), (q_2, .inl (cy 0, 6, .inl (fun _ => 0))), (q_3, .inl (cy 0, 6, .inl (fun _ => 0))), (q_4, .inl (cy 0, 6, .inl (fun _ => 0))), (q_5, .inl (cy 0, 6, .inl (fun _ => 0))), (q_6, .inl (cy 0, 1200, .inl (fun _ => 0))), (q_7, .inl (cy 1, 800, .inl (fun _ => 0)))] H := va_P.sub hP [0, 1, 2, 3, 4, 5, 6, 7] rfl
  have hD : va_D A [(h0, .inr (10, [.int 0, .ref q_1, .ref q_2, .ref q_3, .ref q_4, .ref q_5, .ref q_6, .int 0, .ref q_7, .int 0, .int 0, .int 0, .int 0, .int 0, .int 0, .int 0, .int 0, .long 0, .int 0, .int 0, .ref q_8, .ref q_9, .ref q_10, .ref q_11, .ref q_12, .null, .null, .null, .int 0, .int 0, .int 0, .null, .null, .null, .null, .null, .null, .int 0, .null, .null, .null, .null, .null, .null, .null, .null, .null, .null, .null, .null, .null, .null, .null, .null, .null, .int 0, .int 0, .int 0, .int 0])), (q_1, .inl (cy 2, 6, .inl (fun _ => 0))), (q_2, .inl (cy 0, 6, .inl (fun _ => 0))), (q_3, .inl (cy 0, 6, .inl (fun _ => 0))), (q_4, .inl (cy 0, 6, .inl (fun _ => 0))), (q_5, .inl (cy 0, 6, .inl (fun _ => 0))), (q_6, .inl (cy 0, 1200, .inl (fun _ => 0))), (q_7, .inl (cy 1, 800, .inl (fun _ => 0)))] := va_D.sub hD [0, 1, 2, 3, 4, 5, 6, 7] (by decide) rfl
  refine lv_aload_n hx hb dX10_init_102 rfl (lv_at hl 0 rfl) ?_
  refine lv_bipush (v := 48) hx hb dX10_init_103 (by decide) ?_
  refine gz_newa (atype := .int) (t0 := 0) (a0 := (48, .inl (fun _ => 0))) hx hb rfl (fun _ _ h9 => h9) (hts _ gm_98) rfl hK hP hD hS hA (fun _ => rfl) (by decide) (by decide) (Nat.le_of_ble_eq_true rfl) (Nat.le_of_ble_eq_true rfl) (Nat.le_of_ble_eq_true rfl) dX10_init_105 (fun q_13 H hP hD hS => ?_)
  have hP : va_P G vwCl [(h0, .inr (10, [.int 0, .ref q_1, .ref q_2, .ref q_3, .ref q_4, .ref q_5, .ref q_6, .int 0, .ref q_7, .int 0, .int 0, .int 0, .int 0, .int 0, .int 0, .int 0, .int 0, .long 0, .int 0, .int 0, .ref q_8, .ref q_9, .ref q_10, .ref q_11, .ref q_12, .null, .null, .null, .int 0, .int 0, .int 0, .null, .null, .null, .null, .null, .null, .int 0, .null, .null, .null, .null, .null, .null, .null, .null, .null, .null, .null, .null, .null, .null, .null, .null, .null, .int 0, .int 0, .int 0, .int 0])), (q_1, .inl (cy 2, 6, .inl (fun _ => 0))), (q_2, .inl (cy 0, 6, .inl (fun _ => 0))), (q_3, .inl (cy 0, 6, .inl (fun _ => 0))), (q_4, .inl (cy 0, 6, .inl (fun _ => 0))), (q_5, .inl (cy 0, 6, .inl (fun _ => 0))), (q_6, .inl (cy 0, 1200, .inl (fun _ => 0))), (q_7, .inl (cy 1, 800, .inl (fun _ => 0))), (q_13, .inl (cy 0, 48, .inl (fun _ => 0)))] H := hP
  have hD : va_D A [(h0, .inr (10, [.int 0, .ref q_1, .ref q_2, .ref q_3, .ref q_4, .ref q_5, .ref q_6, .int 0, .ref q_7, .int 0, .int 0, .int 0, .int 0, .int 0, .int 0, .int 0, .int 0, .long 0, .int 0, .int 0, .ref q_8, .ref q_9, .ref q_10, .ref q_11, .ref q_12, .null, .null, .null, .int 0, .int 0, .int 0, .null, .null, .null, .null, .null, .null, .int 0, .null, .null, .null, .null, .null, .null, .null, .null, .null, .null, .null, .null, .null, .null, .null, .null, .null, .int 0, .int 0, .int 0, .int 0])), (q_1, .inl (cy 2, 6, .inl (fun _ => 0))), (q_2, .inl (cy 0, 6, .inl (fun _ => 0))), (q_3, .inl (cy 0, 6, .inl (fun _ => 0))), (q_4, .inl (cy 0, 6, .inl (fun _ => 0))), (q_5, .inl (cy 0, 6, .inl (fun _ => 0))), (q_6, .inl (cy 0, 1200, .inl (fun _ => 0))), (q_7, .inl (cy 1, 800, .inl (fun _ => 0))), (q_13, .inl (cy 0, 48, .inl (fun _ => 0)))] := hD
  refine W.widen (k := 13) (n := 2318) (Nat.le_of_ble_eq_true rfl) (Nat.le_of_ble_eq_true rfl) ?_
  refine va_putF (ci := 10) (v := .ref q_13) (ty := .array .int) (C := RX10) (T := TX10) (N := 59) hx hb hts inX10 tyX10 tyX10_ok nmX10 hown hK hP hD hS 0 rfl rfl 25 (by decide) (hts _ gm_926) (fun _ h9 => h9) rfl hin rfl (by decide +kernel) rfl rfl (Nat.le_of_ble_eq_true rfl) dX10_init_107 (fun H locs hP hD hS => ?_)
  have hP : va_P G vwCl [(h0, .inr (10, [.int 0, .ref q_1, .ref q_2, .ref q_3, .ref q_4, .ref q_5, .ref q_6, .int 0, .ref q_7, .int 0, .int 0, .int 0, .int 0, .int 0, .int 0, .int 0, .int 0, .long 0, .int 0, .int 0, .ref q_8, .ref q_9, .ref q_10, .ref q_11, .ref q_12, .ref q_13, .null, .null, .int 0, .int 0, .int 0, .null, .null, .null, .null, .null, .null, .int 0, .null, .null, .null, .null, .null, .null, .null, .null, .null, .null, .null, .null, .null, .null, .null, .null, .null, .int 0, .int 0, .int 0, .int 0])), (q_1, .inl (cy 2, 6, .inl (fun _ => 0))), (q_2, .inl (cy 0, 6, .inl (fun _ => 0))), (q_3, .inl (cy 0, 6, .inl (fun _ => 0))), (q_4, .inl (cy 0, 6, .inl (fun _ => 0))), (q_5, .inl (cy 0, 6, .inl (fun _ => 0))), (q_6, .inl (cy 0, 1200, .inl (fun _ => 0))), (q_7, .inl (cy 1, 800, .inl (fun _ => 0)))] H := va_P.sub hP [0, 1, 2, 3, 4, 5, 6, 7] rfl
  have hD : va_D A [(h0, .inr (10, [.int 0, .ref q_1, .ref q_2, .ref q_3, .ref q_4, .ref q_5, .ref q_6, .int 0, .ref q_7, .int 0, .int 0, .int 0, .int 0, .int 0, .int 0, .int 0, .int 0, .long 0, .int 0, .int 0, .ref q_8, .ref q_9, .ref q_10, .ref q_11, .ref q_12, .ref q_13, .null, .null, .int 0, .int 0, .int 0, .null, .null, .null, .null, .null, .null, .int 0, .null, .null, .null, .null, .null, .null, .null, .null, .null, .null, .null, .null, .null, .null, .null, .null, .null, .int 0, .int 0, .int 0, .int 0])), (q_1, .inl (cy 2, 6, .inl (fun _ => 0))), (q_2, .inl (cy 0, 6, .inl (fun _ => 0))), (q_3, .inl (cy 0, 6, .inl (fun _ => 0))), (q_4, .inl (cy 0, 6, .inl (fun _ => 0))), (q_5, .inl (cy 0, 6, .inl (fun _ => 0))), (q_6, .inl (cy 0, 1200, .inl (fun _ => 0))), (q_7, .inl (cy 1, 800, .inl (fun _ => 0)))] := va_D.sub hD [0, 1, 2, 3, 4, 5, 6, 7] (by decide) rfl
  refine lv_aload_n hx hb dX10_init_110 rfl (lv_at hl 0 rfl) ?_
  refine lv_sipush (v := 384) hx hb dX10_init_111 (by decide) ?_
  refine gz_newa (atype := .int) (t0 := 0) (a0 := (384, .inl (fun _ => 0))) hx hb rfl (fun _ _ h9 => h9) (hts _ gm_98) rfl hK hP hD hS hA (fun _ => rfl) (by decide) (by decide) (Nat.le_of_ble_eq_true rfl) (Nat.le_of_ble_eq_true rfl) (Nat.le_of_ble_eq_true rfl) dX10_init_114 (fun q_14 H hP hD hS => ?_)
  have hP : va_P G vwCl [(h0, .inr (10, [.int 0, .ref q_1, .ref q_2, .ref q_3, .ref q_4, .ref q_5, .ref q_6, .int 0, .ref q_7, .int 0, .int 0, .int 0, .int 0, .int 0, .int 0, .int 0, .int 0, .long 0, .int 0, .int 0, .ref q_8, .ref q_9, .ref q_10, .ref q_11, .ref q_12, .ref q_13, .null, .null, .int 0, .int 0, .int 0, .null, .null, .null, .null, .null, .null, .int 0, .null, .null, .null, .null, .null, .null, .null, .null, .null, .null, .null, .null, .null, .null, .null, .null, .null, .int 0, .int 0, .int 0, .int 0])), (q_1, .inl (cy 2, 6, .inl (fun _ => 0))), (q_2, .inl (cy 0, 6, .inl (fun _ => 0))), (q_3, .inl (cy 0, 6, .inl (fun _ => 0))), (q_4, .inl (cy 0, 6, .inl (fun _ => 0))), (q_5, .inl (cy 0, 6, .inl (fun _ => 0))), (q_6, .inl (cy 0, 1200, .inl (fun _ => 0))), (q_7, .inl (cy 1, 800, .inl (fun _ => 0))), (q_14, .inl (cy 0, 384, .inl (fun _ => 0)))] H := hP
  have hD : va_D A [(h0, .inr (10, [.int 0, .ref q_1, .ref q_2, .ref q_3, .ref q_4, .ref q_5, .ref q_6, .int 0, .ref q_7, .int 0, .int 0, .int 0, .int 0, .int 0, .int 0, .int 0, .int 0, .long 0, .int 0, .int 0, .ref q_8, .ref q_9, .ref q_10, .ref q_11, .ref q_12, .ref q_13, .null, .null, .int 0, .int 0, .int 0, .null, .null, .null, .null, .null, .null, .int 0, .null, .null, .null, .null, .null, .null, .null, .null, .null, .null, .null, .null, .null, .null, .null, .null, .null, .int 0, .int 0, .int 0, .int 0])), (q_1, .inl (cy 2, 6, .inl (fun _ => 0))), (q_2, .inl (cy 0, 6, .inl (fun _ => 0))), (q_3, .inl (cy 0, 6, .inl (fun _ => 0))), (q_4, .inl (cy 0, 6, .inl (fun _ => 0))), (q_5, .inl (cy 0, 6, .inl (fun _ => 0))), (q_6, .inl (cy 0, 1200, .inl (fun _ => 0))), (q_7, .inl (cy 1, 800, .inl (fun _ => 0))), (q_14, .inl (cy 0, 384, .inl (fun _ => 0)))] := hD
  refine W.widen (k := 14) (n := 2702) (Nat.le_of_ble_eq_true rfl) (Nat.le_of_ble_eq_true rfl) ?_
  refine va_putF (ci := 10) (v := .ref q_14) (ty := .array .int) (C := RX10) (T := TX10) (N := 59) hx hb hts inX10 tyX10 tyX10_ok nmX10 hown hK hP hD hS 0 rfl rfl 26 (by decide) (hts _ gm_927) (fun _ h9 => h9) rfl hin rfl (by decide +kernel) rfl rfl (Nat.le_of_ble_eq_true rfl) dX10_init_116 (fun H locs hP hD hS => ?_)
  have hP : va_P G vwCl [(h0, .inr (10, [.int 0, .ref q_1, .ref q_2, .ref q_3, .ref q_4, .ref q_5, .ref q_6, .int 0, .ref q_7, .int 0, .int 0, .int 0, .int 0, .int 0, .int 0, .int 0, .int 0, .long 0, .int 0, .int 0, .ref q_8, .ref q_9, .ref q_10, .ref q_11, .ref q_12, .ref q_13, .ref q_14, .null, .int 0, .int 0, .int 0, .null, .null, .null, .null, .null, .null, .int 0, .null, .null, .null, .null, .null, .null, .null, .null, .null, .null, .null, .null, .null, .null, .null, .null, .null, .int 0, .int 0, .int 0, .int 0])), (q_1, .inl (cy 2, 6, .inl (fun _ => 0))), (q_2, .inl (cy 0, 6, .inl (fun _ => 0))), (q_3, .inl (cy 0, 6, .inl (fun _ => 0))), (q_4, .inl (cy 0, 6, .inl (fun _ => 0))), (q_5, .inl (cy 0, 6, .inl (fun _ => 0))), (q_6, .inl (cy 0, 1200, .inl (fun _ => 0))), (q_7, .inl (cy 1, 800, .inl (fun _ => 0)))] H := va_P.sub hP [0, 1, 2, 3, 4, 5, 6, 7] rfl
  have hD : va_D A [(h0, .inr (10, [.int 0, .ref q_1, .ref q_2, .ref q_3, .ref q_4, .ref q_5, .ref q_6, .int 0, .ref q_7, .int 0, .int 0, .int 0, .int 0, .int 0, .int 0, .int 0, .int 0, .long 0, .int 0, .int 0, .ref q_8, .ref q_9, .ref q_10, .ref q_11, .ref q_12, .ref q_13, .ref q_14, .null, .int 0, .int 0, .int 0, .null, .null, .null, .null, .null, .null, .int 0, .null, .null, .null, .null, .null, .null, .null, .null, .null, .null, .null, .null, .null, .null, .null, .null, .null, .int 0, .int 0, .int 0, .int 0])), (q_1, .inl (cy 2, 6, .inl (fun _ => 0))), (q_2, .inl (cy 0, 6, .inl (fun _ => 0))), (q_3, .inl (cy 0, 6, .inl (fun _ => 0))), (q_4, .inl (cy 0, 6, .inl (fun _ => 0))), (q_5, .inl (cy 0, 6, .inl (fun _ => 0))), (q_6, .inl (cy 0, 1200, .inl (fun _ => 0))), (q_7, .inl (cy 1, 800, .inl (fun _ => 0)))] := va_D.sub hD [0, 1, 2, 3, 4, 5, 6, 7] (by decide) rfl
  refine lv_aload_n hx hb dX10_init_119 rfl (lv_at hl 0 rfl) ?_
  refine lv_sipush (v := 384) hx hb dX10_init_120 (by decide) ?_
  refine gz_newa (atype := .int) (t0 := 0) (a0 := (384, .inl (fun _ => 0))) hx hb rfl (fun _ _ h9 => h9) (hts _ gm_98) rfl hK hP hD hS hA (fun _ => rfl) (by decide) (by decide) (Nat.le_of_ble_eq_true rfl) (Nat.le_of_ble_eq_true rfl) (Nat.le_of_ble_eq_true rfl) dX10_init_123 (fun q_15 H hP hD hS => ?_)
  have hP : va_P G vwCl [(h0, .inr (10, [.int 0, .ref q_1, .ref q_2, .ref q_3, .ref q_4, .ref q_5, .ref q_6, .int 0, .ref q_7, .int 0, .int 0, .int 0, .int 0, .int 0, .int 0, .int 0, .int 0, .long 0, .int 0, .int 0, .ref q_8, .ref q_9, .ref q_10, .ref q_11, .ref q_12, .ref q_13, .ref q_14, .null, .int 0, .int 0, .int 0, .null, .null, .null, .null, .null, .null, .int 0, .null, .null, .null, .null, .null, .null, .null, .null, .null, .null, .null, .null, .null, .null, .null, .null, .null, .int 0, .int 0, .int 0, .int 0])), (q_1, .inl (cy 2, 6, .inl (fun _ => 0))), (q_2, .inl (cy 0, 6, .inl (fun _ => 0))), (q_3, .inl (cy 0, 6, .inl (fun _ => 0))), (q_4, .inl (cy 0, 6, .inl (fun _ => 0))), (q_5, .inl (cy 0, 6, .inl (fun _ => 0))), (q_6, .inl (cy 0, 1200, .inl (fun _ => 0))), (q_7, .inl (cy 1, 800, .inl (fun _ => 0))), (q_15, .inl (cy 0, 384, .inl (fun _ => 0)))] H := hP
  have hD : va_D A [(h0, .inr (10, [.int 0, .ref q_1, .ref q_2, .ref q_3, .ref q_4, .ref q_5, .ref q_6, .int 0, .ref q_7, .int 0, .int 0, .int 0, .int 0, .int 0, .int 0, .int 0, .int 0, .long 0, .int 0, .int 0, .ref q_8, .ref q_9, .ref q_10, .ref q_11, .ref q_12, .ref q_13, .ref q_14, .null, .int 0, .int 0, .int 0, .null, .null, .null, .null, .null, .null, .int 0, .null, .null, .null, .null, .null, .null, .null, .null, .null, .null, .null, .null, .null, .null, .null, .null, .null, .int 0, .int 0, .int 0, .int 0])), (q_1, .inl (cy 2, 6, .inl (fun _ => 0))), (q_2, .inl (cy 0, 6, .inl (fun _ => 0))), (q_3, .inl (cy 0, 6, .inl (fun _ => 0))), (q_4, .inl (cy 0, 6, .inl (fun _ => 0))), (q_5, .inl (cy 0, 6, .inl (fun _ => 0))), (q_6, .inl (cy 0, 1200, .inl (fun _ => 0))), (q_7, .inl (cy 1, 800, .inl (fun _ => 0))), (q_15, .inl (cy 0, 384, .inl (fun _ => 0)))] := hD
  refine W.widen (k := 15) (n := 3086) (Nat.le_of_ble_eq_true rfl) (Nat.le_of_ble_eq_true rfl) ?_
  refine va_putF (ci := 10) (v := .ref q_15) (ty := .array .int) (C := RX10) (T := TX10) (N := 59) hx hb hts inX10 tyX10 tyX10_ok nmX10 hown hK hP hD hS 0 rfl rfl 27 (by decide) (hts _ gm_928) (fun _ h9 => h9) rfl hin rfl (by decide +kernel) rfl rfl (Nat.le_of_ble_eq_true rfl) dX10_init_125 (fun H locs hP hD hS => ?_)
  have hP : va_P G vwCl [(h0, .inr (10, [.int 0, .ref q_1, .ref q_2, .ref q_3, .ref q_4, .ref q_5, .ref q_6, .int 0, .ref q_7, .int 0, .int 0, .int 0, .int 0, .int 0, .int 0, .int 0, .int 0, .long 0, .int 0, .int 0, .ref q_8, .ref q_9, .ref q_10, .ref q_11, .ref q_12, .ref q_13, .ref q_14, .ref q_15, .int 0, .int 0, .int 0, .null, .null, .null, .null, .null, .null, .int 0, .null, .null, .null, .null, .null, .null, .null, .null, .null, .null, .null, .null, .null, .null, .null, .null, .null, .int 0, .int 0, .int 0, .int 0])), (q_1, .inl (cy 2, 6, .inl (fun _ => 0))), (q_2, .inl (cy 0, 6, .inl (fun _ => 0))), (q_3, .inl (cy 0, 6, .inl (fun _ => 0))), (q_4, .inl (cy 0, 6, .inl (fun _ => 0))), (q_5, .inl (cy 0, 6, .inl (fun _ => 0))), (q_6, .inl (cy 0, 1200, .inl (fun _ => 0))), (q_7, .inl (cy 1, 800, .inl (fun _ => 0)))] H := va_P.sub hP [0, 1, 2, 3, 4, 5, 6, 7] rfl
  have hD : va_D A [(h0, .inr (10, [.int 0, .ref q_1, .ref q_2, .ref q_3, .ref q_4, .ref q_5, .ref q_6, .int 0, .ref q_7, .int 0, .int 0, .int 0, .int 0, .int 0, .int 0, .int 0, .int 0, .long 0, .int 0, .int 0, .ref q_8, .ref q_9, .ref q_10, .ref q_11, .ref q_12, .ref q_13, .ref q_14, .ref q_15, .int 0, .int 0, .int 0, .null, .null, .null, .null, .null, .null, .int 0, .null, .null, .null, .null, .null, .null, .null, .null, .null, .null, .null, .null, .null, .null, .null, .null, .null, .int 0, .int 0, .int 0, .int 0])), (q_1, .inl (cy 2, 6, .inl (fun _ => 0))), (q_2, .inl (cy 0, 6, .inl (fun _ => 0))), (q_3, .inl (cy 0, 6, .inl (fun _ => 0))), (q_4, .inl (cy 0, 6, .inl (fun _ => 0))), (q_5, .inl (cy 0, 6, .inl (fun _ => 0))), (q_6, .inl (cy 0, 1200, .inl (fun _ => 0))), (q_7, .inl (cy 1, 800, .inl (fun _ => 0)))] := va_D.sub hD [0, 1, 2, 3, 4, 5, 6, 7] (by decide) rfl
  refine lv_aload_n hx hb dX10_init_128 rfl (lv_at hl 0 rfl) ?_
  refine lv_sipush (v := 300) hx hb dX10_init_129 (by decide) ?_
  refine gz_newa (atype := .int) (t0 := 0) (a0 := (300, .inl (fun _ => 0))) hx hb rfl (fun _ _ h9 => h9) (hts _ gm_98) rfl hK hP hD hS hA (fun _ => rfl) (by decide) (by decide) (Nat.le_of_ble_eq_true rfl) (Nat.le_of_ble_eq_true rfl) (Nat.le_of_ble_eq_true rfl) dX10_init_132 (fun q_16 H hP hD hS => ?_)
  have hP : va_P G vwCl [(h0, .inr (10, [.int 0, .ref q_1, .ref q_2, .ref q_3, .ref q_4, .ref q_5, .ref q_6, .int 0, .ref q_7, .int 0, .int 0, .int 0, .int 0, .int 0, .int 0, .int 0, .int 0, .long 0, .int 0, .int 0, .ref q_8, .ref q_9, .ref q_10, .ref q_11, .ref q_12, .ref q_13, .ref q_14, .ref q_15, .int 0, .int 0, .int 0, .null, .null, .null, .null, .null, .null, .int 0, .null, .null, .null, .null, .null, .null, .null, .null, .null, .null, .null, .null, .null, .null, .null, .null, .null, .int 0, .int 0, .int 0, .int 0])), (q_1, .inl (cy 2, 6, .inl (fun _ => 0))), (q_2, .inl (cy 0, 6, .inl (fun _ => 0))), (q_3, .inl (cy 0, 6, .inl (fun _ => 0))), (q_4, .inl (cy 0, 6, .inl (fun _ => 0))), (q_5, .inl (cy 0, 6, .inl (fun _ => 0))), (q_6, .inl (cy 0, 1200, .inl (fun _ => 0))), (q_7, .inl (cy 1, 800, .inl (fun _ => 0))), (q_16, .inl (cy 0, 300, .inl (fun _ => 0)))] H := hP
  have hD : va_D A [(h0, .inr (10, [.int 0, .ref q_1, .ref q_2, .ref q_3, .ref q_4, .ref q_5, .ref q_6, .int 0, .ref q_7, .int 0, .int 0, .int 0, .int 0, .int 0, .int 0, .int 0, .int 0, .long 0, .int 0, .int 0, .ref q_8, .ref q_9, .ref q_10, .ref q_11, .ref q_12, .ref q_13, .ref q_14, .ref q_15, .int 0, .int 0, .int 0, .null, .null, .null, .null, .null, .null, .int 0, .null, .null, .null, .null, .null, .null, .null, .null, .null, .null, .null, .null, .null, .null, .null, .null, .null, .int 0, .int 0, .int 0, .int 0])), (q_1, .inl (cy 2, 6, .inl (fun _ => 0))), (q_2, .inl (cy 0, 6, .inl (fun _ => 0))), (q_3, .inl (cy 0, 6, .inl (fun _ => 0))), (q_4, .inl (cy 0, 6, .inl (fun _ => 0))), (q_5, .inl (cy 0, 6, .inl (fun _ => 0))), (q_6, .inl (cy 0, 1200, .inl (fun _ => 0))), (q_7, .inl (cy 1, 800, .inl (fun _ => 0))), (q_16, .inl (cy 0, 300, .inl (fun _ => 0)))] := hD
  refine W.widen (k := 16) (n := 3386) (Nat.le_of_ble_eq_true rfl) (Nat.le_of_ble_eq_true rfl) ?_
  refine va_putF (ci := 10) (v := .ref q_16) (ty := .array .int) (C := RX10) (T := TX10) (N := 59) hx hb hts inX10 tyX10 tyX10_ok nmX10 hown hK hP hD hS 0 rfl rfl 31 (by decide) (hts _ gm_932) (fun _ h9 => h9) rfl hin rfl (by decide +kernel) rfl rfl (Nat.le_of_ble_eq_true rfl) dX10_init_134 (fun H locs hP hD hS => ?_)
  have hP : va_P G vwCl [(h0, .inr (10, [.int 0, .ref q_1, .ref q_2, .ref q_3, .ref q_4, .ref q_5, .ref q_6, .int 0, .ref q_7, .int 0, .int 0, .int 0, .int 0, .int 0, .int 0, .int 0, .int 0, .long 0, .int 0, .int 0, .ref q_8, .ref q_9, .ref q_10, .ref q_11, .ref q_12, .ref q_13, .ref q_14, .ref q_15, .int 0, .int 0, .int 0, .ref q_16, .null, .null, .null, .null, .null, .int 0, .null, .null, .null, .null, .null, .null, .null, .null, .null, .null, .null, .null, .null, .null, .null, .null, .null, .int 0, .int 0, .int 0, .int 0])), (q_1, .inl (cy 2, 6, .inl (fun _ => 0))), (q_2, .inl (cy 0, 6, .inl (fun _ => 0))), (q_3, .inl (cy 0, 6, .inl (fun _ => 0))), (q_4, .inl (cy 0, 6, .inl (fun _ => 0))), (q_5, .inl (cy 0, 6, .inl (fun _ => 0))), (q_6, .inl (cy 0, 1200, .inl (fun _ => 0))), (q_7, .inl (cy 1, 800, .inl (fun _ => 0)))] H := va_P.sub hP [0, 1, 2, 3, 4, 5, 6, 7] rfl
  have hD : va_D A [(h0, .inr (10, [.int 0, .ref q_1, .ref q_2, .ref q_3, .ref q_4, .ref q_5, .ref q_6, .int 0, .ref q_7, .int 0, .int 0, .int 0, .int 0, .int 0, .int 0, .int 0, .int 0, .long 0, .int 0, .int 0, .ref q_8, .ref q_9, .ref q_10, .ref q_11, .ref q_12, .ref q_13, .ref q_14, .ref q_15, .int 0, .int 0, .int 0, .ref q_16, .null, .null, .null, .null, .null, .int 0, .null, .null, .null, .null, .null, .null, .null, .null, .null, .null, .null, .null, .null, .null, .null, .null, .null, .int 0, .int 0, .int 0, .int 0])), (q_1, .inl (cy 2, 6, .inl (fun _ => 0))), (q_2, .inl (cy 0, 6, .inl (fun _ => 0))), (q_3, .inl (cy 0, 6, .inl (fun _ => 0))), (q_4, .inl (cy 0, 6, .inl (fun _ => 0))), (q_5, .inl (cy 0, 6, .inl (fun _ => 0))), (q_6, .inl (cy 0, 1200, .inl (fun _ => 0))), (q_7, .inl (cy 1, 800, .inl (fun _ => 0)))] := va_D.sub hD [0, 1, 2, 3, 4, 5, 6, 7] (by decide) rfl
  refine lv_aload_n hx hb dX10_init_137 rfl (lv_at hl 0 rfl) ?_
  refine lv_sipush (v := 300) hx hb dX10_init_138 (by decide) ?_
  refine gz_newa (atype := .int) (t0 := 0) (a0 := (300, .inl (fun _ => 0))) hx hb rfl (fun _ _ h9 => h9) (hts _ gm_98) rfl hK hP hD hS hA (fun _ => rfl) (by decide) (by decide) (Nat.le_of_ble_eq_true rfl) (Nat.le_of_ble_eq_true rfl) (Nat.le_of_ble_eq_true rfl) dX10_init_141 (fun q_17 H hP hD hS => ?_)
  have hP : va_P G vwCl [(h0, .inr (10, [.int 0, .ref q_1, .ref q_2, .ref q_3, .ref q_4, .ref q_5, .ref q_6, .int 0, .ref q_7, .int 0, .int 0, .int 0, .int 0, .int 0, .int 0, .int 0, .int 0, .long 0, .int 0, .int 0, .ref q_8, .ref q_9, .ref q_10, .ref q_11, .ref q_12, .ref q_13, .ref q_14, .ref q_15, .int 0, .int 0, .int 0, .ref q_16, .null, .null, .null, .null, .null, .int 0, .null, .null, .null, .null, .null, .null, .null, .null, .null, .null, .null, .null, .null, .null, .null, .null, .null, .int 0, .int 0, .int 0, .int 0])), (q_1, .inl (cy 2, 6, .inl (fun _ => 0))), (q_2, .inl (cy 0, 6, .inl (fun _ => 0))), (q_3, .inl (cy 0, 6, .inl (fun _ => 0))), (q_4, .inl (cy 0, 6, .inl (fun _ => 0))), (q_5, .inl (cy 0, 6, .inl (fun _ => 0))), (q_6, .inl (cy 0, 1200, .inl (fun _ => 0))), (q_7, .inl (cy 1, 800, .inl (fun _ => 0))), (q_17, .inl (cy 0, 300, .inl (fun _ => 0)))] H := hP
  have hD : va_D A [(h0, .inr (10, [.int 0, .ref q_1, .ref q_2, .ref q_3, .ref q_4, .ref q_5, .ref q_6, .int 0, .ref q_7, .int 0, .int 0, .int 0, .int 0, .int 0, .int 0, .int 0, .int 0, .long 0, .int 0, .int 0, .ref q_8, .ref q_9, .ref q_10, .ref q_11, .ref q_12, .ref q_13, .ref q_14, .ref q_15, .int 0, .int 0, .int 0, .ref q_16, .null, .null, .null, .null, .null, .int 0, .null, .null, .null, .null, .null, .null, .null, .null, .null, .null, .null, .null, .null, .null, .null, .null, .null, .int 0, .int 0, .int 0, .int 0])), (q_1, .inl (cy 2, 6, .inl (fun _ => 0))), (q_2, .inl (cy 0, 6, .inl (fun _ => 0))), (q_3, .inl (cy 0, 6, .inl (fun _ => 0))), (q_4, .inl (cy 0, 6, .inl (fun _ => 0))), (q_5, .inl (cy 0, 6, .inl (fun _ => 0))), (q_6, .inl (cy 0, 1200, .inl (fun _ => 0))), (q_7, .inl (cy 1, 800, .inl (fun _ => 0))), (q_17, .inl (cy 0, 300, .inl (fun _ => 0)))] := hD
  refine W.widen (k := 17) (n := 3686) (Nat.le_of_ble_eq_true rfl) (Nat.le_of_ble_eq_true rfl) ?_
  refine va_putF (ci := 10) (v := .ref q_17) (ty := .array .int) (C := RX10) (T := TX10) (N := 59) hx hb hts inX10 tyX10 tyX10_ok nmX10 hown hK hP hD hS 0 rfl rfl 32 (by decide) (hts _ gm_933) (fun _ h9 => h9) rfl hin rfl (by decide +kernel) rfl rfl (Nat.le_of_ble_eq_true rfl) dX10_init_143 (fun H locs hP hD hS => ?_)
  have hP : va_P G vwCl [(h0, .inr (10, [.int 0, .ref q_1, .ref q_2, .ref q_3, .ref q_4, .ref q_5, .ref q_6, .int 0, .ref q_7, .int 0, .int 0, .int 0, .int 0, .int 0, .int 0, .int 0, .int 0, .long 0, .int 0, .int 0, .ref q_8, .ref q_9, .ref q_10, .ref q_11, .ref q_12, .ref q_13, .ref q_14, .ref q_15, .int 0, .int 0, .int 0, .ref q_16, .ref q_17, .null, .null, .null, .null, .int 0, .null, .null, .null, .null, .null, .null, .null, .null, .null, .null, .null, .null, .null, .null, .null, .null, .null, .int 0, .int 0, .int 0, .int 0])), (q_1, .inl (cy 2, 6, .inl (fun _ => 0))), (q_2, .inl (cy 0, 6, .inl (fun _ => 0))), (q_3, .inl (cy 0, 6, .inl (fun _ => 0))), (q_4, .inl (cy 0, 6, .inl (fun _ => 0))), (q_5, .inl (cy 0, 6, .inl (fun _ => 0))), (q_6, .inl (cy 0, 1200, .inl (fun _ => 0))), (q_7, .inl (cy 1, 800, .inl (fun _ => 0)))] H := va_P.sub hP [0, 1, 2, 3, 4, 5, 6, 7] rfl
  have hD : va_D A [(h0, .inr (10, [.int 0, .ref q_1, .ref q_2, .ref q_3, .ref q_4, .ref q_5, .ref q_6, .int 0, .ref q_7, .int 0, .int 0, .int 0, .int 0, .int 0, .int 0, .int 0, .int 0, .long 0, .int 0, .int 0, .ref q_8, .ref q_9, .ref q_10, .ref q_11, .ref q_12, .ref q_13, .ref q_14, .ref q_15, .int 0, .int 0, .int 0, .ref q_16, .ref q_17, .null, .null, .null, .null, .int 0, .null, .null, .null, .null, .null, .null, .null, .null, .null, .null, .null, .null, .null, .null, .null, .null, .null, .int 0, .int 0, .int 0, .int 0])), (q_1, .inl (cy 2, 6, .inl (fun _ => 0))), (q_2, .inl (cy 0, 6, .inl (fun _ => 0))), (q_3, .inl (cy 0, 6, .inl (fun _ => 0))), (q_4, .inl (cy 0, 6, .inl (fun _ => 0))), (q_5, .inl (cy 0, 6, .inl (fun _ => 0))), (q_6, .inl (cy 0, 1200, .inl (fun _ => 0))), (q_7, .inl (cy 1, 800, .inl (fun _ => 0)))] := va_D.sub hD [0, 1, 2, 3, 4, 5, 6, 7] (by decide) rfl
  refine lv_aload_n hx hb dX10_init_146 rfl (lv_at hl 0 rfl) ?_
  refine lv_sipush (v := 300) hx hb dX10_init_147 (by decide) ?_
  refine gz_newa (atype := .int) (t0 := 0) (a0 := (300, .inl (fun _ => 0))) hx hb rfl (fun _ _ h9 => h9) (hts _ gm_98) rfl hK hP hD hS hA (fun _ => rfl) (by decide) (by decide) (Nat.le_of_ble_eq_true rfl) (Nat.le_of_ble_eq_true rfl) (Nat.le_of_ble_eq_true rfl) dX10_init_150 (fun q_18 H hP hD hS => ?_)
  have hP : va_P G vwCl [(h0, .inr (10, [.int 0, .ref q_1, .ref q_2, .ref q_3, .ref q_4, .ref q_5, .ref q_6, .int 0, .ref q_7, .int 0, .int 0, .int 0, .int 0, .int 0, .int 0, .int 0, .int 0, .long 0, .int 0, .int 0, .ref q_8, .ref q_9, .ref q_10, .ref q_11, .ref q_12, .ref q_13, .ref q_14, .ref q_15, .int 0, .int 0, .int 0, .ref q_16, .ref q_17, .null, .null, .null, .null, .int 0, .null, .null, .null, .null, .null, .null, .null, .null, .null, .null, .null, .null, .null, .null, .null, .null, .null, .int 0, .int 0, .int 0, .int 0])), (q_1, .inl (cy 2, 6, .inl (fun _ => 0))), (q_2, .inl (cy 0, 6, .inl (fun _ => 0))), (q_3, .inl (cy 0, 6, .inl (fun _ => 0))), (q_4, .inl (cy 0, 6, .inl (fun _ => 0))), (q_5, .inl (cy 0, 6, .inl (fun _ => 0))), (q_6, .inl (cy 0, 1200, .inl (fun _ => 0))), (q_7, .inl (cy 1, 800, .inl (fun _ => 0))), (q_18, .inl (cy 0, 300, .inl (fun _ => 0)))] H := hP
  have hD : va_D A [(h0, .inr (10, [.int 0, .ref q_1, .ref q_2, .ref q_3, .ref q_4, .ref q_5, .ref q_6, .int 0, .ref q_7, .int 0, .int 0, .int 0, .int 0, .int 0, .int 0, .int 0, .int 0, .long 0, .int 0, .int 0, .ref q_8, .ref q_9, .ref q_10, .ref q_11, .ref q_12, .ref q_13, .ref q_14, .ref q_15, .int 0, .int 0, .int 0, .ref q_16, .ref q_17, .null, .null, .null, .null, .int 0, .null, .null, .null, .null, .null, .null, .null, .null, .null, .null, .null, .null, .null, .null, .null, .null, .null, .int 0, .int 0, .int 0, .int 0])), (q_1, .inl (cy 2, 6, .inl (fun _ => 0))), (q_2, .inl (cy 0, 6, .inl (fun _ => 0))), (q_3, .inl (cy 0, 6, .inl (fun _ => 0))), (q_4, .inl (cy 0, 6, .inl (fun _ => 0))), (q_5, .inl (cy 0, 6, .inl (fun _ => 0))), (q_6, .inl (cy 0, 1200, .inl (fun _ => 0))), (q_7, .inl (cy 1, 800, .inl (fun _ => 0))), (q_18, .inl (cy 0, 300, .inl (fun _ => 0)))] := hD
  refine W.widen (k := 18) (n := 3986) (Nat.le_of_ble_eq_true rfl) (Nat.le_of_ble_eq_true rfl) ?_
  refine va_putF (ci := 10) (v := .ref q_18) (ty := .array .int) (C := RX10) (T := TX10) (N := 59) hx hb hts inX10 tyX10 tyX10_ok nmX10 hown hK hP hD hS 0 rfl rfl 33 (by decide) (hts _ gm_934) (fun _ h9 => h9) rfl hin rfl (by decide +kernel) rfl rfl (Nat.le_of_ble_eq_true rfl) dX10_init_152 (fun H locs hP hD hS => ?_)
  have hP : va_P G vwCl [(h0, .inr (10, [.int 0, .ref q_1, .ref q_2, .ref q_3, .ref q_4, .ref q_5, .ref q_6, .int 0, .ref q_7, .int 0, .int 0, .int 0, .int 0, .int 0, .int 0, .int 0, .int 0, .long 0, .int 0, .int 0, .ref q_8, .ref q_9, .ref q_10, .ref q_11, .ref q_12, .ref q_13, .ref q_14, .ref q_15, .int 0, .int 0, .int 0, .ref q_16, .ref q_17, .ref q_18, .null, .null, .null, .int 0, .null, .null, .null, .null, .null, .null, .null, .null, .null, .null, .null, .null, .null, .null, .null, .null, .null, .int 0, .int 0, .int 0, .int 0])), (q_1, .inl (cy 2, 6, .inl (fun _ => 0))), (q_2, .inl (cy 0, 6, .inl (fun _ => 0))), (q_3, .inl (cy 0, 6, .inl (fun _ => 0))), (q_4, .inl (cy 0, 6, .inl (fun _ => 0))), (q_5, .inl (cy 0, 6, .inl (fun _ => 0))), (q_6, .inl (cy 0, 1200, .inl (fun _ => 0))), (q_7, .inl (cy 1, 800, .inl (fun _ => 0)))] H := va_P.sub hP [0, 1, 2, 3, 4, 5, 6, 7] rfl
  have hD : va_D A [(h0, .inr (10, [.int 0, .ref q_1, .ref q_2, .ref q_3, .ref q_4, .ref q_5, .ref q_6, .int 0, .ref q_7, .int 0, .int 0, .int 0, .int 0, .int 0, .int 0, .int 0, .int 0, .long 0, .int 0, .int 0, .ref q_8, .ref q_9, .ref q_10, .ref q_11, .ref q_12, .ref q_13, .ref q_14, .ref q_15, .int 0, .int 0, .int 0, .ref q_16, .ref q_17, .ref q_18, .null, .null, .null, .int 0, .null, .null, .null, .null, .null, .null, .null, .null, .null, .null, .null, .null, .null, .null, .null, .null, .null, .int 0, .int 0, .int 0, .int 0])), (q_1, .inl (cy 2, 6, .inl (fun _ => 0))), (q_2, .inl (cy 0, 6, .inl (fun _ => 0))), (q_3, .inl (cy 0, 6, .inl (fun _ => 0))), (q_4, .inl (cy 0, 6, .inl (fun _ => 0))), (q_5, .inl (cy 0, 6, .inl (fun _ => 0))), (q_6, .inl (cy 0, 1200, .inl (fun _ => 0))), (q_7, .inl (cy 1, 800, .inl (fun _ => 0)))] := va_D.sub hD [0, 1, 2, 3, 4, 5, 6, 7] (by decide) rfl
  refine lv_aload_n hx hb dX10_init_155 rfl (lv_at hl 0 rfl) ?_
  refine lv_sipush (v := 300) hx hb dX10_init_156 (by decide) ?_
  refine gz_newa (atype := .int) (t0 := 0) (a0 := (300, .inl (fun _ => 0))) hx hb rfl (fun _ _ h9 => h9) (hts _ gm_98) rfl hK hP hD hS hA (fun _ => rfl) (by decide) (by decide) (Nat.le_of_ble_eq_true rfl) (Nat.le_of_ble_eq_true rfl) (Nat.le_of_ble_eq_true rfl) dX10_init_159 (fun q_19 H hP hD hS => ?_)
  have hP : va_P G vwCl [(h0, .inr (10, [.int 0, .ref q_1, .ref q_2, .ref q_3, .ref q_4, .ref q_5, .ref q_6, .int 0, .ref q_7, .int 0, .int 0, .int 0, .int 0, .int 0, .int 0, .int 0, .int 0, .long 0, .int 0, .int 0, .ref q_8, .ref q_9, .ref q_10, .ref q_11, .ref q_12, .ref q_13, .ref q_14, .ref q_15, .int 0, .int 0, .int 0, .ref q_16, .ref q_17, .ref q_18, .null, .null, .null, .int 0, .null, .null, .null, .null, .null, .null, .null, .null, .null, .null, .null, .null, .null, .null, .null, .null, .null, .int 0, .int 0, .int 0, .int 0])), (q_1, .inl (cy 2, 6, .inl (fun _ => 0))), (q_2, .inl (cy 0, 6, .inl (fun _ => 0))), (q_3, .inl (cy 0, 6, .inl (fun _ => 0))), (q_4, .inl (cy 0, 6, .inl (fun _ => 0))), (q_5, .inl (cy 0, 6, .inl (fun _ => 0))), (q_6, .inl (cy 0, 1200, .inl (fun _ => 0))), (q_7, .inl (cy 1, 800, .inl (fun _ => 0))), (q_19, .inl (cy 0, 300, .inl (fun _ => 0)))] H := hP
  have hD : va_D A [(h0, .inr (10, [.int 0, .ref q_1, .ref q_2, .ref q_3, .ref q_4, .ref q_5, .ref q_6, .int 0, .ref q_7, .int 0, .int 0, .int 0, .int 0, .int 0, .int 0, .int 0, .int 0, .long 0, .int 0, .int 0, .ref q_8, .ref q_9, .ref q_10, .ref q_11, .ref q_12, .ref q_13, .ref q_14, .ref q_15, .int 0, .int 0, .int 0, .ref q_16, .ref q_17, .ref q_18, .null, .null, .null, .int 0, .null, .null, .null, .null, .null, .null, .null, .null, .null, .null, .null, .null, .null, .null, .null, .null, .null, .int 0, .int 0, .int 0, .int 0])), (q_1, .inl (cy 2, 6, .inl (fun _ => 0))), (q_2, .inl (cy 0, 6, .inl (fun _ => 0))), (q_3, .inl (cy 0, 6, .inl (fun _ => 0))), (q_4, .inl (cy 0, 6, .inl (fun _ => 0))), (q_5, .inl (cy 0, 6, .inl (fun _ => 0))), (q_6, .inl (cy 0, 1200, .inl (fun _ => 0))), (q_7, .inl (cy 1, 800, .inl (fun _ => 0))), (q_19, .inl (cy 0, 300, .inl (fun _ => 0)))] := hD
  refine W.widen (k := 19) (n := 4286) (Nat.le_of_ble_eq_true rfl) (Nat.le_of_ble_eq_true rfl) ?_
  refine va_putF (ci := 10) (v := .ref q_19) (ty := .array .int) (C := RX10) (T := TX10) (N := 59) hx hb hts inX10 tyX10 tyX10_ok nmX10 hown hK hP hD hS 0 rfl rfl 34 (by decide) (hts _ gm_935) (fun _ h9 => h9) rfl hin rfl (by decide +kernel) rfl rfl (Nat.le_of_ble_eq_true rfl) dX10_init_161 (fun H locs hP hD hS => ?_)
  have hP : va_P G vwCl [(h0, .inr (10, [.int 0, .ref q_1, .ref q_2, .ref q_3, .ref q_4, .ref q_5, .ref q_6, .int 0, .ref q_7, .int 0, .int 0, .int 0, .int 0, .int 0, .int 0, .int 0, .int 0, .long 0, .int 0, .int 0, .ref q_8, .ref q_9, .ref q_10, .ref q_11, .ref q_12, .ref q_13, .ref q_14, .ref q_15, .int 0, .int 0, .int 0, .ref q_16, .ref q_17, .ref q_18, .ref q_19, .null, .null, .int 0, .null, .null, .null, .null, .null, .null, .null, .null, .null, .null, .null, .null, .null, .null, .null, .null, .null, .int 0, .int 0, .int 0, .int 0])), (q_1, .inl (cy 2, 6, .inl (fun _ => 0))), (q_2, .inl (cy 0, 6, .inl (fun _ => 0))), (q_3, .inl (cy 0, 6, .inl (fun _ => 0))), (q_4, .inl (cy 0, 6, .inl (fun _ => 0))), (q_5, .inl (cy 0, 6, .inl (fun _ => 0))), (q_6, .inl (cy 0, 1200, .inl (fun _ => 0))), (q_7, .inl (cy 1, 800, .inl (fun _ => 0)))] H := va_P.sub hP [0, 1, 2, 3, 4, 5, 6, 7] rfl
  have hD : va_D A [(h0, .inr (10, [.int 0, .ref q_1, .ref q_2, .ref q_3, .ref q_4, .ref q_5, .ref q_6, .int 0, .ref q_7, .int 0, .int 0, .int 0, .int 0, .int 0, .int 0, .int 0, .int 0, .long 0, .int 0, .int 0, .ref q_8, .ref q_9, .ref q_10, .ref q_11, .ref q_12, .ref q_13, .ref q_14, .ref q_15, .int 0, .int 0, .int 0, .ref q_16, .ref q_17, .ref q_18, .ref q_19, .null, .null, .int 0, .null, .null, .null, .null, .null, .null, .null, .null, .null, .null, .null, .null, .null, .null, .null, .null, .null, .int 0, .int 0, .int 0, .int 0])), (q_1, .inl (cy 2, 6, .inl (fun _ => 0))), (q_2, .inl (cy 0, 6, .inl (fun _ => 0))), (q_3, .inl (cy 0, 6, .inl (fun _ => 0))), (q_4, .inl (cy 0, 6, .inl (fun _ => 0))), (q_5, .inl (cy 0, 6, .inl (fun _ => 0))), (q_6, .inl (cy 0, 1200, .inl (fun _ => 0))), (q_7, .inl (cy 1, 800, .inl (fun _ => 0)))] := va_D.sub hD [0, 1, 2, 3, 4, 5, 6, 7] (by decide) rfl
  refine lv_aload_n hx hb dX10_init_164 rfl (lv_at hl 0 rfl) ?_
  refine lv_sipush (v := 300) hx hb dX10_init_165 (by decide) ?_
  refine gz_newa (atype := .int) (t0 := 0) (a0 := (300, .inl (fun _ => 0))) hx hb rfl (fun _ _ h9 => h9) (hts _ gm_98) rfl hK hP hD hS hA (fun _ => rfl) (by decide) (by decide) (Nat.le_of_ble_eq_true rfl) (Nat.le_of_ble_eq_true rfl) (Nat.le_of_ble_eq_true rfl) dX10_init_168 (fun q_20 H hP hD hS => ?_)
  have hP : va_P G vwCl [(h0, .inr (10, [.int 0, .ref q_1, .ref q_2, .ref q_3, .ref q_4, .ref q_5, .ref q_6, .int 0, .ref q_7, .int 0, .int 0, .int 0, .int 0, .int 0, .int 0, .int 0, .int 0, .long 0, .int 0, .int 0, .ref q_8, .ref q_9, .ref q_10, .ref q_11, .ref q_12, .ref q_13, .ref q_14, .ref q_15, .int 0, .int 0, .int 0, .ref q_16, .ref q_17, .ref q_18, .ref q_19, .null, .null, .int 0, .null, .null, .null, .null, .null, .null, .null, .null, .null, .null, .null, .null, .null, .null, .null, .null, .null, .int 0, .int 0, .int 0, .int 0])), (q_1, .inl (cy 2, 6, .inl (fun _ => 0))), (q_2, .inl (cy 0, 6, .inl (fun _ => 0))), (q_3, .inl (cy 0, 6, .inl (fun _ => 0))), (q_4, .inl (cy 0, 6, .inl (fun _ => 0))), (q_5, .inl (cy 0, 6, .inl (fun _ => 0))), (q_6, .inl (cy 0, 1200, .inl (fun _ => 0))), (q_7, .inl (cy 1, 800, .inl (fun _ => 0))), (q_20, .inl (cy 0, 300, .inl (fun _ => 0)))] H := hP
  have hD : va_D A [(h0, .inr (10, [.int 0, .ref q_1, .ref q_2, .ref q_3, .ref q_4, .ref q_5, .ref q_6, .int 0, .ref q_7, .int 0, .int 0, .int 0, .int 0, .int 0, .int 0, .int 0, .int 0, .long 0, .int 0, .int 0, .ref q_8, .ref q_9, .ref q_10, .ref q_11, .ref q_12, .ref q_13, .ref q_14, .ref q_15, .int 0, .int 0, .int 0, .ref q_16, .ref q_17, .ref q_18, .ref q_19, .null, .null, .int 0, .null, .null, .null, .null, .null, .null, .null, .null, .null, .null, .null, .null, .null, .null, .null, .null, .null, .int 0, .int 0, .int 0, .int 0])), (q_1, .inl (cy 2, 6, .inl (fun _ => 0))), (q_2, .inl (cy 0, 6, .inl (fun _ => 0))), (q_3, .inl (cy 0, 6, .inl (fun _ => 0))), (q_4, .inl (cy 0, 6, .inl (fun _ => 0))), (q_5, .inl (cy 0, 6, .inl (fun _ => 0))), (q_6, .inl (cy 0, 1200, .inl (fun _ => 0))), (q_7, .inl (cy 1, 800, .inl (fun _ => 0))), (q_20, .inl (cy 0, 300, .inl (fun _ => 0)))] := hD
  refine W.widen (k := 20) (n := 4586) (Nat.le_of_ble_eq_true rfl) (Nat.le_of_ble_eq_true rfl) ?_
  refine va_putF (ci := 10) (v := .ref q_20) (ty := .array .int) (C := RX10) (T := TX10) (N := 59) hx hb hts inX10 tyX10 tyX10_ok nmX10 hown hK hP hD hS 0 rfl rfl 35 (by decide) (hts _ gm_936) (fun _ h9 => h9) rfl hin rfl (by decide +kernel) rfl rfl (Nat.le_of_ble_eq_true rfl) dX10_init_170 (fun H locs hP hD hS => ?_)
  have hP : va_P G vwCl [(h0, .inr (10, [.int 0, .ref q_1, .ref q_2, .ref q_3, .ref q_4, .ref q_5, .ref q_6, .int 0, .ref q_7, .int 0, .int 0, .int 0, .int 0, .int 0, .int 0, .int 0, .int 0, .long 0, .int 0, .int 0, .ref q_8, .ref q_9, .ref q_10, .ref q_11, .ref q_12, .ref q_13, .ref q_14, .ref q_15, .int 0, .int 0, .int 0, .ref q_16, .ref q_17, .ref q_18, .ref q_19, .ref q_20, .null, .int 0, .null, .null, .null, .null, .null, .null, .null, .null, .null, .null, .null, .null, .null, .null, .null, .null, .null, .int 0, .int 0, .int 0, .int 0])), (q_1, .inl (cy 2, 6, .inl (fun _ => 0))), (q_2, .inl (cy 0, 6, .inl (fun _ => 0))), (q_3, .inl (cy 0, 6, .inl (fun _ => 0))), (q_4, .inl (cy 0, 6, .inl (fun _ => 0))), (q_5, .inl (cy 0, 6, .inl (fun _ => 0))), (q_6, .inl (cy 0, 1200, .inl (fun _ => 0))), (q_7, .inl (cy 1, 800, .inl (fun _ => 0)))] H := va_P.sub hP [0, 1, 2, 3, 4, 5, 6, 7] rfl
  have hD : va_D A [(h0, .inr (10, [.int 0, .ref q_1, .ref q_2, .ref q_3, .ref q_4, .ref q_5, .ref q_6, .int 0, .ref q_7, .int 0, .int 0, .int 0, .int 0, .int 0, .int 0, .int 0, .int 0, .long 0, .int 0, .int 0, .ref q_8, .ref q_9, .ref q_10, .ref q_11, .ref q_12, .ref q_13, .ref q_14, .ref q_15, .int 0, .int 0, .int 0, .ref q_16, .ref q_17, .ref q_18, .ref q_19, .ref q_20, .null, .int 0, .null, .null, .null, .null, .null, .null, .null, .null, .null, .null, .null, .null, .null, .null, .null, .null, .null, .int 0, .int 0, .int 0, .int 0])), (q_1, .inl (cy 2, 6, .inl (fun _ => 0))), (q_2, .inl (cy 0, 6, .inl (fun _ => 0))), (q_3, .inl (cy 0, 6, .inl (fun _ => 0))), (q_4, .inl (cy 0, 6, .inl (fun _ => 0))), (q_5, .inl (cy 0, 6, .inl (fun _ => 0))), (q_6, .inl (cy 0, 1200, .inl (fun _ => 0))), (q_7, .inl (cy 1, 800, .inl (fun _ => 0)))] := va_D.sub hD [0, 1, 2, 3, 4, 5, 6, 7] (by decide) rfl
  refine lv_aload_n hx hb dX10_init_173 rfl (lv_at hl 0 rfl) ?_
  refine lv_sipush (v := 300) hx hb dX10_init_174 (by decide) ?_
  refine gz_newa (atype := .int) (t0 := 0) (a0 := (300, .inl (fun _ => 0))) hx hb rfl (fun _ _ h9 => h9) (hts _ gm_98) rfl hK hP hD hS hA (fun _ => rfl) (by decide) (by decide) (Nat.le_of_ble_eq_true rfl) (Nat.le_of_ble_eq_true rfl) (Nat.le_of_ble_eq_true rfl) dX10_init_177 (fun q_21 H hP hD hS => ?_)
  have hP : va_P G vwCl [(h0, .inr (10, [.int 0, .ref q_1, .ref q_2, .ref q_3, .ref q_4, .ref q_5, .ref q_6, .int 0, .ref q_7, .int 0, .int 0, .int 0, .int 0, .int 0, .int 0, .int 0, .int 0, .long 0, .int 0, .int 0, .ref q_8, .ref q_9, .ref q_10, .ref q_11, .ref q_12, .ref q_13, .ref q_14, .ref q_15, .int 0, .int 0, .int 0, .ref q_16, .ref q_17, .ref q_18, .ref q_19, .ref q_20, .null, .int 0, .null, .null, .null, .null, .null, .null, .null, .null, .null, .null, .null, .null, .null, .null, .null, .null, .null, .int 0, .int 0, .int 0, .int 0])), (q_1, .inl (cy 2, 6, .inl (fun _ => 0))), (q_2, .inl (cy 0, 6, .inl (fun _ => 0))), (q_3, .inl (cy 0, 6, .inl (fun _ => 0))), (q_4, .inl (cy 0, 6, .inl (fun _ => 0))), (q_5, .inl (cy 0, 6, .inl (fun _ => 0))), (q_6, .inl (cy 0, 1200, .inl (fun _ => 0))), (q_7, .inl (cy 1, 800, .inl (fun _ => 0))), (q_21, .inl (cy 0, 300, .inl (fun _ => 0)))] H := hP
  have hD : va_D A [(h0, .inr (10, [.int 0, .ref q_1, .ref q_2, .ref q_3, .ref q_4, .ref q_5, .ref q_6, .int 0, .ref q_7, .int 0, .int 0, .int 0, .int 0, .int 0, .int 0, .int 0, .int 0, .long 0, .int 0, .int 0, .ref q_8, .ref q_9, .ref q_10, .ref q_11, .ref q_12, .ref q_13, .ref q_14, .ref q_15, .int 0, .int 0, .int 0, .ref q_16, .ref q_17, .ref q_18, .ref q_19, .ref q_20, .null, .int 0, .null, .null, .null, .null, .null, .null, .null, .null, .null, .null, .null, .null, .null, .null, .null, .null, .null, .int 0, .int 0, .int 0, .int 0])), (q_1, .inl (cy 2, 6, .inl (fun _ => 0))), (q_2, .inl (cy 0, 6, .inl (fun _ => 0))), (q_3, .inl (cy 0, 6, .inl (fun _ => 0))), (q_4, .inl (cy 0, 6, .inl (fun _ => 0))), (q_5, .inl (cy 0, 6, .inl (fun _ => 0))), (q_6, .inl (cy 0, 1200, .inl (fun _ => 0))), (q_7, .inl (cy 1, 800, .inl (fun _ => 0))), (q_21, .inl (cy 0, 300, .inl (fun _ => 0)))] := hD
  refine W.widen (k := 21) (n := 4886) (Nat.le_of_ble_eq_true rfl) (Nat.le_of_ble_eq_true rfl) ?_
  refine va_putF (ci := 10) (v := .ref q_21) (ty := .array .int) (C := RX10) (T := TX10) (N := 59) hx hb hts inX10 tyX10 tyX10_ok nmX10 hown hK hP hD hS 0 rfl rfl 36 (by decide) (hts _ gm_937) (fun _ h9 => h9) rfl hin rfl (by decide +kernel) rfl rfl (Nat.le_of_ble_eq_true rfl) dX10_init_179 (fun H locs hP hD hS => ?_)
  have hP : va_P G vwCl [(h0, .inr (10, [.int 0, .ref q_1, .ref q_2, .ref q_3, .ref q_4, .ref q_5, .ref q_6, .int 0, .ref q_7, .int 0, .int 0, .int 0, .int 0, .int 0, .int 0, .int 0, .int 0, .long 0, .int 0, .int 0, .ref q_8, .ref q_9, .ref q_10, .ref q_11, .ref q_12, .ref q_13, .ref q_14, .ref q_15, .int 0, .int 0, .int 0, .ref q_16, .ref q_17, .ref q_18, .ref q_19, .ref q_20, .ref q_21, .int 0, .null, .null, .null, .null, .null, .null, .null, .null, .null, .null, .null, .null, .null, .null, .null, .null, .null, .int 0, .int 0, .int 0, .int 0])), (q_1, .inl (cy 2, 6, .inl (fun _ => 0))), (q_2, .inl (cy 0, 6, .inl (fun _ => 0))), (q_3, .inl (cy 0, 6, .inl (fun _ => 0))), (q_4, .inl (cy 0, 6, .inl (fun _ => 0))), (q_5, .inl (cy 0, 6, .inl (fun _ => 0))), (q_6, .inl (cy 0, 1200, .inl (fun _ => 0))), (q_7, .inl (cy 1, 800, .inl (fun _ => 0)))] H := va_P.sub hP [0, 1, 2, 3, 4, 5, 6, 7] rfl
  have hD : va_D A [(h0, .inr (10, [.int 0, .ref q_1, .ref q_2, .ref q_3, .ref q_4, .ref q_5, .ref q_6, .int 0, .ref q_7, .int 0, .int 0, .int 0, .int 0, .int 0, .int 0, .int 0, .int 0, .long 0, .int 0, .int 0, .ref q_8, .ref q_9, .ref q_10, .ref q_11, .ref q_12, .ref q_13, .ref q_14, .ref q_15, .int 0, .int 0, .int 0, .ref q_16, .ref q_17, .ref q_18, .ref q_19, .ref q_20, .ref q_21, .int 0, .null, .null, .null, .null, .null, .null, .null, .null, .null, .null, .null, .null, .null, .null, .null, .null, .null, .int 0, .int 0, .int 0, .int 0])), (q_1, .inl (cy 2, 6, .inl (fun _ => 0))), (q_2, .inl (cy 0, 6, .inl (fun _ => 0))), (q_3, .inl (cy 0, 6, .inl (fun _ => 0))), (q_4, .inl (cy 0, 6, .inl (fun _ => 0))), (q_5, .inl (cy 0, 6, .inl (fun _ => 0))), (q_6, .inl (cy 0, 1200, .inl (fun _ => 0))), (q_7, .inl (cy 1, 800, .inl (fun _ => 0)))] := va_D.sub hD [0, 1, 2, 3, 4, 5, 6, 7] (by decide) rfl
  refine lv_aload_n hx hb dX10_init_182 rfl (lv_at hl 0 rfl) ?_
  refine lv_iconst (v := 4) hx hb dX10_init_183 (by decide) ?_
  refine gz_newa (atype := .boolean) (t0 := 2) (a0 := (4, .inl (fun _ => 0))) hx hb rfl (fun _ _ h9 => h9) (hts _ gm_1079) rfl hK hP hD hS hA (fun _ => rfl) (by decide) (by decide) (Nat.le_of_ble_eq_true rfl) (Nat.le_of_ble_eq_true rfl) (Nat.le_of_ble_eq_true rfl) dX10_init_184 (fun q_22 H hP hD hS => ?_)
  have hP : va_P G vwCl [(h0, .inr (10, [.int 0, .ref q_1, .ref q_2, .ref q_3, .ref q_4, .ref q_5, .ref q_6, .int 0, .ref q_7, .int 0, .int 0, .int 0, .int 0, .int 0, .int 0, .int 0, .int 0, .long 0, .int 0, .int 0, .ref q_8, .ref q_9, .ref q_10, .ref q_11, .ref q_12, .ref q_13, .ref q_14, .ref q_15, .int 0, .int 0, .int 0, .ref q_16, .ref q_17, .ref q_18, .ref q_19, .ref q_20, .ref q_21, .int 0, .null, .null, .null, .null, .null, .null, .null, .null, .null, .null, .null, .null, .null, .null, .null, .null, .null, .int 0, .int 0, .int 0, .int 0])), (q_1, .inl (cy 2, 6, .inl (fun _ => 0))), (q_2, .inl (cy 0, 6, .inl (fun _ => 0))), (q_3, .inl (cy 0, 6, .inl (fun _ => 0))), (q_4, .inl (cy 0, 6, .inl (fun _ => 0))), (q_5, .inl (cy 0, 6, .inl (fun _ => 0))), (q_6, .inl (cy 0, 1200, .inl (fun _ => 0))), (q_7, .inl (cy 1, 800, .inl (fun _ => 0))), (q_22, .inl (cy 2, 4, .inl (fun _ => 0)))] H := hP
  have hD : va_D A [(h0, .inr (10, [.int 0, .ref q_1, .ref q_2, .ref q_3, .ref q_4, .ref q_5, .ref q_6, .int 0, .ref q_7, .int 0, .int 0, .int 0, .int 0, .int 0, .int 0, .int 0, .int 0, .long 0, .int 0, .int 0, .ref q_8, .ref q_9, .ref q_10, .ref q_11, .ref q_12, .ref q_13, .ref q_14, .ref q_15, .int 0, .int 0, .int 0, .ref q_16, .ref q_17, .ref q_18, .ref q_19, .ref q_20, .ref q_21, .int 0, .null, .null, .null, .null, .null, .null, .null, .null, .null, .null, .null, .null, .null, .null, .null, .null, .null, .int 0, .int 0, .int 0, .int 0])), (q_1, .inl (cy 2, 6, .inl (fun _ => 0))), (q_2, .inl (cy 0, 6, .inl (fun _ => 0))), (q_3, .inl (cy 0, 6, .inl (fun _ => 0))), (q_4, .inl (cy 0, 6, .inl (fun _ => 0))), (q_5, .inl (cy 0, 6, .inl (fun _ => 0))), (q_6, .inl (cy 0, 1200, .inl (fun _ => 0))), (q_7, .inl (cy 1, 800, .inl (fun _ => 0))), (q_22, .inl (cy 2, 4, .inl (fun _ => 0)))] := hD
  refine W.widen (k := 22) (n := 4890) (Nat.le_of_ble_eq_true rfl) (Nat.le_of_ble_eq_true rfl) ?_
  refine va_putF (ci := 10) (v := .ref q_22) (ty := .array .boolean) (C := RX10) (T := TX10) (N := 59) hx hb hts inX10 tyX10 tyX10_ok nmX10 hown hK hP hD hS 0 rfl rfl 38 (by decide) (hts _ gm_939) (fun _ h9 => h9) rfl hin rfl (by decide +kernel) rfl rfl (Nat.le_of_ble_eq_true rfl) dX10_init_186 (fun H locs hP hD hS => ?_)
  have hP : va_P G vwCl [(h0, .inr (10, [.int 0, .ref q_1, .ref q_2, .ref q_3, .ref q_4, .ref q_5, .ref q_6, .int 0, .ref q_7, .int 0, .int 0, .int 0, .int 0, .int 0, .int 0, .int 0, .int 0, .long 0, .int 0, .int 0, .ref q_8, .ref q_9, .ref q_10, .ref q_11, .ref q_12, .ref q_13, .ref q_14, .ref q_15, .int 0, .int 0, .int 0, .ref q_16, .ref q_17, .ref q_18, .ref q_19, .ref q_20, .ref q_21, .int 0, .ref q_22, .null, .null, .null, .null, .null, .null, .null, .null, .null, .null, .null, .null, .null, .null, .null, .null, .int 0, .int 0, .int 0, .int 0])), (q_1, .inl (cy 2, 6, .inl (fun _ => 0))), (q_2, .inl (cy 0, 6, .inl (fun _ => 0))), (q_3, .inl (cy 0, 6, .inl (fun _ => 0))), (q_4, .inl (cy 0, 6, .inl (fun _ => 0))), (q_5, .inl (cy 0, 6, .inl (fun _ => 0))), (q_6, .inl (cy 0, 1200, .inl (fun _ => 0))), (q_7, .inl (cy 1, 800, .inl (fun _ => 0))), (q_22, .inl (cy 2, 4, .inl (fun _ => 0)))] H := hP
  have hD : va_D A [(h0, .inr (10, [.int 0, .ref q_1, .ref q_2, .ref q_3, .ref q_4, .ref q_5, .ref q_6, .int 0, .ref q_7, .int 0, .int 0, .int 0, .int 0, .int 0, .int 0, .int 0, .int 0, .long 0, .int 0, .int 0, .ref q_8, .ref q_9, .ref q_10, .ref q_11, .ref q_12, .ref q_13, .ref q_14, .ref q_15, .int 0, .int 0, .int 0, .ref q_16, .ref q_17, .ref q_18, .ref q_19, .ref q_20, .ref q_21, .int 0, .ref q_22, .null, .null, .null, .null, .null, .null, .null, .null, .null, .null, .null, .null, .null, .null, .null, .null, .int 0, .int 0, .int 0, .int 0])), (q_1, .inl (cy 2, 6, .inl (fun _ => 0))), (q_2, .inl (cy 0, 6, .inl (fun _ => 0))), (q_3, .inl (cy 0, 6, .inl (fun _ => 0))), (q_4, .inl (cy 0, 6, .inl (fun _ => 0))), (q_5, .inl (cy 0, 6, .inl (fun _ => 0))), (q_6, .inl (cy 0, 1200, .inl (fun _ => 0))), (q_7, .inl (cy 1, 800, .inl (fun _ => 0))), (q_22, .inl (cy 2, 4, .inl (fun _ => 0)))] := hD
  refine lv_aload_n hx hb dX10_init_189 rfl (lv_at hl 0 rfl) ?_
  refine lv_iconst (v := 4) hx hb dX10_init_190 (by decide) ?_
  refine gz_newa (atype := .int) (t0 := 0) (a0 := (4, .inl (fun _ => 0))) hx hb rfl (fun _ _ h9 => h9) (hts _ gm_98) rfl hK hP hD hS hA (fun _ => rfl) (by decide) (by decide) (Nat.le_of_ble_eq_true rfl) (Nat.le_of_ble_eq_true rfl) (Nat.le_of_ble_eq_true rfl) dX10_init_191 (fun q_23 H hP hD hS => ?_)
  have hP : va_P G vwCl [(h0, .inr (10, [.int 0, .ref q_1, .ref q_2, .ref q_3, .ref q_4, .ref q_5, .ref q_6, .int 0, .ref q_7, .int 0, .int 0, .int 0, .int 0, .int 0, .int 0, .int 0, .int 0, .long 0, .int 0, .int 0, .ref q_8, .ref q_9, .ref q_10, .ref q_11, .ref q_12, .ref q_13, .ref q_14, .ref q_15, .int 0, .int 0, .int 0, .ref q_16, .ref q_17, .ref q_18, .ref q_19, .ref q_20, .ref q_21, .int 0, .ref q_22, .null, .null, .null, .null, .null, .null, .null, .null, .null, .null, .null, .null, .null, .null, .null, .null, .int 0, .int 0, .int 0, .int 0])), (q_1, .inl (cy 2, 6, .inl (fun _ => 0))), (q_2, .inl (cy 0, 6, .inl (fun _ => 0))), (q_3, .inl (cy 0, 6, .inl (fun _ => 0))), (q_4, .inl (cy 0, 6, .inl (fun _ => 0))), (q_5, .inl (cy 0, 6, .inl (fun _ => 0))), (q_6, .inl (cy 0, 1200, .inl (fun _ => 0))), (q_7, .inl (cy 1, 800, .inl (fun _ => 0))), (q_22, .inl (cy 2, 4, .inl (fun _ => 0))), (q_23, .inl (cy 0, 4, .inl (fun _ => 0)))] H := hP
  have hD : va_D A [(h0, .inr (10, [.int 0, .ref q_1, .ref q_2, .ref q_3, .ref q_4, .ref q_5, .ref q_6, .int 0, .ref q_7, .int 0, .int 0, .int 0, .int 0, .int 0, .int 0, .int 0, .int 0, .long 0, .int 0, .int 0, .ref q_8, .ref q_9, .ref q_10, .ref q_11, .ref q_12, .ref q_13, .ref q_14, .ref q_15, .int 0, .int 0, .int 0, .ref q_16, .ref q_17, .ref q_18, .ref q_19, .ref q_20, .ref q_21, .int 0, .ref q_22, .null, .null, .null, .null, .null, .null, .null, .null, .null, .null, .null, .null, .null, .null, .null, .null, .int 0, .int 0, .int 0, .int 0])), (q_1, .inl (cy 2, 6, .inl (fun _ => 0))), (q_2, .inl (cy 0, 6, .inl (fun _ => 0))), (q_3, .inl (cy 0, 6, .inl (fun _ => 0))), (q_4, .inl (cy 0, 6, .inl (fun _ => 0))), (q_5, .inl (cy 0, 6, .inl (fun _ => 0))), (q_6, .inl (cy 0, 1200, .inl (fun _ => 0))), (q_7, .inl (cy 1, 800, .inl (fun _ => 0))), (q_22, .inl (cy 2, 4, .inl (fun _ => 0))), (q_23, .inl (cy 0, 4, .inl (fun _ => 0)))] := hD
  refine W.widen (k := 23) (n := 4894) (Nat.le_of_ble_eq_true rfl) (Nat.le_of_ble_eq_true rfl) ?_
  refine va_putF (ci := 10) (v := .ref q_23) (ty := .array .int) (C := RX10) (T := TX10) (N := 59) hx hb hts inX10 tyX10 tyX10_ok nmX10 hown hK hP hD hS 0 rfl rfl 39 (by decide) (hts _ gm_940) (fun _ h9 => h9) rfl hin rfl (by decide +kernel) rfl rfl (Nat.le_of_ble_eq_true rfl) dX10_init_193 (fun H locs hP hD hS => ?_)
  have hP : va_P G vwCl [(h0, .inr (10, [.int 0, .ref q_1, .ref q_2, .ref q_3, .ref q_4, .ref q_5, .ref q_6, .int 0, .ref q_7, .int 0, .int 0, .int 0, .int 0, .int 0, .int 0, .int 0, .int 0, .long 0, .int 0, .int 0, .ref q_8, .ref q_9, .ref q_10, .ref q_11, .ref q_12, .ref q_13, .ref q_14, .ref q_15, .int 0, .int 0, .int 0, .ref q_16, .ref q_17, .ref q_18, .ref q_19, .ref q_20, .ref q_21, .int 0, .ref q_22, .ref q_23, .null, .null, .null, .null, .null, .null, .null, .null, .null, .null, .null, .null, .null, .null, .null, .int 0, .int 0, .int 0, .int 0])), (q_1, .inl (cy 2, 6, .inl (fun _ => 0))), (q_2, .inl (cy 0, 6, .inl (fun _ => 0))), (q_3, .inl (cy 0, 6, .inl (fun _ => 0))), (q_4, .inl (cy 0, 6, .inl (fun _ => 0))), (q_5, .inl (cy 0, 6, .inl (fun _ => 0))), (q_6, .inl (cy 0, 1200, .inl (fun _ => 0))), (q_7, .inl (cy 1, 800, .inl (fun _ => 0))), (q_22, .inl (cy 2, 4, .inl (fun _ => 0)))] H := va_P.sub hP [0, 1, 2, 3, 4, 5, 6, 7, 8] rfl
  have hD : va_D A [(h0, .inr (10, [.int 0, .ref q_1, .ref q_2, .ref q_3, .ref q_4, .ref q_5, .ref q_6, .int 0, .ref q_7, .int 0, .int 0, .int 0, .int 0, .int 0, .int 0, .int 0, .int 0, .long 0, .int 0, .int 0, .ref q_8, .ref q_9, .ref q_10, .ref q_11, .ref q_12, .ref q_13, .ref q_14, .ref q_15, .int 0, .int 0, .int 0, .ref q_16, .ref q_17, .ref q_18, .ref q_19, .ref q_20, .ref q_21, .int 0, .ref q_22, .ref q_23, .null, .null, .null, .null, .null, .null, .null, .null, .null, .null, .null, .null, .null, .null, .null, .int 0, .int 0, .int 0, .int 0])), (q_1, .inl (cy 2, 6, .inl (fun _ => 0))), (q_2, .inl (cy 0, 6, .inl (fun _ => 0))), (q_3, .inl (cy 0, 6, .inl (fun _ => 0))), (q_4, .inl (cy 0, 6, .inl (fun _ => 0))), (q_5, .inl (cy 0, 6, .inl (fun _ => 0))), (q_6, .inl (cy 0, 1200, .inl (fun _ => 0))), (q_7, .inl (cy 1, 800, .inl (fun _ => 0))), (q_22, .inl (cy 2, 4, .inl (fun _ => 0)))] := va_D.sub hD [0, 1, 2, 3, 4, 5, 6, 7, 8] (by decide) rfl
  refine lv_aload_n hx hb dX10_init_196 rfl (lv_at hl 0 rfl) ?_
  refine lv_iconst (v := 4) hx hb dX10_init_197 (by decide) ?_
  refine gz_newa (atype := .int) (t0 := 0) (a0 := (4, .inl (fun _ => 0))) hx hb rfl (fun _ _ h9 => h9) (hts _ gm_98) rfl hK hP hD hS hA (fun _ => rfl) (by decide) (by decide) (Nat.le_of_ble_eq_true rfl) (Nat.le_of_ble_eq_true rfl) (Nat.le_of_ble_eq_true rfl) dX10_init_198 (fun q_24 H hP hD hS => ?_)
  have hP : va_P G vwCl [(h0, .inr (10, [.int 0, .ref q_1, .ref q_2, .ref q_3, .ref q_4, .ref q_5, .ref q_6, .int 0, .ref q_7, .int 0, .int 0, .int 0, .int 0, .int 0, .int 0, .int 0, .int 0, .long 0, .int 0, .int 0, .ref q_8, .ref q_9, .ref q_10, .ref q_11, .ref q_12, .ref q_13, .ref q_14, .ref q_15, .int 0, .int 0, .int 0, .ref q_16, .ref q_17, .ref q_18, .ref q_19, .ref q_20, .ref q_21, .int 0, .ref q_22, .ref q_23, .null, .null, .null, .null, .null, .null, .null, .null, .null, .null, .null, .null, .null, .null, .null, .int 0, .int 0, .int 0, .int 0])), (q_1, .inl (cy 2, 6, .inl (fun _ => 0))), (q_2, .inl (cy 0, 6, .inl (fun _ => 0))), (q_3, .inl (cy 0, 6, .inl (fun _ => 0))), (q_4, .inl (cy 0, 6, .inl (fun _ => 0))), (q_5, .inl (cy 0, 6, .inl (fun _ => 0))), (q_6, .inl (cy 0, 1200, .inl (fun _ => 0))), (q_7, .inl (cy 1, 800, .inl (fun _ => 0))), (q_22, .inl (cy 2, 4, .inl (fun _ => 0))), (q_24, .inl (cy 0, 4, .inl (fun _ => 0)))] H := hP
  have hD : va_D A [(h0, .inr (10, [.int 0, .ref q_1, .ref q_2, .ref q_3, .ref q_4, .ref q_5, .ref q_6, .int 0, .ref q_7, .int 0, .int 0, .int 0, .int 0, .int 0, .int 0, .int 0, .int 0, .long 0, .int 0, .int 0, .ref q_8, .ref q_9, .ref q_10, .ref q_11, .ref q_12, .ref q_13, .ref q_14, .ref q_15, .int 0, .int 0, .int 0, .ref q_16, .ref q_17, .ref q_18, .ref q_19, .ref q_20, .ref q_21, .int 0, .ref q_22, .ref q_23, .null, .null, .null, .null, .null, .null, .null, .null, .null, .null, .null, .null, .null, .null, .null, .int 0, .int 0, .int 0, .int 0])), (q_1, .inl (cy 2, 6, .inl (fun _ => 0))), (q_2, .inl (cy 0, 6, .inl (fun _ => 0))), (q_3, .inl (cy 0, 6, .inl (fun _ => 0))), (q_4, .inl (cy 0, 6, .inl (fun _ => 0))), (q_5, .inl (cy 0, 6, .inl (fun _ => 0))), (q_6, .inl (cy 0, 1200, .inl (fun _ => 0))), (q_7, .inl (cy 1, 800, .inl (fun _ => 0))), (q_22, .inl (cy 2, 4, .inl (fun _ => 0))), (q_24, .inl (cy 0, 4, .inl (fun _ => 0)))] := hD
  refine W.widen (k := 24) (n := 4898) (Nat.le_of_ble_eq_true rfl) (Nat.le_of_ble_eq_true rfl) ?_
  refine va_putF (ci := 10) (v := .ref q_24) (ty := .array .int) (C := RX10) (T := TX10) (N := 59) hx hb hts inX10 tyX10 tyX10_ok nmX10 hown hK hP hD hS 0 rfl rfl 40 (by decide) (hts _ gm_941) (fun _ h9 => h9) rfl hin rfl (by decide +kernel) rfl rfl (Nat.le_of_ble_eq_true rfl) dX10_init_200 (fun H locs hP hD hS => ?_)
  have hP : va_P G vwCl [(h0, .inr (10, [.int 0, .ref q_1, .ref q_2, .ref q_3, .ref q_4, .ref q_5, .ref q_6, .int 0, .ref q_7, .int 0, .int 0, .int 0, .int 0, .int 0, .int 0, .int 0, .int 0, .long 0, .int 0, .int 0, .ref q_8, .ref q_9, .ref q_10, .ref q_11, .ref q_12, .ref q_13, .ref q_14, .ref q_15, .int 0, .int 0, .int 0, .ref q_16, .ref q_17, .ref q_18, .ref q_19, .ref q_20, .ref q_21, .int 0, .ref q_22, .ref q_23, .ref q_24, .null, .null, .null, .null, .null, .null, .null, .null, .null, .null, .null, .null, .null, .null, .int 0, .int 0, .int 0, .int 0])), (q_1, .inl (cy 2, 6, .inl (fun _ => 0))), (q_2, .inl (cy 0, 6, .inl (fun _ => 0))), (q_3, .inl (cy 0, 6, .inl (fun _ => 0))), (q_4, .inl (cy 0, 6, .inl (fun _ => 0))), (q_5, .inl (cy 0, 6, .inl (fun _ => 0))), (q_6, .inl (cy 0, 1200, .inl (fun _ => 0))), (q_7, .inl (cy 1, 800, .inl (fun _ => 0))), (q_22, .inl (cy 2, 4, .inl (fun _ => 0)))] H := va_P.sub hP [0, 1, 2, 3, 4, 5, 6, 7, 8] rfl
  have hD : va_D A [(h0, .inr (10, [.int 0, .ref q_1, .ref q_2, .ref q_3, .ref q_4, .ref q_5, .ref q_6, .int 0, .ref q_7, .int 0, .int 0, .int 0, .int 0, .int 0, .int 0, .int 0, .int 0, .long 0, .int 0, .int 0, .ref q_8, .ref q_9, .ref q_10, .ref q_11, .ref q_12, .ref q_13, .ref q_14, .ref q_15, .int 0, .int 0, .int 0, .ref q_16, .ref q_17, .ref q_18, .ref q_19, .ref q_20, .ref q_21, .int 0, .ref q_22, .ref q_23, .ref q_24, .null, .null, .null, .null, .null, .null, .null, .null, .null, .null, .null, .null, .null, .null, .int 0, .int 0, .int 0, .int 0])), (q_1, .inl (cy 2, 6, .inl (fun _ => 0))), (q_2, .inl (cy 0, 6, .inl (fun _ => 0))), (q_3, .inl (cy 0, 6, .inl (fun _ => 0))), (q_4, .inl (cy 0, 6, .inl (fun _ => 0))), (q_5, .inl (cy 0, 6, .inl (fun _ => 0))), (q_6, .inl (cy 0, 1200, .inl (fun _ => 0))), (q_7, .inl (cy 1, 800, .inl (fun _ => 0))), (q_22, .inl (cy 2, 4, .inl (fun _ => 0)))] := va_D.sub hD [0, 1, 2, 3, 4, 5, 6, 7, 8] (by decide) rfl
  refine lv_aload_n hx hb dX10_init_203 rfl (lv_at hl 0 rfl) ?_
  refine lv_iconst (v := 4) hx hb dX10_init_204 (by decide) ?_
  refine gz_newa (atype := .int) (t0 := 0) (a0 := (4, .inl (fun _ => 0))) hx hb rfl (fun _ _ h9 => h9) (hts _ gm_98) rfl hK hP hD hS hA (fun _ => rfl) (by decide) (by decide) (Nat.le_of_ble_eq_true rfl) (Nat.le_of_ble_eq_true rfl) (Nat.le_of_ble_eq_true rfl) dX10_init_205 (fun q_25 H hP hD hS => ?_)
  have hP : va_P G vwCl [(h0, .inr (10, [.int 0, .ref q_1, .ref q_2, .ref q_3, .ref q_4, .ref q_5, .ref q_6, .int 0, .ref q_7, .int 0, .int 0, .int 0, .int 0, .int 0, .int 0, .int 0, .int 0, .long 0, .int 0, .int 0, .ref q_8, .ref q_9, .ref q_10, .ref q_11, .ref q_12, .ref q_13, .ref q_14, .ref q_15, .int 0, .int 0, .int 0, .ref q_16, .ref q_17, .ref q_18, .ref q_19, .ref q_20, .ref q_21, .int 0, .ref q_22, .ref q_23, .ref q_24, .null, .null, .null, .null, .null, .null, .null, .null, .null, .null, .null, .null, .null, .null, .int 0, .int 0, .int 0, .int 0])), (q_1, .inl (cy 2, 6, .inl (fun _ => 0))), (q_2, .inl (cy 0, 6, .inl (fun _ => 0))), (q_3, .inl (cy 0, 6, .inl (fun _ => 0))), (q_4, .inl (cy 0, 6, .inl (fun _ => 0))), (q_5, .inl (cy 0, 6, .inl (fun _ => 0))), (q_6, .inl (cy 0, 1200, .inl (fun _ => 0))), (q_7, .inl (cy 1, 800, .inl (fun _ => 0))), (q_22, .inl (cy 2, 4, .inl (fun _ => 0))), (q_25, .inl (cy 0, 4, .inl (fun _ => 0)))] H := hP
  have hD : va_D A [(h0, .inr (10, [.int 0, .ref q_1, .ref q_2, .ref q_3, .ref q_4, .ref q_5, .ref q_6, .int 0, .ref q_7, .int 0, .int 0, .int 0, .int 0, .int 0, .int 0, .int 0, .int 0, .long 0, .int 0, .int 0, .ref q_8, .ref q_9, .ref q_10, .ref q_11, .ref q_12, .ref q_13, .ref q_14, .ref q_15, .int 0, .int 0, .int 0, .ref q_16, .ref q_17, .ref q_18, .ref q_19, .ref q_20, .ref q_21, .int 0, .ref q_22, .ref q_23, .ref q_24, .null, .null, .null, .null, .null, .null, .null, .null, .null, .null, .null, .null, .null, .null, .int 0, .int 0, .int 0, .int 0])), (q_1, .inl (cy 2, 6, .inl (fun _ => 0))), (q_2, .inl (cy 0, 6, .inl (fun _ => 0))), (q_3, .inl (cy 0, 6, .inl (fun _ => 0))), (q_4, .inl (cy 0, 6, .inl (fun _ => 0))), (q_5, .inl (cy 0, 6, .inl (fun _ => 0))), (q_6, .inl (cy 0, 1200, .inl (fun _ => 0))), (q_7, .inl (cy 1, 800, .inl (fun _ => 0))), (q_22, .inl (cy 2, 4, .inl (fun _ => 0))), (q_25, .inl (cy 0, 4, .inl (fun _ => 0)))] := hD
  refine W.widen (k := 25) (n := 4902) (Nat.le_of_ble_eq_true rfl) (Nat.le_of_ble_eq_true rfl) ?_
  refine va_putF (ci := 10) (v := .ref q_25) (ty := .array .int) (C := RX10) (T := TX10) (N := 59) hx hb hts inX10 tyX10 tyX10_ok nmX10 hown hK hP hD hS 0 rfl rfl 41 (by decide) (hts _ gm_942) (fun _ h9 => h9) rfl hin rfl (by decide +kernel) rfl rfl (Nat.le_of_ble_eq_true rfl) dX10_init_207 (fun H locs hP hD hS => ?_)
  have hP : va_P G vwCl [(h0, .inr (10, [.int 0, .ref q_1, .ref q_2, .ref q_3, .ref q_4, .ref q_5, .ref q_6, .int 0, .ref q_7, .int 0, .int 0, .int 0, .int 0, .int 0, .int 0, .int 0, .int 0, .long 0, .int 0, .int 0, .ref q_8, .ref q_9, .ref q_10, .ref q_11, .ref q_12, .ref q_13, .ref q_14, .ref q_15, .int 0, .int 0, .int 0, .ref q_16, .ref q_17, .ref q_18, .ref q_19, .ref q_20, .ref q_21, .int 0, .ref q_22, .ref q_23, .ref q_24, .ref q_25, .null, .null, .null, .null, .null, .null, .null, .null, .null, .null, .null, .null, .null, .int 0, .int 0, .int 0, .int 0])), (q_1, .inl (cy 2, 6, .inl (fun _ => 0))), (q_2, .inl (cy 0, 6, .inl (fun _ => 0))), (q_3, .inl (cy 0, 6, .inl (fun _ => 0))), (q_4, .inl (cy 0, 6, .inl (fun _ => 0))), (q_5, .inl (cy 0, 6, .inl (fun _ => 0))), (q_6, .inl (cy 0, 1200, .inl (fun _ => 0))), (q_7, .inl (cy 1, 800, .inl (fun _ => 0))), (q_22, .inl (cy 2, 4, .inl (fun _ => 0)))] H := va_P.sub hP [0, 1, 2, 3, 4, 5, 6, 7, 8] rfl
  have hD : va_D A [(h0, .inr (10, [.int 0, .ref q_1, .ref q_2, .ref q_3, .ref q_4, .ref q_5, .ref q_6, .int 0, .ref q_7, .int 0, .int 0, .int 0, .int 0, .int 0, .int 0, .int 0, .int 0, .long 0, .int 0, .int 0, .ref q_8, .ref q_9, .ref q_10, .ref q_11, .ref q_12, .ref q_13, .ref q_14, .ref q_15, .int 0, .int 0, .int 0, .ref q_16, .ref q_17, .ref q_18, .ref q_19, .ref q_20, .ref q_21, .int 0, .ref q_22, .ref q_23, .ref q_24, .ref q_25, .null, .null, .null, .null, .null, .null, .null, .null, .null, .null, .null, .null, .null, .int 0, .int 0, .int 0, .int 0])), (q_1, .inl (cy 2, 6, .inl (fun _ => 0))), (q_2, .inl (cy 0, 6, .inl (fun _ => 0))), (q_3, .inl (cy 0, 6, .inl (fun _ => 0))), (q_4, .inl (cy 0, 6, .inl (fun _ => 0))), (q_5, .inl (cy 0, 6, .inl (fun _ => 0))), (q_6, .inl (cy 0, 1200, .inl (fun _ => 0))), (q_7, .inl (cy 1, 800, .inl (fun _ => 0))), (q_22, .inl (cy 2, 4, .inl (fun _ => 0)))] := va_D.sub hD [0, 1, 2, 3, 4, 5, 6, 7, 8] (by decide) rfl
  refine lv_aload_n hx hb dX10_init_210 rfl (lv_at hl 0 rfl) ?_
  refine lv_iconst (v := 4) hx hb dX10_init_211 (by decide) ?_
  refine gz_newa (atype := .int) (t0 := 0) (a0 := (4, .inl (fun _ => 0))) hx hb rfl (fun _ _ h9 => h9) (hts _ gm_98) rfl hK hP hD hS hA (fun _ => rfl) (by decide) (by decide) (Nat.le_of_ble_eq_true rfl) (Nat.le_of_ble_eq_true rfl) (Nat.le_of_ble_eq_true rfl) dX10_init_212 (fun q_26 H hP hD hS => ?_)
  have hP : va_P G vwCl [(h0, .inr (10, [.int 0, .ref q_1, .ref q_2, .ref q_3, .ref q_4, .ref q_5, .ref q_6, .int 0, .ref q_7, .int 0, .int 0, .int 0, .int 0, .int 0, .int 0, .int 0, .int 0, .long 0, .int 0, .int 0, .ref q_8, .ref q_9, .ref q_10, .ref q_11, .ref q_12, .ref q_13, .ref q_14, .ref q_15, .int 0, .int 0, .int 0, .ref q_16, .ref q_17, .ref q_18, .ref q_19, .ref q_20, .ref q_21, .int 0, .ref q_22, .ref q_23, .ref q_24, .ref q_25, .null, .null, .null, .null, .null, .null, .null, .null, .null, .null, .null, .null, .null, .int 0, .int 0, .int 0, .int 0])), (q_1, .inl (cy 2, 6, .inl (fun _ => 0))), (q_2, .inl (cy 0, 6, .inl (fun _ => 0))), (q_3, .inl (cy 0, 6, .inl (fun _ => 0))), (q_4, .inl (cy 0, 6, .inl (fun _ => 0))), (q_5, .inl (cy 0, 6, .inl (fun _ => 0))), (q_6, .inl (cy 0, 1200, .inl (fun _ => 0))), (q_7, .inl (cy 1, 800, .inl (fun _ => 0))), (q_22, .inl (cy 2, 4, .inl (fun _ => 0))), (q_26, .inl (cy 0, 4, .inl (fun _ => 0)))] H := hP
  have hD : va_D A [(h0, .inr (10, [.int 0, .ref q_1, .ref q_2, .ref q_3, .ref q_4, .ref q_5, .ref q_6, .int 0, .ref q_7, .int 0, .int 0, .int 0, .int 0, .int 0, .int 0, .int 0, .int 0, .long 0, .int 0, .int 0, .ref q_8, .ref q_9, .ref q_10, .ref q_11, .ref q_12, .ref q_13, .ref q_14, .ref q_15, .int 0, .int 0, .int 0, .ref q_16, .ref q_17, .ref q_18, .ref q_19, .ref q_20, .ref q_21, .int 0, .ref q_22, .ref q_23, .ref q_24, .ref q_25, .null, .null, .null, .null, .null, .null, .null, .null, .null, .null, .null, .null, .null, .int 0, .int 0, .int 0, .int 0])), (q_1, .inl (cy 2, 6, .inl (fun _ => 0))), (q_2, .inl (cy 0, 6, .inl (fun _ => 0))), (q_3, .inl (cy 0, 6, .inl (fun _ => 0))), (q_4, .inl (cy 0, 6, .inl (fun _ => 0))), (q_5, .inl (cy 0, 6, .inl (fun _ => 0))), (q_6, .inl (cy 0, 1200, .inl (fun _ => 0))), (q_7, .inl (cy 1, 800, .inl (fun _ => 0))), (q_22, .inl (cy 2, 4, .inl (fun _ => 0))), (q_26, .inl (cy 0, 4, .inl (fun _ => 0)))] := hD
  refine W.widen (k := 26) (n := 4906) (Nat.le_of_ble_eq_true rfl) (Nat.le_of_ble_eq_true rfl) ?_
  refine va_putF (ci := 10) (v := .ref q_26) (ty := .array .int) (C := RX10) (T := TX10) (N := 59) hx hb hts inX10 tyX10 tyX10_ok nmX10 hown hK hP hD hS 0 rfl rfl 42 (by decide) (hts _ gm_943) (fun _ h9 => h9) rfl hin rfl (by decide +kernel) rfl rfl (Nat.le_of_ble_eq_true rfl) dX10_init_214 (fun H locs hP hD hS => ?_)
  have hP : va_P G vwCl [(h0, .inr (10, [.int 0, .ref q_1, .ref q_2, .ref q_3, .ref q_4, .ref q_5, .ref q_6, .int 0, .ref q_7, .int 0, .int 0, .int 0, .int 0, .int 0, .int 0, .int 0, .int 0, .long 0, .int 0, .int 0, .ref q_8, .ref q_9, .ref q_10, .ref q_11, .ref q_12, .ref q_13, .ref q_14, .ref q_15, .int 0, .int 0, .int 0, .ref q_16, .ref q_17, .ref q_18, .ref q_19, .ref q_20, .ref q_21, .int 0, .ref q_22, .ref q_23, .ref q_24, .ref q_25, .ref q_26, .null, .null, .null, .null, .null, .null, .null, .null, .null, .null, .null, .null, .int 0, .int 0, .int 0, .int 0])), (q_1, .inl (cy 2, 6, .inl (fun _ => 0))), (q_2, .inl (cy 0, 6, .inl (fun _ => 0))), (q_3, .inl (cy 0, 6, .inl (fun _ => 0))), (q_4, .inl (cy 0, 6, .inl (fun _ => 0))), (q_5, .inl (cy 0, 6, .inl (fun _ => 0))), (q_6, .inl (cy 0, 1200, .inl (fun _ => 0))), (q_7, .inl (cy 1, 800, .inl (fun _ => 0))), (q_22, .inl (cy 2, 4, .inl (fun _ => 0)))] H := va_P.sub hP [0, 1, 2, 3, 4, 5, 6, 7, 8] rfl
  have hD : va_D A [(h0, .inr (10, [.int 0, .ref q_1, .ref q_2, .ref q_3, .ref q_4, .ref q_5, .ref q_6, .int 0, .ref q_7, .int 0, .int 0, .int 0, .int 0, .int 0, .int 0, .int 0, .int 0, .long 0, .int 0, .int 0, .ref q_8, .ref q_9, .ref q_10, .ref q_11, .ref q_12, .ref q_13, .ref q_14, .ref q_15, .int 0, .int 0, .int 0, .ref q_16, .ref q_17, .ref q_18, .ref q_19, .ref q_20, .ref q_21, .int 0, .ref q_22, .ref q_23, .ref q_24, .ref q_25, .ref q_26, .null, .null, .null, .null, .null, .null, .null, .null, .null, .null, .null, .null, .int 0, .int 0, .int 0, .int 0])), (q_1, .inl (cy 2, 6, .inl (fun _ => 0))), (q_2, .inl (cy 0, 6, .inl (fun _ => 0))), (q_3, .inl (cy 0, 6, .inl (fun _ => 0))), (q_4, .inl (cy 0, 6, .inl (fun _ => 0))), (q_5, .inl (cy 0, 6, .inl (fun _ => 0))), (q_6, .inl (cy 0, 1200, .inl (fun _ => 0))), (q_7, .inl (cy 1, 800, .inl (fun _ => 0))), (q_22, .inl (cy 2, 4, .inl (fun _ => 0)))] := va_D.sub hD [0, 1, 2, 3, 4, 5, 6, 7, 8] (by decide) rfl
  refine lv_aload_n hx hb dX10_init_217 rfl (lv_at hl 0 rfl) ?_
  refine lv_iconst (v := 4) hx hb dX10_init_218 (by decide) ?_
  refine gz_newa (atype := .int) (t0 := 0) (a0 := (4, .inl (fun _ => 0))) hx hb rfl (fun _ _ h9 => h9) (hts _ gm_98) rfl hK hP hD hS hA (fun _ => rfl) (by decide) (by decide) (Nat.le_of_ble_eq_true rfl) (Nat.le_of_ble_eq_true rfl) (Nat.le_of_ble_eq_true rfl) dX10_init_219 (fun q_27 H hP hD hS => ?_)
  have hP : va_P G vwCl [(h0, .inr (10, [.int 0, .ref q_1, .ref q_2, .ref q_3, .ref q_4, .ref q_5, .ref q_6, .int 0, .ref q_7, .int 0, .int 0, .int 0, .int 0, .int 0, .int 0, .int 0, .int 0, .long 0, .int 0, .int 0, .ref q_8, .ref q_9, .ref q_10, .ref q_11, .ref q_12, .ref q_13, .ref q_14, .ref q_15, .int 0, .int 0, .int 0, .ref q_16, .ref q_17, .ref q_18, .ref q_19, .ref q_20, .ref q_21, .int 0, .ref q_22, .ref q_23, .ref q_24, .ref q_25, .ref q_26, .null, .null, .null, .null, .null, .null, .null, .null, .null, .null, .null, .null, .int 0, .int 0, .int 0, .int 0])), (q_1, .inl (cy 2, 6, .inl (fun _ => 0))), (q_2, .inl (cy 0, 6, .inl (fun _ => 0))), (q_3, .inl (cy 0, 6, .inl (fun _ => 0))), (q_4, .inl (cy 0, 6, .inl (fun _ => 0))), (q_5, .inl (cy 0, 6, .inl (fun _ => 0))), (q_6, .inl (cy 0, 1200, .inl (fun _ => 0))), (q_7, .inl (cy 1, 800, .inl (fun _ => 0))), (q_22, .inl (cy 2, 4, .inl (fun _ => 0))), (q_27, .inl (cy 0, 4, .inl (fun _ => 0)))] H := hP
  have hD : va_D A [(h0, .inr (10, [.int 0, .ref q_1, .ref q_2, .ref q_3, .ref q_4, .ref q_5, .ref q_6, .int 0, .ref q_7, .int 0, .int 0, .int 0, .int 0, .int 0, .int 0, .int 0, .int 0, .long 0, .int 0, .int 0, .ref q_8, .ref q_9, .ref q_10, .ref q_11, .ref q_12, .ref q_13, .ref q_14, .ref q_15, .int 0, .int 0, .int 0, .ref q_16, .ref q_17, .ref q_18, .ref q_19, .ref q_20, .ref q_21, .int 0, .ref q_22, .ref q_23, .ref q_24, .ref q_25, .ref q_26, .null, .null, .null, .null, .null, .null, .null, .null, .null, .null, .null, .null, .int 0, .int 0, .int 0, .int 0])), (q_1, .inl (cy 2, 6, .inl (fun _ => 0))), (q_2, .inl (cy 0, 6, .inl (fun _ => 0))), (q_3, .inl (cy 0, 6, .inl (fun _ => 0))), (q_4, .inl (cy 0, 6, .inl (fun _ => 0))), (q_5, .inl (cy 0, 6, .inl (fun _ => 0))), (q_6, .inl (cy 0, 1200, .inl (fun _ => 0))), (q_7, .inl (cy 1, 800, .inl (fun _ => 0))), (q_22, .inl (cy 2, 4, .inl (fun _ => 0))), (q_27, .inl (cy 0, 4, .inl (fun _ => 0)))] := hD
  refine W.widen (k := 27) (n := 4910) (Nat.le_of_ble_eq_true rfl) (Nat.le_of_ble_eq_true rfl) ?_
  refine va_putF (ci := 10) (v := .ref q_27) (ty := .array .int) (C := RX10) (T := TX10) (N := 59) hx hb hts inX10 tyX10 tyX10_ok nmX10 hown hK hP hD hS 0 rfl rfl 43 (by decide) (hts _ gm_944) (fun _ h9 => h9) rfl hin rfl (by decide +kernel) rfl rfl (Nat.le_of_ble_eq_true rfl) dX10_init_221 (fun H locs hP hD hS => ?_)
  have hP : va_P G vwCl [(h0, .inr (10, [.int 0, .ref q_1, .ref q_2, .ref q_3, .ref q_4, .ref q_5, .ref q_6, .int 0, .ref q_7, .int 0, .int 0, .int 0, .int 0, .int 0, .int 0, .int 0, .int 0, .long 0, .int 0, .int 0, .ref q_8, .ref q_9, .ref q_10, .ref q_11, .ref q_12, .ref q_13, .ref q_14, .ref q_15, .int 0, .int 0, .int 0, .ref q_16, .ref q_17, .ref q_18, .ref q_19, .ref q_20, .ref q_21, .int 0, .ref q_22, .ref q_23, .ref q_24, .ref q_25, .ref q_26, .ref q_27, .null, .null, .null, .null, .null, .null, .null, .null, .null, .null, .null, .int 0, .int 0, .int 0, .int 0])), (q_1, .inl (cy 2, 6, .inl (fun _ => 0))), (q_2, .inl (cy 0, 6, .inl (fun _ => 0))), (q_3, .inl (cy 0, 6, .inl (fun _ => 0))), (q_4, .inl (cy 0, 6, .inl (fun _ => 0))), (q_5, .inl (cy 0, 6, .inl (fun _ => 0))), (q_6, .inl (cy 0, 1200, .inl (fun _ => 0))), (q_7, .inl (cy 1, 800, .inl (fun _ => 0))), (q_22, .inl (cy 2, 4, .inl (fun _ => 0)))] H := va_P.sub hP [0, 1, 2, 3, 4, 5, 6, 7, 8] rfl
  have hD : va_D A [(h0, .inr (10, [.int 0, .ref q_1, .ref q_2, .ref q_3, .ref q_4, .ref q_5, .ref q_6, .int 0, .ref q_7, .int 0, .int 0, .int 0, .int 0, .int 0, .int 0, .int 0, .int 0, .long 0, .int 0, .int 0, .ref q_8, .ref q_9, .ref q_10, .ref q_11, .ref q_12, .ref q_13, .ref q_14, .ref q_15, .int 0, .int 0, .int 0, .ref q_16, .ref q_17, .ref q_18, .ref q_19, .ref q_20, .ref q_21, .int 0, .ref q_22, .ref q_23, .ref q_24, .ref q_25, .ref q_26, .ref q_27, .null, .null, .null, .null, .null, .null, .null, .null, .null, .null, .null, .int 0, .int 0, .int 0, .int 0])), (q_1, .inl (cy 2, 6, .inl (fun _ => 0))), (q_2, .inl (cy 0, 6, .inl (fun _ => 0))), (q_3, .inl (cy 0, 6, .inl (fun _ => 0))), (q_4, .inl (cy 0, 6, .inl (fun _ => 0))), (q_5, .inl (cy 0, 6, .inl (fun _ => 0))), (q_6, .inl (cy 0, 1200, .inl (fun _ => 0))), (q_7, .inl (cy 1, 800, .inl (fun _ => 0))), (q_22, .inl (cy 2, 4, .inl (fun _ => 0)))] := va_D.sub hD [0, 1, 2, 3, 4, 5, 6, 7, 8] (by decide) rfl
  refine lv_aload_n hx hb dX10_init_224 rfl (lv_at hl 0 rfl) ?_
  refine lv_bipush (v := 36) hx hb dX10_init_225 (by decide) ?_
  refine gz_newa (atype := .int) (t0 := 0) (a0 := (36, .inl (fun _ => 0))) hx hb rfl (fun _ _ h9 => h9) (hts _ gm_98) rfl hK hP hD hS hA (fun _ => rfl) (by decide) (by decide) (Nat.le_of_ble_eq_true rfl) (Nat.le_of_ble_eq_true rfl) (Nat.le_of_ble_eq_true rfl) dX10_init_227 (fun q_28 H hP hD hS => ?_)
  have hP : va_P G vwCl [(h0, .inr (10, [.int 0, .ref q_1, .ref q_2, .ref q_3, .ref q_4, .ref q_5, .ref q_6, .int 0, .ref q_7, .int 0, .int 0, .int 0, .int 0, .int 0, .int 0, .int 0, .int 0, .long 0, .int 0, .int 0, .ref q_8, .ref q_9, .ref q_10, .ref q_11, .ref q_12, .ref q_13, .ref q_14, .ref q_15, .int 0, .int 0, .int 0, .ref q_16, .ref q_17, .ref q_18, .ref q_19, .ref q_20, .ref q_21, .int 0, .ref q_22, .ref q_23, .ref q_24, .ref q_25, .ref q_26, .ref q_27, .null, .null, .null, .null, .null, .null, .null, .null, .null, .null, .null, .int 0, .int 0, .int 0, .int 0])), (q_1, .inl (cy 2, 6, .inl (fun _ => 0))), (q_2, .inl (cy 0, 6, .inl (fun _ => 0))), (q_3, .inl (cy 0, 6, .inl (fun _ => 0))), (q_4, .inl (cy 0, 6, .inl (fun _ => 0))), (q_5, .inl (cy 0, 6, .inl (fun _ => 0))), (q_6, .inl (cy 0, 1200, .inl (fun _ => 0))), (q_7, .inl (cy 1, 800, .inl (fun _ => 0))), (q_22, .inl (cy 2, 4, .inl (fun _ => 0))), (q_28, .inl (cy 0, 36, .inl (fun _ => 0)))] H := hP
  have hD : va_D A [(h0, .inr (10, [.int 0, .ref q_1, .ref q_2, .ref q_3, .ref q_4, .ref q_5, .ref q_6, .int 0, .ref q_7, .int 0, .int 0, .int 0, .int 0, .int 0, .int 0, .int 0, .int 0, .long 0, .int 0, .int 0, .ref q_8, .ref q_9, .ref q_10, .ref q_11, .ref q_12, .ref q_13, .ref q_14, .ref q_15, .int 0, .int 0, .int 0, .ref q_16, .ref q_17, .ref q_18, .ref q_19, .ref q_20, .ref q_21, .int 0, .ref q_22, .ref q_23, .ref q_24, .ref q_25, .ref q_26, .ref q_27, .null, .null, .null, .null, .null, .null, .null, .null, .null, .null, .null, .int 0, .int 0, .int 0, .int 0])), (q_1, .inl (cy 2, 6, .inl (fun _ => 0))), (q_2, .inl (cy 0, 6, .inl (fun _ => 0))), (q_3, .inl (cy 0, 6, .inl (fun _ => 0))), (q_4, .inl (cy 0, 6, .inl (fun _ => 0))), (q_5, .inl (cy 0, 6, .inl (fun _ => 0))), (q_6, .inl (cy 0, 1200, .inl (fun _ => 0))), (q_7, .inl (cy 1, 800, .inl (fun _ => 0))), (q_22, .inl (cy 2, 4, .inl (fun _ => 0))), (q_28, .inl (cy 0, 36, .inl (fun _ => 0)))] := hD
  refine W.widen (k := 28) (n := 4946) (Nat.le_of_ble_eq_true rfl) (Nat.le_of_ble_eq_true rfl) ?_
  refine va_putF (ci := 10) (v := .ref q_28) (ty := .array .int) (C := RX10) (T := TX10) (N := 59) hx hb hts inX10 tyX10 tyX10_ok nmX10 hown hK hP hD hS 0 rfl rfl 44 (by decide) (hts _ gm_945) (fun _ h9 => h9) rfl hin rfl (by decide +kernel) rfl rfl (Nat.le_of_ble_eq_true rfl) dX10_init_229 (fun H locs hP hD hS => ?_)
  have hP : va_P G vwCl [(h0, .inr (10, [.int 0, .ref q_1, .ref q_2, .ref q_3, .ref q_4, .ref q_5, .ref q_6, .int 0, .ref q_7, .int 0, .int 0, .int 0, .int 0, .int 0, .int 0, .int 0, .int 0, .long 0, .int 0, .int 0, .ref q_8, .ref q_9, .ref q_10, .ref q_11, .ref q_12, .ref q_13, .ref q_14, .ref q_15, .int 0, .int 0, .int 0, .ref q_16, .ref q_17, .ref q_18, .ref q_19, .ref q_20, .ref q_21, .int 0, .ref q_22, .ref q_23, .ref q_24, .ref q_25, .ref q_26, .ref q_27, .ref q_28, .null, .null, .null, .null, .null, .null, .null, .null, .null, .null, .int 0, .int 0, .int 0, .int 0])), (q_1, .inl (cy 2, 6, .inl (fun _ => 0))), (q_2, .inl (cy 0, 6, .inl (fun _ => 0))), (q_3, .inl (cy 0, 6, .inl (fun _ => 0))), (q_4, .inl (cy 0, 6, .inl (fun _ => 0))), (q_5, .inl (cy 0, 6, .inl (fun _ => 0))), (q_6, .inl (cy 0, 1200, .inl (fun _ => 0))), (q_7, .inl (cy 1, 800, .inl (fun _ => 0))), (q_22, .inl (cy 2, 4, .inl (fun _ => 0))), (q_28, .inl (cy 0, 36, .inl (fun _ => 0)))] H := hP
  have hD : va_D A [(h0, .inr (10, [.int 0, .ref q_1, .ref q_2, .ref q_3, .ref q_4, .ref q_5, .ref q_6, .int 0, .ref q_7, .int 0, .int 0, .int 0, .int 0, .int 0, .int 0, .int 0, .int 0, .long 0, .int 0, .int 0, .ref q_8, .ref q_9, .ref q_10, .ref q_11, .ref q_12, .ref q_13, .ref q_14, .ref q_15, .int 0, .int 0, .int 0, .ref q_16, .ref q_17, .ref q_18, .ref q_19, .ref q_20, .ref q_21, .int 0, .ref q_22, .ref q_23, .ref q_24, .ref q_25, .ref q_26, .ref q_27, .ref q_28, .null, .null, .null, .null, .null, .null, .null, .null, .null, .null, .int 0, .int 0, .int 0, .int 0])), (q_1, .inl (cy 2, 6, .inl (fun _ => 0))), (q_2, .inl (cy 0, 6, .inl (fun _ => 0))), (q_3, .inl (cy 0, 6, .inl (fun _ => 0))), (q_4, .inl (cy 0, 6, .inl (fun _ => 0))), (q_5, .inl (cy 0, 6, .inl (fun _ => 0))), (q_6, .inl (cy 0, 1200, .inl (fun _ => 0))), (q_7, .inl (cy 1, 800, .inl (fun _ => 0))), (q_22, .inl (cy 2, 4, .inl (fun _ => 0))), (q_28, .inl (cy 0, 36, .inl (fun _ => 0)))] := hD
  refine lv_aload_n hx hb dX10_init_232 rfl (lv_at hl 0 rfl) ?_
  refine lv_sipush (v := 342) hx hb dX10_init_233 (by decide) ?_
  refine gz_newa (atype := .int) (t0 := 0) (a0 := (342, .inl (fun _ => 0))) hx hb rfl (fun _ _ h9 => h9) (hts _ gm_98) rfl hK hP hD hS hA (fun _ => rfl) (by decide) (by decide) (Nat.le_of_ble_eq_true rfl) (Nat.le_of_ble_eq_true rfl) (Nat.le_of_ble_eq_true rfl) dX10_init_236 (fun q_29 H hP hD hS => ?_)
  have hP : va_P G vwCl [(h0, .inr (10, [.int 0, .ref q_1, .ref q_2, .ref q_3, .ref q_4, .ref q_5, .ref q_6, .int 0, .ref q_7, .int 0, .int 0, .int 0, .int 0, .int 0, .int 0, .int 0, .int 0, .long 0, .int 0, .int 0, .ref q_8, .ref q_9, .ref q_10, .ref q_11, .ref q_12, .ref q_13, .ref q_14, .ref q_15, .int 0, .int 0, .int 0, .ref q_16, .ref q_17, .ref q_18, .ref q_19, .ref q_20, .ref q_21, .int 0, .ref q_22, .ref q_23, .ref q_24, .ref q_25, .ref q_26, .ref q_27, .ref q_28, .null, .null, .null, .null, .null, .null, .null, .null, .null, .null, .int 0, .int 0, .int 0, .int 0])), (q_1, .inl (cy 2, 6, .inl (fun _ => 0))), (q_2, .inl (cy 0, 6, .inl (fun _ => 0))), (q_3, .inl (cy 0, 6, .inl (fun _ => 0))), (q_4, .inl (cy 0, 6, .inl (fun _ => 0))), (q_5, .inl (cy 0, 6, .inl (fun _ => 0))), (q_6, .inl (cy 0, 1200, .inl (fun _ => 0))), (q_7, .inl (cy 1, 800, .inl (fun _ => 0))), (q_22, .inl (cy 2, 4, .inl (fun _ => 0))), (q_28, .inl (cy 0, 36, .inl (fun _ => 0))), (q_29, .inl (cy 0, 342, .inl (fun _ => 0)))] H := hP
  have hD : va_D A [(h0, .inr (10, [.int 0, .ref q_1, .ref q_2, .ref q_3, .ref q_4, .ref q_5, .ref q_6, .int 0, .ref q_7, .int 0, .int 0, .int 0, .int 0, .int 0, .int 0, .int 0, .int 0, .long 0, .int 0, .int 0, .ref q_8, .ref q_9, .ref q_10, .ref q_11, .ref q_12, .ref q_13, .ref q_14, .ref q_15, .int 0, .int 0, .int 0, .ref q_16, .ref q_17, .ref q_18, .ref q_19, .ref q_20, .ref q_21, .int 0, .ref q_22, .ref q_23, .ref q_24, .ref q_25, .ref q_26, .ref q_27, .ref q_28, .null, .null, .null, .null, .null, .null, .null, .null, .null, .null, .int 0, .int 0, .int 0, .int 0])), (q_1, .inl (cy 2, 6, .inl (fun _ => 0))), (q_2, .inl (cy 0, 6, .inl (fun _ => 0))), (q_3, .inl (cy 0, 6, .inl (fun _ => 0))), (q_4, .inl (cy 0, 6, .inl (fun _ => 0))), (q_5, .inl (cy 0, 6, .inl (fun _ => 0))), (q_6, .inl (cy 0, 1200, .inl (fun _ => 0))), (q_7, .inl (cy 1, 800, .inl (fun _ => 0))), (q_22, .inl (cy 2, 4, .inl (fun _ => 0))), (q_28, .inl (cy 0, 36, .inl (fun _ => 0))), (q_29, .inl (cy 0, 342, .inl (fun _ => 0)))] := hD
  refine W.widen (k := 29) (n := 5288) (Nat.le_of_ble_eq_true rfl) (Nat.le_of_ble_eq_true rfl) ?_
  refine va_putF (ci := 10) (v := .ref q_29) (ty := .array .int) (C := RX10) (T := TX10) (N := 59) hx hb hts inX10 tyX10 tyX10_ok nmX10 hown hK hP hD hS 0 rfl rfl 45 (by decide) (hts _ gm_946) (fun _ h9 => h9) rfl hin rfl (by decide +kernel) rfl rfl (Nat.le_of_ble_eq_true rfl) dX10_init_238 (fun H locs hP hD hS => ?_)
  have hP : va_P G vwCl [(h0, .inr (10, [.int 0, .ref q_1, .ref q_2, .ref q_3, .ref q_4, .ref q_5, .ref q_6, .int 0, .ref q_7, .int 0, .int 0, .int 0, .int 0, .int 0, .int 0, .int 0, .int 0, .long 0, .int 0, .int 0, .ref q_8, .ref q_9, .ref q_10, .ref q_11, .ref q_12, .ref q_13, .ref q_14, .ref q_15, .int 0, .int 0, .int 0, .ref q_16, .ref q_17, .ref q_18, .ref q_19, .ref q_20, .ref q_21, .int 0, .ref q_22, .ref q_23, .ref q_24, .ref q_25, .ref q_26, .ref q_27, .ref q_28, .ref q_29, .null, .null, .null, .null, .null, .null, .null, .null, .null, .int 0, .int 0, .int 0, .int 0])), (q_1, .inl (cy 2, 6, .inl (fun _ => 0))), (q_2, .inl (cy 0, 6, .inl (fun _ => 0))), (q_3, .inl (cy 0, 6, .inl (fun _ => 0))), (q_4, .inl (cy 0, 6, .inl (fun _ => 0))), (q_5, .inl (cy 0, 6, .inl (fun _ => 0))), (q_6, .inl (cy 0, 1200, .inl (fun _ => 0))), (q_7, .inl (cy 1, 800, .inl (fun _ => 0))), (q_22, .inl (cy 2, 4, .inl (fun _ => 0))), (q_28, .inl (cy 0, 36, .inl (fun _ => 0)))] H := va_P.sub hP [0, 1, 2, 3, 4, 5, 6, 7, 8, 9] rfl
  have hD : va_D A [(h0, .inr (10, [.int 0, .ref q_1, .ref q_2, .ref q_3, .ref q_4, .ref q_5, .ref q_6, .int 0, .ref q_7, .int 0, .int 0, .int 0, .int 0, .int 0, .int 0, .int 0, .int 0, .long 0, .int 0, .int 0, .ref q_8, .ref q_9, .ref q_10, .ref q_11, .ref q_12, .ref q_13, .ref q_14, .ref q_15, .int 0, .int 0, .int 0, .ref q_16, .ref q_17, .ref q_18, .ref q_19, .ref q_20, .ref q_21, .int 0, .ref q_22, .ref q_23, .ref q_24, .ref q_25, .ref q_26, .ref q_27, .ref q_28, .ref q_29, .null, .null, .null, .null, .null, .null, .null, .null, .null, .int 0, .int 0, .int 0, .int 0])), (q_1, .inl (cy 2, 6, .inl (fun _ => 0))), (q_2, .inl (cy 0, 6, .inl (fun _ => 0))), (q_3, .inl (cy 0, 6, .inl (fun _ => 0))), (q_4, .inl (cy 0, 6, .inl (fun _ => 0))), (q_5, .inl (cy 0, 6, .inl (fun _ => 0))), (q_6, .inl (cy 0, 1200, .inl (fun _ => 0))), (q_7, .inl (cy 1, 800, .inl (fun _ => 0))), (q_22, .inl (cy 2, 4, .inl (fun _ => 0))), (q_28, .inl (cy 0, 36, .inl (fun _ => 0)))] := va_D.sub hD [0, 1, 2, 3, 4, 5, 6, 7, 8, 9] (by decide) rfl
  refine lv_aload_n hx hb dX10_init_241 rfl (lv_at hl 0 rfl) ?_
  refine lv_sipush (v := 228) hx hb dX10_init_242 (by decide) ?_
  refine gz_newa (atype := .int) (t0 := 0) (a0 := (228, .inl (fun _ => 0))) hx hb rfl (fun _ _ h9 => h9) (hts _ gm_98) rfl hK hP hD hS hA (fun _ => rfl) (by decide) (by decide) (Nat.le_of_ble_eq_true rfl) (Nat.le_of_ble_eq_true rfl) (Nat.le_of_ble_eq_true rfl) dX10_init_245 (fun q_30 H hP hD hS => ?_)
  have hP : va_P G vwCl [(h0, .inr (10, [.int 0, .ref q_1, .ref q_2, .ref q_3, .ref q_4, .ref q_5, .ref q_6, .int 0, .ref q_7, .int 0, .int 0, .int 0, .int 0, .int 0, .int 0, .int 0, .int 0, .long 0, .int 0, .int 0, .ref q_8, .ref q_9, .ref q_10, .ref q_11, .ref q_12, .ref q_13, .ref q_14, .ref q_15, .int 0, .int 0, .int 0, .ref q_16, .ref q_17, .ref q_18, .ref q_19, .ref q_20, .ref q_21, .int 0, .ref q_22, .ref q_23, .ref q_24, .ref q_25, .ref q_26, .ref q_27, .ref q_28, .ref q_29, .null, .null, .null, .null, .null, .null, .null, .null, .null, .int 0, .int 0, .int 0, .int 0])), (q_1, .inl (cy 2, 6, .inl (fun _ => 0))), (q_2, .inl (cy 0, 6, .inl (fun _ => 0))), (q_3, .inl (cy 0, 6, .inl (fun _ => 0))), (q_4, .inl (cy 0, 6, .inl (fun _ => 0))), (q_5, .inl (cy 0, 6, .inl (fun _ => 0))), (q_6, .inl (cy 0, 1200, .inl (fun _ => 0))), (q_7, .inl (cy 1, 800, .inl (fun _ => 0))), (q_22, .inl (cy 2, 4, .inl (fun _ => 0))), (q_28, .inl (cy 0, 36, .inl (fun _ => 0))), (q_30, .inl (cy 0, 228, .inl (fun _ => 0)))] H := hP
  have hD : va_D A [(h0, .inr (10, [.int 0, .ref q_1, .ref q_2, .ref q_3, .ref q_4, .ref q_5, .ref q_6, .int 0, .ref q_7, .int 0, .int 0, .int 0, .int 0, .int 0, .int 0, .int 0, .int 0, .long 0, .int 0, .int 0, .ref q_8, .ref q_9, .ref q_10, .ref q_11, .ref q_12, .ref q_13, .ref q_14, .ref q_15, .int 0, .int 0, .int 0, .ref q_16, .ref q_17, .ref q_18, .ref q_19, .ref q_20, .ref q_21, .int 0, .ref q_22, .ref q_23, .ref q_24, .ref q_25, .ref q_26, .ref q_27, .ref q_28, .ref q_29, .null, .null, .null, .null, .null, .null, .null, .null, .null, .int 0, .int 0, .int 0, .int 0])), (q_1, .inl (cy 2, 6, .inl (fun _ => 0))), (q_2, .inl (cy 0, 6, .inl (fun _ => 0))), (q_3, .inl (cy 0, 6, .inl (fun _ => 0))), (q_4, .inl (cy 0, 6, .inl (fun _ => 0))), (q_5, .inl (cy 0, 6, .inl (fun _ => 0))), (q_6, .inl (cy 0, 1200, .inl (fun _ => 0))), (q_7, .inl (cy 1, 800, .inl (fun _ => 0))), (q_22, .inl (cy 2, 4, .inl (fun _ => 0))), (q_28, .inl (cy 0, 36, .inl (fun _ => 0))), (q_30, .inl (cy 0, 228, .inl (fun _ => 0)))] := hD
  refine W.widen (k := 30) (n := 5516) (Nat.le_of_ble_eq_true rfl) (Nat.le_of_ble_eq_true rfl) ?_
  refine va_putF (ci := 10) (v := .ref q_30) (ty := .array .int) (C := RX10) (T := TX10) (N := 59) hx hb hts inX10 tyX10 tyX10_ok nmX10 hown hK hP hD hS 0 rfl rfl 46 (by decide) (hts _ gm_947) (fun _ h9 => h9) rfl hin rfl (by decide +kernel) rfl rfl (Nat.le_of_ble_eq_true rfl) dX10_init_247 (fun H locs hP hD hS => ?_)
  have hP : va_P G vwCl [(h0, .inr (10, [.int 0, .ref q_1, .ref q_2, .ref q_3, .ref q_4, .ref q_5, .ref q_6, .int 0, .ref q_7, .int 0, .int 0, .int 0, .int 0, .int 0, .int 0, .int 0, .int 0, .long 0, .int 0, .int 0, .ref q_8, .ref q_9, .ref q_10, .ref q_11, .ref q_12, .ref q_13, .ref q_14, .ref q_15, .int 0, .int 0, .int 0, .ref q_16, .ref q_17, .ref q_18, .ref q_19, .ref q_20, .ref q_21, .int 0, .ref q_22, .ref q_23, .ref q_24, .ref q_25, .ref q_26, .ref q_27, .ref q_28, .ref q_29, .ref q_30, .null, .null, .null, .null, .null, .null, .null, .null, .int 0, .int 0, .int 0, .int 0])), (q_1, .inl (cy 2, 6, .inl (fun _ => 0))), (q_2, .inl (cy 0, 6, .inl (fun _ => 0))), (q_3, .inl (cy 0, 6, .inl (fun _ => 0))), (q_4, .inl (cy 0, 6, .inl (fun _ => 0))), (q_5, .inl (cy 0, 6, .inl (fun _ => 0))), (q_6, .inl (cy 0, 1200, .inl (fun _ => 0))), (q_7, .inl (cy 1, 800, .inl (fun _ => 0))), (q_22, .inl (cy 2, 4, .inl (fun _ => 0))), (q_28, .inl (cy 0, 36, .inl (fun _ => 0)))] H := va_P.sub hP [0, 1, 2, 3, 4, 5, 6, 7, 8, 9] rfl
  have hD : va_D A [(h0, .inr (10, [.int 0, .ref q_1, .ref q_2, .ref q_3, .ref q_4, .ref q_5, .ref q_6, .int 0, .ref q_7, .int 0, .int 0, .int 0, .int 0, .int 0, .int 0, .int 0, .int 0, .long 0, .int 0, .int 0, .ref q_8, .ref q_9, .ref q_10, .ref q_11, .ref q_12, .ref q_13, .ref q_14, .ref q_15, .int 0, .int 0, .int 0, .ref q_16, .ref q_17, .ref q_18, .ref q_19, .ref q_20, .ref q_21, .int 0, .ref q_22, .ref q_23, .ref q_24, .ref q_25, .ref q_26, .ref q_27, .ref q_28, .ref q_29, .ref q_30, .null, .null, .null, .null, .null, .null, .null, .null, .int 0, .int 0, .int 0, .int 0])), (q_1, .inl (cy 2, 6, .inl (fun _ => 0))), (q_2, .inl (cy 0, 6, .inl (fun _ => 0))), (q_3, .inl (cy 0, 6, .inl (fun _ => 0))), (q_4, .inl (cy 0, 6, .inl (fun _ => 0))), (q_5, .inl (cy 0, 6, .inl (fun _ => 0))), (q_6, .inl (cy 0, 1200, .inl (fun _ => 0))), (q_7, .inl (cy 1, 800, .inl (fun _ => 0))), (q_22, .inl (cy 2, 4, .inl (fun _ => 0))), (q_28, .inl (cy 0, 36, .inl (fun _ => 0)))] := va_D.sub hD [0, 1, 2, 3, 4, 5, 6, 7, 8, 9] (by decide) rfl
  refine lv_aload_n hx hb dX10_init_250 rfl (lv_at hl 0 rfl) ?_
  refine lv_sipush (v := 228) hx hb dX10_init_251 (by decide) ?_
  refine gz_newa (atype := .int) (t0 := 0) (a0 := (228, .inl (fun _ => 0))) hx hb rfl (fun _ _ h9 => h9) (hts _ gm_98) rfl hK hP hD hS hA (fun _ => rfl) (by decide) (by decide) (Nat.le_of_ble_eq_true rfl) (Nat.le_of_ble_eq_true rfl) (Nat.le_of_ble_eq_true rfl) dX10_init_254 (fun q_31 H hP hD hS => ?_)
  have hP : va_P G vwCl [(h0, .inr (10, [.int 0, .ref q_1, .ref q_2, .ref q_3, .ref q_4, .ref q_5, .ref q_6, .int 0, .ref q_7, .int 0, .int 0, .int 0, .int 0, .int 0, .int 0, .int 0, .int 0, .long 0, .int 0, .int 0, .ref q_8, .ref q_9, .ref q_10, .ref q_11, .ref q_12, .ref q_13, .ref q_14, .ref q_15, .int 0, .int 0, .int 0, .ref q_16, .ref q_17, .ref q_18, .ref q_19, .ref q_20, .ref q_21, .int 0, .ref q_22, .ref q_23, .ref q_24, .ref q_25, .ref q_26, .ref q_27, .ref q_28, .ref q_29, .ref q_30, .null, .null, .null, .null, .null, .null, .null, .null, .int 0, .int 0, .int 0, .int 0])), (q_1, .inl (cy 2, 6, .inl (fun _ => 0))), (q_2, .inl (cy 0, 6, .inl (fun _ => 0))), (q_3, .inl (cy 0, 6, .inl (fun _ => 0))), (q_4, .inl (cy 0, 6, .inl (fun _ => 0))), (q_5, .inl (cy 0, 6, .inl (fun _ => 0))), (q_6, .inl (cy 0, 1200, .inl (fun _ => 0))), (q_7, .inl (cy 1, 800, .inl (fun _ => 0))), (q_22, .inl (cy 2, 4, .inl (fun _ => 0))), (q_28, .inl (cy 0, 36, .inl (fun _ => 0))), (q_31, .inl (cy 0, 228, .inl (fun _ => 0)))] H := hP
  have hD : va_D A [(h0, .inr (10, [.int 0, .ref q_1, .ref q_2, .ref q_3, .ref q_4, .ref q_5, .ref q_6, .int 0, .ref q_7, .int 0, .int 0, .int 0, .int 0, .int 0, .int 0, .int 0, .int 0, .long 0, .int 0, .int 0, .ref q_8, .ref q_9, .ref q_10, .ref q_11, .ref q_12, .ref q_13, .ref q_14, .ref q_15, .int 0, .int 0, .int 0, .ref q_16, .ref q_17, .ref q_18, .ref q_19, .ref q_20, .ref q_21, .int 0, .ref q_22, .ref q_23, .ref q_24, .ref q_25, .ref q_26, .ref q_27, .ref q_28, .ref q_29, .ref q_30, .null, .null, .null, .null, .null, .null, .null, .null, .int 0, .int 0, .int 0, .int 0])), (q_1, .inl (cy 2, 6, .inl (fun _ => 0))), (q_2, .inl (cy 0, 6, .inl (fun _ => 0))), (q_3, .inl (cy 0, 6, .inl (fun _ => 0))), (q_4, .inl (cy 0, 6, .inl (fun _ => 0))), (q_5, .inl (cy 0, 6, .inl (fun _ => 0))), (q_6, .inl (cy 0, 1200, .inl (fun _ => 0))), (q_7, .inl (cy 1, 800, .inl (fun _ => 0))), (q_22, .inl (cy 2, 4, .inl (fun _ => 0))), (q_28, .inl (cy 0, 36, .inl (fun _ => 0))), (q_31, .inl (cy 0, 228, .inl (fun _ => 0)))] := hD
  refine W.widen (k := 31) (n := 5744) (Nat.le_of_ble_eq_true rfl) (Nat.le_of_ble_eq_true rfl) ?_
  refine va_putF (ci := 10) (v := .ref q_31) (ty := .array .int) (C := RX10) (T := TX10) (N := 59) hx hb hts inX10 tyX10 tyX10_ok nmX10 hown hK hP hD hS 0 rfl rfl 47 (by decide) (hts _ gm_948) (fun _ h9 => h9) rfl hin rfl (by decide +kernel) rfl rfl (Nat.le_of_ble_eq_true rfl) dX10_init_256 (fun H locs hP hD hS => ?_)
  have hP : va_P G vwCl [(h0, .inr (10, [.int 0, .ref q_1, .ref q_2, .ref q_3, .ref q_4, .ref q_5, .ref q_6, .int 0, .ref q_7, .int 0, .int 0, .int 0, .int 0, .int 0, .int 0, .int 0, .int 0, .long 0, .int 0, .int 0, .ref q_8, .ref q_9, .ref q_10, .ref q_11, .ref q_12, .ref q_13, .ref q_14, .ref q_15, .int 0, .int 0, .int 0, .ref q_16, .ref q_17, .ref q_18, .ref q_19, .ref q_20, .ref q_21, .int 0, .ref q_22, .ref q_23, .ref q_24, .ref q_25, .ref q_26, .ref q_27, .ref q_28, .ref q_29, .ref q_30, .ref q_31, .null, .null, .null, .null, .null, .null, .null, .int 0, .int 0, .int 0, .int 0])), (q_1, .inl (cy 2, 6, .inl (fun _ => 0))), (q_2, .inl (cy 0, 6, .inl (fun _ => 0))), (q_3, .inl (cy 0, 6, .inl (fun _ => 0))), (q_4, .inl (cy 0, 6, .inl (fun _ => 0))), (q_5, .inl (cy 0, 6, .inl (fun _ => 0))), (q_6, .inl (cy 0, 1200, .inl (fun _ => 0))), (q_7, .inl (cy 1, 800, .inl (fun _ => 0))), (q_22, .inl (cy 2, 4, .inl (fun _ => 0))), (q_28, .inl (cy 0, 36, .inl (fun _ => 0)))] H := va_P.sub hP [0, 1, 2, 3, 4, 5, 6, 7, 8, 9] rfl
  have hD : va_D A [(h0, .inr (10, [.int 0, .ref q_1, .ref q_2, .ref q_3, .ref q_4, .ref q_5, .ref q_6, .int 0, .ref q_7, .int 0, .int 0, .int 0, .int 0, .int 0, .int 0, .int 0, .int 0, .long 0, .int 0, .int 0, .ref q_8, .ref q_9, .ref q_10, .ref q_11, .ref q_12, .ref q_13, .ref q_14, .ref q_15, .int 0, .int 0, .int 0, .ref q_16, .ref q_17, .ref q_18, .ref q_19, .ref q_20, .ref q_21, .int 0, .ref q_22, .ref q_23, .ref q_24, .ref q_25, .ref q_26, .ref q_27, .ref q_28, .ref q_29, .ref q_30, .ref q_31, .null, .null, .null, .null, .null, .null, .null, .int 0, .int 0, .int 0, .int 0])), (q_1, .inl (cy 2, 6, .inl (fun _ => 0))), (q_2, .inl (cy 0, 6, .inl (fun _ => 0))), (q_3, .inl (cy 0, 6, .inl (fun _ => 0))), (q_4, .inl (cy 0, 6, .inl (fun _ => 0))), (q_5, .inl (cy 0, 6, .inl (fun _ => 0))), (q_6, .inl (cy 0, 1200, .inl (fun _ => 0))), (q_7, .inl (cy 1, 800, .inl (fun _ => 0))), (q_22, .inl (cy 2, 4, .inl (fun _ => 0))), (q_28, .inl (cy 0, 36, .inl (fun _ => 0)))] := va_D.sub hD [0, 1, 2, 3, 4, 5, 6, 7, 8, 9] (by decide) rfl
  refine lv_aload_n hx hb dX10_init_259 rfl (lv_at hl 0 rfl) ?_
  refine lv_sipush (v := 228) hx hb dX10_init_260 (by decide) ?_
  refine gz_newa (atype := .int) (t0 := 0) (a0 := (228, .inl (fun _ => 0))) hx hb rfl (fun _ _ h9 => h9) (hts _ gm_98) rfl hK hP hD hS hA (fun _ => rfl) (by decide) (by decide) (Nat.le_of_ble_eq_true rfl) (Nat.le_of_ble_eq_true rfl) (Nat.le_of_ble_eq_true rfl) dX10_init_263 (fun q_32 H hP hD hS => ?_)
  have hP : va_P G vwCl [(h0, .inr (10, [.int 0, .ref q_1, .ref q_2, .ref q_3, .ref q_4, .ref q_5, .ref q_6, .int 0, .ref q_7, .int 0, .int 0, .int 0, .int 0, .int 0, .int 0, .int 0, .int 0, .long 0, .int 0, .int 0, .ref q_8, .ref q_9, .ref q_10, .ref q_11, .ref q_12, .ref q_13, .ref q_14, .ref q_15, .int 0, .int 0, .int 0, .ref q_16, .ref q_17, .ref q_18, .ref q_19, .ref q_20, .ref q_21, .int 0, .ref q_22, .ref q_23, .ref q_24, .ref q_25, .ref q_26, .ref q_27, .ref q_28, .ref q_29, .ref q_30, .ref q_31, .null, .null, .null, .null, .null, .null, .null, .int 0, .int 0, .int 0, .int 0])), (q_1, .inl (cy 2, 6, .inl (fun _ => 0))), (q_2, .inl (cy 0, 6, .inl (fun _ => 0))), (q_3, .inl (cy 0, 6, .inl (fun _ => 0))), (q_4, .inl (cy 0, 6, .inl (fun _ => 0))), (q_5, .inl (cy 0, 6, .inl (fun _ => 0))), (q_6, .inl (cy 0, 1200, .inl (fun _ => 0))), (q_7, .inl (cy 1, 800, .inl (fun _ => 0))), (q_22, .inl (cy 2, 4, .inl (fun _ => 0))), (q_28, .inl (cy 0, 36, .inl (fun _ => 0))), (q_32, .inl (cy 0, 228, .inl (fun _ => 0)))] H := hP
  have hD : va_D A [(h0, .inr (10, [.int 0, .ref q_1, .ref q_2, .ref q_3, .ref q_4, .ref q_5, .ref q_6, .int 0, .ref q_7, .int 0, .int 0, .int 0, .int 0, .int 0, .int 0, .int 0, .int 0, .long 0, .int 0, .int 0, .ref q_8, .ref q_9, .ref q_10, .ref q_11, .ref q_12, .ref q_13, .ref q_14, .ref q_15, .int 0, .int 0, .int 0, .ref q_16, .ref q_17, .ref q_18, .ref q_19, .ref q_20, .ref q_21, .int 0, .ref q_22, .ref q_23, .ref q_24, .ref q_25, .ref q_26, .ref q_27, .ref q_28, .ref q_29, .ref q_30, .ref q_31, .null, .null, .null, .null, .null, .null, .null, .int 0, .int 0, .int 0, .int 0])), (q_1, .inl (cy 2, 6, .inl (fun _ => 0))), (q_2, .inl (cy 0, 6, .inl (fun _ => 0))), (q_3, .inl (cy 0, 6, .inl (fun _ => 0))), (q_4, .inl (cy 0, 6, .inl (fun _ => 0))), (q_5, .inl (cy 0, 6, .inl (fun _ => 0))), (q_6, .inl (cy 0, 1200, .inl (fun _ => 0))), (q_7, .inl (cy 1, 800, .inl (fun _ => 0))), (q_22, .inl (cy 2, 4, .inl (fun _ => 0))), (q_28, .inl (cy 0, 36, .inl (fun _ => 0))), (q_32, .inl (cy 0, 228, .inl (fun _ => 0)))] := hD
  refine W.widen (k := 32) (n := 5972) (Nat.le_of_ble_eq_true rfl) (Nat.le_of_ble_eq_true rfl) ?_
  refine va_putF (ci := 10) (v := .ref q_32) (ty := .array .int) (C := RX10) (T := TX10) (N := 59) hx hb hts inX10 tyX10 tyX10_ok nmX10 hown hK hP hD hS 0 rfl rfl 48 (by decide) (hts _ gm_949) (fun _ h9 => h9) rfl hin rfl (by decide +kernel) rfl rfl (Nat.le_of_ble_eq_true rfl) dX10_init_265 (fun H locs hP hD hS => ?_)
  have hP : va_P G vwCl [(h0, .inr (10, [.int 0, .ref q_1, .ref q_2, .ref q_3, .ref q_4, .ref q_5, .ref q_6, .int 0, .ref q_7, .int 0, .int 0, .int 0, .int 0, .int 0, .int 0, .int 0, .int 0, .long 0, .int 0, .int 0, .ref q_8, .ref q_9, .ref q_10, .ref q_11, .ref q_12, .ref q_13, .ref q_14, .ref q_15, .int 0, .int 0, .int 0, .ref q_16, .ref q_17, .ref q_18, .ref q_19, .ref q_20, .ref q_21, .int 0, .ref q_22, .ref q_23, .ref q_24, .ref q_25, .ref q_26, .ref q_27, .ref q_28, .ref q_29, .ref q_30, .ref q_31, .ref q_32, .null, .null, .null, .null, .null, .null, .int 0, .int 0, .int 0, .int 0])), (q_1, .inl (cy 2, 6, .inl (fun _ => 0))), (q_2, .inl (cy 0, 6, .inl (fun _ => 0))), (q_3, .inl (cy 0, 6, .inl (fun _ => 0))), (q_4, .inl (cy 0, 6, .inl (fun _ => 0))), (q_5, .inl (cy 0, 6, .inl (fun _ => 0))), (q_6, .inl (cy 0, 1200, .inl (fun _ => 0))), (q_7, .inl (cy 1, 800, .inl (fun _ => 0))), (q_22, .inl (cy 2, 4, .inl (fun _ => 0))), (q_28, .inl (cy 0, 36, .inl (fun _ => 0)))] H := va_P.sub hP [0, 1, 2, 3, 4, 5, 6, 7, 8, 9] rfl
  have hD : va_D A [(h0, .inr (10, [.int 0, .ref q_1, .ref q_2, .ref q_3, .ref q_4, .ref q_5, .ref q_6, .int 0, .ref q_7, .int 0, .int 0, .int 0, .int 0, .int 0, .int 0, .int 0, .int 0, .long 0, .int 0, .int 0, .ref q_8, .ref q_9, .ref q_10, .ref q_11, .ref q_12, .ref q_13, .ref q_14, .ref q_15, .int 0, .int 0, .int 0, .ref q_16, .ref q_17, .ref q_18, .ref q_19, .ref q_20, .ref q_21, .int 0, .ref q_22, .ref q_23, .ref q_24, .ref q_25, .ref q_26, .ref q_27, .ref q_28, .ref q_29, .ref q_30, .ref q_31, .ref q_32, .null, .null, .null, .null, .null, .null, .int 0, .int 0, .int 0, .int 0])), (q_1, .inl (cy 2, 6, .inl (fun _ => 0))), (q_2, .inl (cy 0, 6, .inl (fun _ => 0))), (q_3, .inl (cy 0, 6, .inl (fun _ => 0))), (q_4, .inl (cy 0, 6, .inl (fun _ => 0))), (q_5, .inl (cy 0, 6, .inl (fun _ => 0))), (q_6, .inl (cy 0, 1200, .inl (fun _ => 0))), (q_7, .inl (cy 1, 800, .inl (fun _ => 0))), (q_22, .inl (cy 2, 4, .inl (fun _ => 0))), (q_28, .inl (cy 0, 36, .inl (fun _ => 0)))] := va_D.sub hD [0, 1, 2, 3, 4, 5, 6, 7, 8, 9] (by decide) rfl
  refine lv_aload_n hx hb dX10_init_268 rfl (lv_at hl 0 rfl) ?_
  refine lv_bipush (v := 57) hx hb dX10_init_269 (by decide) ?_
  refine gz_newa (atype := .int) (t0 := 0) (a0 := (57, .inl (fun _ => 0))) hx hb rfl (fun _ _ h9 => h9) (hts _ gm_98) rfl hK hP hD hS hA (fun _ => rfl) (by decide) (by decide) (Nat.le_of_ble_eq_true rfl) (Nat.le_of_ble_eq_true rfl) (Nat.le_of_ble_eq_true rfl) dX10_init_271 (fun q_33 H hP hD hS => ?_)
  have hP : va_P G vwCl [(h0, .inr (10, [.int 0, .ref q_1, .ref q_2, .ref q_3, .ref q_4, .ref q_5, .ref q_6, .int 0, .ref q_7, .int 0, .int 0, .int 0, .int 0, .int 0, .int 0, .int 0, .int 0, .long 0, .int 0, .int 0, .ref q_8, .ref q_9, .ref q_10, .ref q_11, .ref q_12, .ref q_13, .ref q_14, .ref q_15, .int 0, .int 0, .int 0, .ref q_16, .ref q_17, .ref q_18, .ref q_19, .ref q_20, .ref q_21, .int 0, .ref q_22, .ref q_23, .ref q_24, .ref q_25, .ref q_26, .ref q_27, .ref q_28, .ref q_29, .ref q_30, .ref q_31, .ref q_32, .null, .null, .null, .null, .null, .null, .int 0, .int 0, .int 0, .int 0])), (q_1, .inl (cy 2, 6, .inl (fun _ => 0))), (q_2, .inl (cy 0, 6, .inl (fun _ => 0))), (q_3, .inl (cy 0, 6, .inl (fun _ => 0))), (q_4, .inl (cy 0, 6, .inl (fun _ => 0))), (q_5, .inl (cy 0, 6, .inl (fun _ => 0))), (q_6, .inl (cy 0, 1200, .inl (fun _ => 0))), (q_7, .inl (cy 1, 800, .inl (fun _ => 0))), (q_22, .inl (cy 2, 4, .inl (fun _ => 0))), (q_28, .inl (cy 0, 36, .inl (fun _ => 0))), (q_33, .inl (cy 0, 57, .inl (fun _ => 0)))] H := hP
  have hD : va_D A [(h0, .inr (10, [.int 0, .ref q_1, .ref q_2, .ref q_3, .ref q_4, .ref q_5, .ref q_6, .int 0, .ref q_7, .int 0, .int 0, .int 0, .int 0, .int 0, .int 0, .int 0, .int 0, .long 0, .int 0, .int 0, .ref q_8, .ref q_9, .ref q_10, .ref q_11, .ref q_12, .ref q_13, .ref q_14, .ref q_15, .int 0, .int 0, .int 0, .ref q_16, .ref q_17, .ref q_18, .ref q_19, .ref q_20, .ref q_21, .int 0, .ref q_22, .ref q_23, .ref q_24, .ref q_25, .ref q_26, .ref q_27, .ref q_28, .ref q_29, .ref q_30, .ref q_31, .ref q_32, .null, .null, .null, .null, .null, .null, .int 0, .int 0, .int 0, .int 0])), (q_1, .inl (cy 2, 6, .inl (fun _ => 0))), (q_2, .inl (cy 0, 6, .inl (fun _ => 0))), (q_3, .inl (cy 0, 6, .inl (fun _ => 0))), (q_4, .inl (cy 0, 6, .inl (fun _ => 0))), (q_5, .inl (cy 0, 6, .inl (fun _ => 0))), (q_6, .inl (cy 0, 1200, .inl (fun _ => 0))), (q_7, .inl (cy 1, 800, .inl (fun _ => 0))), (q_22, .inl (cy 2, 4, .inl (fun _ => 0))), (q_28, .inl (cy 0, 36, .inl (fun _ => 0))), (q_33, .inl (cy 0, 57, .inl (fun _ => 0)))] := hD
  refine W.widen (k := 33) (n := 6029) (Nat.le_of_ble_eq_true rfl) (Nat.le_of_ble_eq_true rfl) ?_
  refine va_putF (ci := 10) (v := .ref q_33) (ty := .array .int) (C := RX10) (T := TX10) (N := 59) hx hb hts inX10 tyX10 tyX10_ok nmX10 hown hK hP hD hS 0 rfl rfl 49 (by decide) (hts _ gm_950) (fun _ h9 => h9) rfl hin rfl (by decide +kernel) rfl rfl (Nat.le_of_ble_eq_true rfl) dX10_init_273 (fun H locs hP hD hS => ?_)
  have hP : va_P G vwCl [(h0, .inr (10, [.int 0, .ref q_1, .ref q_2, .ref q_3, .ref q_4, .ref q_5, .ref q_6, .int 0, .ref q_7, .int 0, .int 0, .int 0, .int 0, .int 0, .int 0, .int 0, .int 0, .long 0, .int 0, .int 0, .ref q_8, .ref q_9, .ref q_10, .ref q_11, .ref q_12, .ref q_13, .ref q_14, .ref q_15, .int 0, .int 0, .int 0, .ref q_16, .ref q_17, .ref q_18, .ref q_19, .ref q_20, .ref q_21, .int 0, .ref q_22, .ref q_23, .ref q_24, .ref q_25, .ref q_26, .ref q_27, .ref q_28, .ref q_29, .ref q_30, .ref q_31, .ref q_32, .ref q_33, .null, .null, .null, .null, .null, .int 0, .int 0, .int 0, .int 0])), (q_1, .inl (cy 2, 6, .inl (fun _ => 0))), (q_2, .inl (cy 0, 6, .inl (fun _ => 0))), (q_3, .inl (cy 0, 6, .inl (fun _ => 0))), (q_4, .inl (cy 0, 6, .inl (fun _ => 0))), (q_5, .inl (cy 0, 6, .inl (fun _ => 0))), (q_6, .inl (cy 0, 1200, .inl (fun _ => 0))), (q_7, .inl (cy 1, 800, .inl (fun _ => 0))), (q_22, .inl (cy 2, 4, .inl (fun _ => 0))), (q_28, .inl (cy 0, 36, .inl (fun _ => 0)))] H := va_P.sub hP [0, 1, 2, 3, 4, 5, 6, 7, 8, 9] rfl
  have hD : va_D A [(h0, .inr (10, [.int 0, .ref q_1, .ref q_2, .ref q_3, .ref q_4, .ref q_5, .ref q_6, .int 0, .ref q_7, .int 0, .int 0, .int 0, .int 0, .int 0, .int 0, .int 0, .int 0, .long 0, .int 0, .int 0, .ref q_8, .ref q_9, .ref q_10, .ref q_11, .ref q_12, .ref q_13, .ref q_14, .ref q_15, .int 0, .int 0, .int 0, .ref q_16, .ref q_17, .ref q_18, .ref q_19, .ref q_20, .ref q_21, .int 0, .ref q_22, .ref q_23, .ref q_24, .ref q_25, .ref q_26, .ref q_27, .ref q_28, .ref q_29, .ref q_30, .ref q_31, .ref q_32, .ref q_33, .null, .null, .null, .null, .null, .int 0, .int 0, .int 0, .int 0])), (q_1, .inl (cy 2, 6, .inl (fun _ => 0))), (q_2, .inl (cy 0, 6, .inl (fun _ => 0))), (q_3, .inl (cy 0, 6, .inl (fun _ => 0))), (q_4, .inl (cy 0, 6, .inl (fun _ => 0))), (q_5, .inl (cy 0, 6, .inl (fun _ => 0))), (q_6, .inl (cy 0, 1200, .inl (fun _ => 0))), (q_7, .inl (cy 1, 800, .inl (fun _ => 0))), (q_22, .inl (cy 2, 4, .inl (fun _ => 0))), (q_28, .inl (cy 0, 36, .inl (fun _ => 0)))] := va_D.sub hD [0, 1, 2, 3, 4, 5, 6, 7, 8, 9] (by decide) rfl
  refine lv_aload_n hx hb dX10_init_276 rfl (lv_at hl 0 rfl) ?_
  refine lv_bipush (v := 57) hx hb dX10_init_277 (by decide) ?_
  refine gz_newa (atype := .int) (t0 := 0) (a0 := (57, .inl (fun _ => 0))) hx hb rfl (fun _ _ h9 => h9) (hts _ gm_98) rfl hK hP hD hS hA (fun _ => rfl) (by decide) (by decide) (Nat.le_of_ble_eq_true rfl) (Nat.le_of_ble_eq_true rfl) (Nat.le_of_ble_eq_true rfl) dX10_init_279 (fun q_34 H hP hD hS => ?_)
  have hP : va_P G vwCl [(h0, .inr (10, [.int 0, .ref q_1, .ref q_2, .ref q_3, .ref q_4, .ref q_5, .ref q_6, .int 0, .ref q_7, .int 0, .int 0, .int 0, .int 0, .int 0, .int 0, .int 0, .int 0, .long 0, .int 0, .int 0, .ref q_8, .ref q_9, .ref q_10, .ref q_11, .ref q_12, .ref q_13, .ref q_14, .ref q_15, .int 0, .int 0, .int 0, .ref q_16, .ref q_17, .ref q_18, .ref q_19, .ref q_20, .ref q_21, .int 0, .ref q_22, .ref q_23, .ref q_24, .ref q_25, .ref q_26, .ref q_27, .ref q_28, .ref q_29, .ref q_30, .ref q_31, .ref q_32, .ref q_33, .null, .null, .null, .null, .null, .int 0, .int 0, .int 0, .int 0])), (q_1, .inl (cy 2, 6, .inl (fun _ => 0))), (q_2, .inl (cy 0, 6, .inl (fun _ => 0))), (q_3, .inl (cy 0, 6, .inl (fun _ => 0))), (q_4, .inl (cy 0, 6, .inl (fun _ => 0))), (q_5, .inl (cy 0, 6, .inl (fun _ => 0))), (q_6, .inl (cy 0, 1200, .inl (fun _ => 0))), (q_7, .inl (cy 1, 800, .inl (fun _ => 0))), (q_22, .inl (cy 2, 4, .inl (fun _ => 0))), (q_28, .inl (cy 0, 36, .inl (fun _ => 0))), (q_34, .inl (cy 0, 57, .inl (fun _ => 0)))] H := hP
  have hD : va_D A [(h0, .inr (10, [.int 0, .ref q_1, .ref q_2, .ref q_3, .ref q_4, .ref q_5, .ref q_6, .int 0, .ref q_7, .int 0, .int 0, .int 0, .int 0, .int 0, .int 0, .int 0, .int 0, .long 0, .int 0, .int 0, .ref q_8, .ref q_9, .ref q_10, .ref q_11, .ref q_12, .ref q_13, .ref q_14, .ref q_15, .int 0, .int 0, .int 0, .ref q_16, .ref q_17, .ref q_18, .ref q_19, .ref q_20, .ref q_21, .int 0, .ref q_22, .ref q_23, .ref q_24, .ref q_25, .ref q_26, .ref q_27, .ref q_28, .ref q_29, .ref q_30, .ref q_31, .ref q_32, .ref q_33, .null, .null, .null, .null, .null, .int 0, .int 0, .int 0, .int 0])), (q_1, .inl (cy 2, 6, .inl (fun _ => 0))), (q_2, .inl (cy 0, 6, .inl (fun _ => 0))), (q_3, .inl (cy 0, 6, .inl (fun _ => 0))), (q_4, .inl (cy 0, 6, .inl (fun _ => 0))), (q_5, .inl (cy 0, 6, .inl (fun _ => 0))), (q_6, .inl (cy 0, 1200, .inl (fun _ => 0))), (q_7, .inl (cy 1, 800, .inl (fun _ => 0))), (q_22, .inl (cy 2, 4, .inl (fun _ => 0))), (q_28, .inl (cy 0, 36, .inl (fun _ => 0))), (q_34, .inl (cy 0, 57, .inl (fun _ => 0)))] := hD
  refine W.widen (k := 34) (n := 6086) (Nat.le_of_ble_eq_true rfl) (Nat.le_of_ble_eq_true rfl) ?_
  refine va_putF (ci := 10) (v := .ref q_34) (ty := .array .int) (C := RX10) (T := TX10) (N := 59) hx hb hts inX10 tyX10 tyX10_ok nmX10 hown hK hP hD hS 0 rfl rfl 50 (by decide) (hts _ gm_951) (fun _ h9 => h9) rfl hin rfl (by decide +kernel) rfl rfl (Nat.le_of_ble_eq_true rfl) dX10_init_281 (fun H locs hP hD hS => ?_)
  have hP : va_P G vwCl [(h0, .inr (10, [.int 0, .ref q_1, .ref q_2, .ref q_3, .ref q_4, .ref q_5, .ref q_6, .int 0, .ref q_7, .int 0, .int 0, .int 0, .int 0, .int 0, .int 0, .int 0, .int 0, .long 0, .int 0, .int 0, .ref q_8, .ref q_9, .ref q_10, .ref q_11, .ref q_12, .ref q_13, .ref q_14, .ref q_15, .int 0, .int 0, .int 0, .ref q_16, .ref q_17, .ref q_18, .ref q_19, .ref q_20, .ref q_21, .int 0, .ref q_22, .ref q_23, .ref q_24, .ref q_25, .ref q_26, .ref q_27, .ref q_28, .ref q_29, .ref q_30, .ref q_31, .ref q_32, .ref q_33, .ref q_34, .null, .null, .null, .null, .int 0, .int 0, .int 0, .int 0])), (q_1, .inl (cy 2, 6, .inl (fun _ => 0))), (q_2, .inl (cy 0, 6, .inl (fun _ => 0))), (q_3, .inl (cy 0, 6, .inl (fun _ => 0))), (q_4, .inl (cy 0, 6, .inl (fun _ => 0))), (q_5, .inl (cy 0, 6, .inl (fun _ => 0))), (q_6, .inl (cy 0, 1200, .inl (fun _ => 0))), (q_7, .inl (cy 1, 800, .inl (fun _ => 0))), (q_22, .inl (cy 2, 4, .inl (fun _ => 0))), (q_28, .inl (cy 0, 36, .inl (fun _ => 0)))] H := va_P.sub hP [0, 1, 2, 3, 4, 5, 6, 7, 8, 9] rfl
  have hD : va_D A [(h0, .inr (10, [.int 0, .ref q_1, .ref q_2, .ref q_3, .ref q_4, .ref q_5, .ref q_6, .int 0, .ref q_7, .int 0, .int 0, .int 0, .int 0, .int 0, .int 0, .int 0, .int 0, .long 0, .int 0, .int 0, .ref q_8, .ref q_9, .ref q_10, .ref q_11, .ref q_12, .ref q_13, .ref q_14, .ref q_15, .int 0, .int 0, .int 0, .ref q_16, .ref q_17, .ref q_18, .ref q_19, .ref q_20, .ref q_21, .int 0, .ref q_22, .ref q_23, .ref q_24, .ref q_25, .ref q_26, .ref q_27, .ref q_28, .ref q_29, .ref q_30, .ref q_31, .ref q_32, .ref q_33, .ref q_34, .null, .null, .null, .null, .int 0, .int 0, .int 0, .int 0])), (q_1, .inl (cy 2, 6, .inl (fun _ => 0))), (q_2, .inl (cy 0, 6, .inl (fun _ => 0))), (q_3, .inl (cy 0, 6, .inl (fun _ => 0))), (q_4, .inl (cy 0, 6, .inl (fun _ => 0))), (q_5, .inl (cy 0, 6, .inl (fun _ => 0))), (q_6, .inl (cy 0, 1200, .inl (fun _ => 0))), (q_7, .inl (cy 1, 800, .inl (fun _ => 0))), (q_22, .inl (cy 2, 4, .inl (fun _ => 0))), (q_28, .inl (cy 0, 36, .inl (fun _ => 0)))] := va_D.sub hD [0, 1, 2, 3, 4, 5, 6, 7, 8, 9] (by decide) rfl
  refine lv_aload_n hx hb dX10_init_284 rfl (lv_at hl 0 rfl) ?_
  refine lv_sipush (v := 342) hx hb dX10_init_285 (by decide) ?_
  refine gz_newa (atype := .int) (t0 := 0) (a0 := (342, .inl (fun _ => 0))) hx hb rfl (fun _ _ h9 => h9) (hts _ gm_98) rfl hK hP hD hS hA (fun _ => rfl) (by decide) (by decide) (Nat.le_of_ble_eq_true rfl) (Nat.le_of_ble_eq_true rfl) (Nat.le_of_ble_eq_true rfl) dX10_init_288 (fun q_35 H hP hD hS => ?_)
  have hP : va_P G vwCl [(h0, .inr (10, [.int 0, .ref q_1, .ref q_2, .ref q_3, .ref q_4, .ref q_5, .ref q_6, .int 0, .ref q_7, .int 0, .int 0, .int 0, .int 0, .int 0, .int 0, .int 0, .int 0, .long 0, .int 0, .int 0, .ref q_8, .ref q_9, .ref q_10, .ref q_11, .ref q_12, .ref q_13, .ref q_14, .ref q_15, .int 0, .int 0, .int 0, .ref q_16, .ref q_17, .ref q_18, .ref q_19, .ref q_20, .ref q_21, .int 0, .ref q_22, .ref q_23, .ref q_24, .ref q_25, .ref q_26, .ref q_27, .ref q_28, .ref q_29, .ref q_30, .ref q_31, .ref q_32, .ref q_33, .ref q_34, .null, .null, .null, .null, .int 0, .int 0, .int 0, .int 0])), (q_1, .inl (cy 2, 6, .inl (fun _ => 0))), (q_2, .inl (cy 0, 6, .inl (fun _ => 0))), (q_3, .inl (cy 0, 6, .inl (fun _ => 0))), (q_4, .inl (cy 0, 6, .inl (fun _ => 0))), (q_5, .inl (cy 0, 6, .inl (fun _ => 0))), (q_6, .inl (cy 0, 1200, .inl (fun _ => 0))), (q_7, .inl (cy 1, 800, .inl (fun _ => 0))), (q_22, .inl (cy 2, 4, .inl (fun _ => 0))), (q_28, .inl (cy 0, 36, .inl (fun _ => 0))), (q_35, .inl (cy 0, 342, .inl (fun _ => 0)))] H := hP
  have hD : va_D A [(h0, .inr (10, [.int 0, .ref q_1, .ref q_2, .ref q_3, .ref q_4, .ref q_5, .ref q_6, .int 0, .ref q_7, .int 0, .int 0, .int 0, .int 0, .int 0, .int 0, .int 0, .int 0, .long 0, .int 0, .int 0, .ref q_8, .ref q_9, .ref q_10, .ref q_11, .ref q_12, .ref q_13, .ref q_14, .ref q_15, .int 0, .int 0, .int 0, .ref q_16, .ref q_17, .ref q_18, .ref q_19, .ref q_20, .ref q_21, .int 0, .ref q_22, .ref q_23, .ref q_24, .ref q_25, .ref q_26, .ref q_27, .ref q_28, .ref q_29, .ref q_30, .ref q_31, .ref q_32, .ref q_33, .ref q_34, .null, .null, .null, .null, .int 0, .int 0, .int 0, .int 0])), (q_1, .inl (cy 2, 6, .inl (fun _ => 0))), (q_2, .inl (cy 0, 6, .inl (fun _ => 0))), (q_3, .inl (cy 0, 6, .inl (fun _ => 0))), (q_4, .inl (cy 0, 6, .inl (fun _ => 0))), (q_5, .inl (cy 0, 6, .inl (fun _ => 0))), (q_6, .inl (cy 0, 1200, .inl (fun _ => 0))), (q_7, .inl (cy 1, 800, .inl (fun _ => 0))), (q_22, .inl (cy 2, 4, .inl (fun _ => 0))), (q_28, .inl (cy 0, 36, .inl (fun _ => 0))), (q_35, .inl (cy 0, 342, .inl (fun _ => 0)))] := hD
  refine W.widen (k := 35) (n := 6428) (Nat.le_of_ble_eq_true rfl) (Nat.le_of_ble_eq_true rfl) ?_
  refine va_putF (ci := 10) (v := .ref q_35) (ty := .array .int) (C := RX10) (T := TX10) (N := 59) hx hb hts inX10 tyX10 tyX10_ok nmX10 hown hK hP hD hS 0 rfl rfl 51 (by decide) (hts _ gm_952) (fun _ h9 => h9) rfl hin rfl (by decide +kernel) rfl rfl (Nat.le_of_ble_eq_true rfl) dX10_init_290 (fun H locs hP hD hS => ?_)
  have hP : va_P G vwCl [(h0, .inr (10, [.int 0, .ref q_1, .ref q_2, .ref q_3, .ref q_4, .ref q_5, .ref q_6, .int 0, .ref q_7, .int 0, .int 0, .int 0, .int 0, .int 0, .int 0, .int 0, .int 0, .long 0, .int 0, .int 0, .ref q_8, .ref q_9, .ref q_10, .ref q_11, .ref q_12, .ref q_13, .ref q_14, .ref q_15, .int 0, .int 0, .int 0, .ref q_16, .ref q_17, .ref q_18, .ref q_19, .ref q_20, .ref q_21, .int 0, .ref q_22, .ref q_23, .ref q_24, .ref q_25, .ref q_26, .ref q_27, .ref q_28, .ref q_29, .ref q_30, .ref q_31, .ref q_32, .ref q_33, .ref q_34, .ref q_35, .null, .null, .null, .int 0, .int 0, .int 0, .int 0])), (q_1, .inl (cy 2, 6, .inl (fun _ => 0))), (q_2, .inl (cy 0, 6, .inl (fun _ => 0))), (q_3, .inl (cy 0, 6, .inl (fun _ => 0))), (q_4, .inl (cy 0, 6, .inl (fun _ => 0))), (q_5, .inl (cy 0, 6, .inl (fun _ => 0))), (q_6, .inl (cy 0, 1200, .inl (fun _ => 0))), (q_7, .inl (cy 1, 800, .inl (fun _ => 0))), (q_22, .inl (cy 2, 4, .inl (fun _ => 0))), (q_28, .inl (cy 0, 36, .inl (fun _ => 0)))] H := va_P.sub hP [0, 1, 2, 3, 4, 5, 6, 7, 8, 9] rfl
  have hD : va_D A [(h0, .inr (10, [.int 0, .ref q_1, .ref q_2, .ref q_3, .ref q_4, .ref q_5, .ref q_6, .int 0, .ref q_7, .int 0, .int 0, .int 0, .int 0, .int 0, .int 0, .int 0, .int 0, .long 0, .int 0, .int 0, .ref q_8, .ref q_9, .ref q_10, .ref q_11, .ref q_12, .ref q_13, .ref q_14, .ref q_15, .int 0, .int 0, .int 0, .ref q_16, .ref q_17, .ref q_18, .ref q_19, .ref q_20, .ref q_21, .int 0, .ref q_22, .ref q_23, .ref q_24, .ref q_25, .ref q_26, .ref q_27, .ref q_28, .ref q_29, .ref q_30, .ref q_31, .ref q_32, .ref q_33, .ref q_34, .ref q_35, .null, .null, .null, .int 0, .int 0, .int 0, .int 0])), (q_1, .inl (cy 2, 6, .inl (fun _ => 0))), (q_2, .inl (cy 0, 6, .inl (fun _ => 0))), (q_3, .inl (cy 0, 6, .inl (fun _ => 0))), (q_4, .inl (cy 0, 6, .inl (fun _ => 0))), (q_5, .inl (cy 0, 6, .inl (fun _ => 0))), (q_6, .inl (cy 0, 1200, .inl (fun _ => 0))), (q_7, .inl (cy 1, 800, .inl (fun _ => 0))), (q_22, .inl (cy 2, 4, .inl (fun _ => 0))), (q_28, .inl (cy 0, 36, .inl (fun _ => 0)))] := va_D.sub hD [0, 1, 2, 3, 4, 5, 6, 7, 8, 9] (by decide) rfl
  refine lv_aload_n hx hb dX10_init_293 rfl (lv_at hl 0 rfl) ?_
  refine lv_sipush (v := 342) hx hb dX10_init_294 (by decide) ?_
  refine gz_newa (atype := .int) (t0 := 0) (a0 := (342, .inl (fun _ => 0))) hx hb rfl (fun _ _ h9 => h9) (hts _ gm_98) rfl hK hP hD hS hA (fun _ => rfl) (by decide) (by decide) (Nat.le_of_ble_eq_true rfl) (Nat.le_of_ble_eq_true rfl) (Nat.le_of_ble_eq_true rfl) dX10_init_297 (fun q_36 H hP hD hS => ?_)
  have hP : va_P G vwCl [(h0, .inr (10, [.int 0, .ref q_1, .ref q_2, .ref q_3, .ref q_4, .ref q_5, .ref q_6, .int 0, .ref q_7, .int 0, .int 0, .int 0, .int 0, .int 0, .int 0, .int 0, .int 0, .long 0, .int 0, .int 0, .ref q_8, .ref q_9, .ref q_10, .ref q_11, .ref q_12, .ref q_13, .ref q_14, .ref q_15, .int 0, .int 0, .int 0, .ref q_16, .ref q_17, .ref q_18, .ref q_19, .ref q_20, .ref q_21, .int 0, .ref q_22, .ref q_23, .ref q_24, .ref q_25, .ref q_26, .ref q_27, .ref q_28, .ref q_29, .ref q_30, .ref q_31, .ref q_32, .ref q_33, .ref q_34, .ref q_35, .null, .null, .null, .int 0, .int 0, .int 0, .int 0])), (q_1, .inl (cy 2, 6, .inl (fun _ => 0))), (q_2, .inl (cy 0, 6, .inl (fun _ => 0))), (q_3, .inl (cy 0, 6, .inl (fun _ => 0))), (q_4, .inl (cy 0, 6, .inl (fun _ => 0))), (q_5, .inl (cy 0, 6, .inl (fun _ => 0))), (q_6, .inl (cy 0, 1200, .inl (fun _ => 0))), (q_7, .inl (cy 1, 800, .inl (fun _ => 0))), (q_22, .inl (cy 2, 4, .inl (fun _ => 0))), (q_28, .inl (cy 0, 36, .inl (fun _ => 0))), (q_36, .inl (cy 0, 342, .inl (fun _ => 0)))] H := hP
  have hD : va_D A [(h0, .inr (10, [.int 0, .ref q_1, .ref q_2, .ref q_3, .ref q_4, .ref q_5, .ref q_6, .int 0, .ref q_7, .int 0, .int 0, .int 0, .int 0, .int 0, .int 0, .int 0, .int 0, .long 0, .int 0, .int 0, .ref q_8, .ref q_9, .ref q_10, .ref q_11, .ref q_12, .ref q_13, .ref q_14, .ref q_15, .int 0, .int 0, .int 0, .ref q_16, .ref q_17, .ref q_18, .ref q_19, .ref q_20, .ref q_21, .int 0, .ref q_22, .ref q_23, .ref q_24, .ref q_25, .ref q_26, .ref q_27, .ref q_28, .ref q_29, .ref q_30, .ref q_31, .ref q_32, .ref q_33, .ref q_34, .ref q_35, .null, .null, .null, .int 0, .int 0, .int 0, .int 0])), (q_1, .inl (cy 2, 6, .inl (fun _ => 0))), (q_2, .inl (cy 0, 6, .inl (fun _ => 0))), (q_3, .inl (cy 0, 6, .inl (fun _ => 0))), (q_4, .inl (cy 0, 6, .inl (fun _ => 0))), (q_5, .inl (cy 0, 6, .inl (fun _ => 0))), (q_6, .inl (cy 0, 1200, .inl (fun _ => 0))), (q_7, .inl (cy 1, 800, .inl (fun _ => 0))), (q_22, .inl (cy 2, 4, .inl (fun _ => 0))), (q_28, .inl (cy 0, 36, .inl (fun _ => 0))), (q_36, .inl (cy 0, 342, .inl (fun _ => 0)))] := hD
  refine W.widen (k := 36) (n := 6770) (Nat.le_of_ble_eq_true rfl) (Nat.le_of_ble_eq_true rfl) ?_
  refine va_putF (ci := 10) (v := .ref q_36) (ty := .array .int) (C := RX10) (T := TX10) (N := 59) hx hb hts inX10 tyX10 tyX10_ok nmX10 hown hK hP hD hS 0 rfl rfl 52 (by decide) (hts _ gm_953) (fun _ h9 => h9) rfl hin rfl (by decide +kernel) rfl rfl (Nat.le_of_ble_eq_true rfl) dX10_init_299 (fun H locs hP hD hS => ?_)
  have hP : va_P G vwCl [(h0, .inr (10, [.int 0, .ref q_1, .ref q_2, .ref q_3, .ref q_4, .ref q_5, .ref q_6, .int 0, .ref q_7, .int 0, .int 0, .int 0, .int 0, .int 0, .int 0, .int 0, .int 0, .long 0, .int 0, .int 0, .ref q_8, .ref q_9, .ref q_10, .ref q_11, .ref q_12, .ref q_13, .ref q_14, .ref q_15, .int 0, .int 0, .int 0, .ref q_16, .ref q_17, .ref q_18, .ref q_19, .ref q_20, .ref q_21, .int 0, .ref q_22, .ref q_23, .ref q_24, .ref q_25, .ref q_26, .ref q_27, .ref q_28, .ref q_29, .ref q_30, .ref q_31, .ref q_32, .ref q_33, .ref q_34, .ref q_35, .ref q_36, .null, .null, .int 0, .int 0, .int 0, .int 0])), (q_1, .inl (cy 2, 6, .inl (fun _ => 0))), (q_2, .inl (cy 0, 6, .inl (fun _ => 0))), (q_3, .inl (cy 0, 6, .inl (fun _ => 0))), (q_4, .inl (cy 0, 6, .inl (fun _ => 0))), (q_5, .inl (cy 0, 6, .inl (fun _ => 0))), (q_6, .inl (cy 0, 1200, .inl (fun _ => 0))), (q_7, .inl (cy 1, 800, .inl (fun _ => 0))), (q_22, .inl (cy 2, 4, .inl (fun _ => 0))), (q_28, .inl (cy 0, 36, .inl (fun _ => 0)))] H := va_P.sub hP [0, 1, 2, 3, 4, 5, 6, 7, 8, 9] rfl
  have hD : va_D A [(h0, .inr (10, [.int 0, .ref q_1, .ref q_2, .ref q_3, .ref q_4, .ref q_5, .ref q_6, .int 0, .ref q_7, .int 0, .int 0, .int 0, .int 0, .int 0, .int 0, .int 0, .int 0, .long 0, .int 0, .int 0, .ref q_8, .ref q_9, .ref q_10, .ref q_11, .ref q_12, .ref q_13, .ref q_14, .ref q_15, .int 0, .int 0, .int 0, .ref q_16, .ref q_17, .ref q_18, .ref q_19, .ref q_20, .ref q_21, .int 0, .ref q_22, .ref q_23, .ref q_24, .ref q_25, .ref q_26, .ref q_27, .ref q_28, .ref q_29, .ref q_30, .ref q_31, .ref q_32, .ref q_33, .ref q_34, .ref q_35, .ref q_36, .null, .null, .int 0, .int 0, .int 0, .int 0])), (q_1, .inl (cy 2, 6, .inl (fun _ => 0))), (q_2, .inl (cy 0, 6, .inl (fun _ => 0))), (q_3, .inl (cy 0, 6, .inl (fun _ => 0))), (q_4, .inl (cy 0, 6, .inl (fun _ => 0))), (q_5, .inl (cy 0, 6, .inl (fun _ => 0))), (q_6, .inl (cy 0, 1200, .inl (fun _ => 0))), (q_7, .inl (cy 1, 800, .inl (fun _ => 0))), (q_22, .inl (cy 2, 4, .inl (fun _ => 0))), (q_28, .inl (cy 0, 36, .inl (fun _ => 0)))] := va_D.sub hD [0, 1, 2, 3, 4, 5, 6, 7, 8, 9] (by decide) rfl
  refine lv_aload_n hx hb dX10_init_302 rfl (lv_at hl 0 rfl) ?_
  refine lv_bipush (v := 56) hx hb dX10_init_303 (by decide) ?_
  refine gz_newa (atype := .int) (t0 := 0) (a0 := (56, .inl (fun _ => 0))) hx hb rfl (fun _ _ h9 => h9) (hts _ gm_98) rfl hK hP hD hS hA (fun _ => rfl) (by decide) (by decide) (Nat.le_of_ble_eq_true rfl) (Nat.le_of_ble_eq_true rfl) (Nat.le_of_ble_eq_true rfl) dX10_init_305 (fun q_37 H hP hD hS => ?_)
  have hP : va_P G vwCl [(h0, .inr (10, [.int 0, .ref q_1, .ref q_2, .ref q_3, .ref q_4, .ref q_5, .ref q_6, .int 0, .ref q_7, .int 0, .int 0, .int 0, .int 0, .int 0, .int 0, .int 0, .int 0, .long 0, .int 0, .int 0, .ref q_8, .ref q_9, .ref q_10, .ref q_11, .ref q_12, .ref q_13, .ref q_14, .ref q_15, .int 0, .int 0, .int 0, .ref q_16, .ref q_17, .ref q_18, .ref q_19, .ref q_20, .ref q_21, .int 0, .ref q_22, .ref q_23, .ref q_24, .ref q_25, .ref q_26, .ref q_27, .ref q_28, .ref q_29, .ref q_30, .ref q_31, .ref q_32, .ref q_33, .ref q_34, .ref q_35, .ref q_36, .null, .null, .int 0, .int 0, .int 0, .int 0])), (q_1, .inl (cy 2, 6, .inl (fun _ => 0))), (q_2, .inl (cy 0, 6, .inl (fun _ => 0))), (q_3, .inl (cy 0, 6, .inl (fun _ => 0))), (q_4, .inl (cy 0, 6, .inl (fun _ => 0))), (q_5, .inl (cy 0, 6, .inl (fun _ => 0))), (q_6, .inl (cy 0, 1200, .inl (fun _ => 0))), (q_7, .inl (cy 1, 800, .inl (fun _ => 0))), (q_22, .inl (cy 2, 4, .inl (fun _ => 0))), (q_28, .inl (cy 0, 36, .inl (fun _ => 0))), (q_37, .inl (cy 0, 56, .inl (fun _ => 0)))] H := hP
  have hD : va_D A [(h0, .inr (10, [.int 0, .ref q_1, .ref q_2, .ref q_3, .ref q_4, .ref q_5, .ref q_6, .int 0, .ref q_7, .int 0, .int 0, .int 0, .int 0, .int 0, .int 0, .int 0, .int 0, .long 0, .int 0, .int 0, .ref q_8, .ref q_9, .ref q_10, .ref q_11, .ref q_12, .ref q_13, .ref q_14, .ref q_15, .int 0, .int 0, .int 0, .ref q_16, .ref q_17, .ref q_18, .ref q_19, .ref q_20, .ref q_21, .int 0, .ref q_22, .ref q_23, .ref q_24, .ref q_25, .ref q_26, .ref q_27, .ref q_28, .ref q_29, .ref q_30, .ref q_31, .ref q_32, .ref q_33, .ref q_34, .ref q_35, .ref q_36, .null, .null, .int 0, .int 0, .int 0, .int 0])), (q_1, .inl (cy 2, 6, .inl (fun _ => 0))), (q_2, .inl (cy 0, 6, .inl (fun _ => 0))), (q_3, .inl (cy 0, 6, .inl (fun _ => 0))), (q_4, .inl (cy 0, 6, .inl (fun _ => 0))), (q_5, .inl (cy 0, 6, .inl (fun _ => 0))), (q_6, .inl (cy 0, 1200, .inl (fun _ => 0))), (q_7, .inl (cy 1, 800, .inl (fun _ => 0))), (q_22, .inl (cy 2, 4, .inl (fun _ => 0))), (q_28, .inl (cy 0, 36, .inl (fun _ => 0))), (q_37, .inl (cy 0, 56, .inl (fun _ => 0)))] := hD
  refine W.widen (k := 37) (n := 6826) (Nat.le_of_ble_eq_true rfl) (Nat.le_of_ble_eq_true rfl) ?_
  refine va_putF (ci := 10) (v := .ref q_37) (ty := .array .int) (C := RX10) (T := TX10) (N := 59) hx hb hts inX10 tyX10 tyX10_ok nmX10 hown hK hP hD hS 0 rfl rfl 53 (by decide) (hts _ gm_954) (fun _ h9 => h9) rfl hin rfl (by decide +kernel) rfl rfl (Nat.le_of_ble_eq_true rfl) dX10_init_307 (fun H locs hP hD hS => ?_)
  have hP : va_P G vwCl [(h0, .inr (10, [.int 0, .ref q_1, .ref q_2, .ref q_3, .ref q_4, .ref q_5, .ref q_6, .int 0, .ref q_7, .int 0, .int 0, .int 0, .int 0, .int 0, .int 0, .int 0, .int 0, .long 0, .int 0, .int 0, .ref q_8, .ref q_9, .ref q_10, .ref q_11, .ref q_12, .ref q_13, .ref q_14, .ref q_15, .int 0, .int 0, .int 0, .ref q_16, .ref q_17, .ref q_18, .ref q_19, .ref q_20, .ref q_21, .int 0, .ref q_22, .ref q_23, .ref q_24, .ref q_25, .ref q_26, .ref q_27, .ref q_28, .ref q_29, .ref q_30, .ref q_31, .ref q_32, .ref q_33, .ref q_34, .ref q_35, .ref q_36, .ref q_37, .null, .int 0, .int 0, .int 0, .int 0])), (q_1, .inl (cy 2, 6, .inl (fun _ => 0))), (q_2, .inl (cy 0, 6, .inl (fun _ => 0))), (q_3, .inl (cy 0, 6, .inl (fun _ => 0))), (q_4, .inl (cy 0, 6, .inl (fun _ => 0))), (q_5, .inl (cy 0, 6, .inl (fun _ => 0))), (q_6, .inl (cy 0, 1200, .inl (fun _ => 0))), (q_7, .inl (cy 1, 800, .inl (fun _ => 0))), (q_22, .inl (cy 2, 4, .inl (fun _ => 0))), (q_28, .inl (cy 0, 36, .inl (fun _ => 0)))] H := va_P.sub hP [0, 1, 2, 3, 4, 5, 6, 7, 8, 9] rfl
  have hD : va_D A [(h0, .inr (10, [.int 0, .ref q_1, .ref q_2, .ref q_3, .ref q_4, .ref q_5, .ref q_6, .int 0, .ref q_7, .int 0, .int 0, .int 0, .int 0, .int 0, .int 0, .int 0, .int 0, .long 0, .int 0, .int 0, .ref q_8, .ref q_9, .ref q_10, .ref q_11, .ref q_12, .ref q_13, .ref q_14, .ref q_15, .int 0, .int 0, .int 0, .ref q_16, .ref q_17, .ref q_18, .ref q_19, .ref q_20, .ref q_21, .int 0, .ref q_22, .ref q_23, .ref q_24, .ref q_25, .ref q_26, .ref q_27, .ref q_28, .ref q_29, .ref q_30, .ref q_31, .ref q_32, .ref q_33, .ref q_34, .ref q_35, .ref q_36, .ref q_37, .null, .int 0, .int 0, .int 0, .int 0])), (q_1, .inl (cy 2, 6, .inl (fun _ => 0))), (q_2, .inl (cy 0, 6, .inl (fun _ => 0))), (q_3, .inl (cy 0, 6, .inl (fun _ => 0))), (q_4, .inl (cy 0, 6, .inl (fun _ => 0))), (q_5, .inl (cy 0, 6, .inl (fun _ => 0))), (q_6, .inl (cy 0, 1200, .inl (fun _ => 0))), (q_7, .inl (cy 1, 800, .inl (fun _ => 0))), (q_22, .inl (cy 2, 4, .inl (fun _ => 0))), (q_28, .inl (cy 0, 36, .inl (fun _ => 0)))] := va_D.sub hD [0, 1, 2, 3, 4, 5, 6, 7, 8, 9] (by decide) rfl
  refine lv_aload_n hx hb dX10_init_310 rfl (lv_at hl 0 rfl) ?_
  refine lv_iconst (v := 4) hx hb dX10_init_311 (by decide) ?_
  refine gz_newa (atype := .boolean) (t0 := 2) (a0 := (4, .inl (fun _ => 0))) hx hb rfl (fun _ _ h9 => h9) (hts _ gm_1079) rfl hK hP hD hS hA (fun _ => rfl) (by decide) (by decide) (Nat.le_of_ble_eq_true rfl) (Nat.le_of_ble_eq_true rfl) (Nat.le_of_ble_eq_true rfl) dX10_init_312 (fun q_38 H hP hD hS => ?_)
  have hP : va_P G vwCl [(h0, .inr (10, [.int 0, .ref q_1, .ref q_2, .ref q_3, .ref q_4, .ref q_5, .ref q_6, .int 0, .ref q_7, .int 0, .int 0, .int 0, .int 0, .int 0, .int 0, .int 0, .int 0, .long 0, .int 0, .int 0, .ref q_8, .ref q_9, .ref q_10, .ref q_11, .ref q_12, .ref q_13, .ref q_14, .ref q_15, .int 0, .int 0, .int 0, .ref q_16, .ref q_17, .ref q_18, .ref q_19, .ref q_20, .ref q_21, .int 0, .ref q_22, .ref q_23, .ref q_24, .ref q_25, .ref q_26, .ref q_27, .ref q_28, .ref q_29, .ref q_30, .ref q_31, .ref q_32, .ref q_33, .ref q_34, .ref q_35, .ref q_36, .ref q_37, .null, .int 0, .int 0, .int 0, .int 0])), (q_1, .inl (cy 2, 6, .inl (fun _ => 0))), (q_2, .inl (cy 0, 6, .inl (fun _ => 0))), (q_3, .inl (cy 0, 6, .inl (fun _ => 0))), (q_4, .inl (cy 0, 6, .inl (fun _ => 0))), (q_5, .inl (cy 0, 6, .inl (fun _ => 0))), (q_6, .inl (cy 0, 1200, .inl (fun _ => 0))), (q_7, .inl (cy 1, 800, .inl (fun _ => 0))), (q_22, .inl (cy 2, 4, .inl (fun _ => 0))), (q_28, .inl (cy 0, 36, .inl (fun _ => 0))), (q_38, .inl (cy 2, 4, .inl (fun _ => 0)))] H := hP
  have hD : va_D A [(h0, .inr (10, [.int 0, .ref q_1, .ref q_2, .ref q_3, .ref q_4, .ref q_5, .ref q_6, .int 0, .ref q_7, .int 0, .int 0, .int 0, .int 0, .int 0, .int 0, .int 0, .int 0, .long 0, .int 0, .int 0, .ref q_8, .ref q_9, .ref q_10, .ref q_11, .ref q_12, .ref q_13, .ref q_14, .ref q_15, .int 0, .int 0, .int 0, .ref q_16, .ref q_17, .ref q_18, .ref q_19, .ref q_20, .ref q_21, .int 0, .ref q_22, .ref q_23, .ref q_24, .ref q_25, .ref q_26, .ref q_27, .ref q_28, .ref q_29, .ref q_30, .ref q_31, .ref q_32, .ref q_33, .ref q_34, .ref q_35, .ref q_36, .ref q_37, .null, .int 0, .int 0, .int 0, .int 0])), (q_1, .inl (cy 2, 6, .inl (fun _ => 0))), (q_2, .inl (cy 0, 6, .inl (fun _ => 0))), (q_3, .inl (cy 0, 6, .inl (fun _ => 0))), (q_4, .inl (cy 0, 6, .inl (fun _ => 0))), (q_5, .inl (cy 0, 6, .inl (fun _ => 0))), (q_6, .inl (cy 0, 1200, .inl (fun _ => 0))), (q_7, .inl (cy 1, 800, .inl (fun _ => 0))), (q_22, .inl (cy 2, 4, .inl (fun _ => 0))), (q_28, .inl (cy 0, 36, .inl (fun _ => 0))), (q_38, .inl (cy 2, 4, .inl (fun _ => 0)))] := hD
  refine W.widen (k := 38) (n := 6830) (Nat.le_of_ble_eq_true rfl) (Nat.le_of_ble_eq_true rfl) ?_
  refine va_putF (ci := 10) (v := .ref q_38) (ty := .array .boolean) (C := RX10) (T := TX10) (N := 59) hx hb hts inX10 tyX10 tyX10_ok nmX10 hown hK hP hD hS 0 rfl rfl 54 (by decide) (hts _ gm_955) (fun _ h9 => h9) rfl hin rfl (by decide +kernel) rfl rfl (Nat.le_of_ble_eq_true rfl) dX10_init_314 (fun H locs hP hD hS => ?_)
  have hP : va_P G vwCl [(h0, .inr (10, [.int 0, .ref q_1, .ref q_2, .ref q_3, .ref q_4, .ref q_5, .ref q_6, .int 0, .ref q_7, .int 0, .int 0, .int 0, .int 0, .int 0, .int 0, .int 0, .int 0, .long 0, .int 0, .int 0, .ref q_8, .ref q_9, .ref q_10, .ref q_11, .ref q_12, .ref q_13, .ref q_14, .ref q_15, .int 0, .int 0, .int 0, .ref q_16, .ref q_17, .ref q_18, .ref q_19, .ref q_20, .ref q_21, .int 0, .ref q_22, .ref q_23, .ref q_24, .ref q_25, .ref q_26, .ref q_27, .ref q_28, .ref q_29, .ref q_30, .ref q_31, .ref q_32, .ref q_33, .ref q_34, .ref q_35, .ref q_36, .ref q_37, .ref q_38, .int 0, .int 0, .int 0, .int 0])), (q_1, .inl (cy 2, 6, .inl (fun _ => 0))), (q_2, .inl (cy 0, 6, .inl (fun _ => 0))), (q_3, .inl (cy 0, 6, .inl (fun _ => 0))), (q_4, .inl (cy 0, 6, .inl (fun _ => 0))), (q_5, .inl (cy 0, 6, .inl (fun _ => 0))), (q_6, .inl (cy 0, 1200, .inl (fun _ => 0))), (q_7, .inl (cy 1, 800, .inl (fun _ => 0))), (q_22, .inl (cy 2, 4, .inl (fun _ => 0))), (q_28, .inl (cy 0, 36, .inl (fun _ => 0)))] H := va_P.sub hP [0, 1, 2, 3, 4, 5, 6, 7, 8, 9] rfl
  have hD : va_D A [(h0, .inr (10, [.int 0, .ref q_1, .ref q_2, .ref q_3, .ref q_4, .ref q_5, .ref q_6, .int 0, .ref q_7, .int 0, .int 0, .int 0, .int 0, .int 0, .int 0, .int 0, .int 0, .long 0, .int 0, .int 0, .ref q_8, .ref q_9, .ref q_10, .ref q_11, .ref q_12, .ref q_13, .ref q_14, .ref q_15, .int 0, .int 0, .int 0, .ref q_16, .ref q_17, .ref q_18, .ref q_19, .ref q_20, .ref q_21, .int 0, .ref q_22, .ref q_23, .ref q_24, .ref q_25, .ref q_26, .ref q_27, .ref q_28, .ref q_29, .ref q_30, .ref q_31, .ref q_32, .ref q_33, .ref q_34, .ref q_35, .ref q_36, .ref q_37, .ref q_38, .int 0, .int 0, .int 0, .int 0])), (q_1, .inl (cy 2, 6, .inl (fun _ => 0))), (q_2, .inl (cy 0, 6, .inl (fun _ => 0))), (q_3, .inl (cy 0, 6, .inl (fun _ => 0))), (q_4, .inl (cy 0, 6, .inl (fun _ => 0))), (q_5, .inl (cy 0, 6, .inl (fun _ => 0))), (q_6, .inl (cy 0, 1200, .inl (fun _ => 0))), (q_7, .inl (cy 1, 800, .inl (fun _ => 0))), (q_22, .inl (cy 2, 4, .inl (fun _ => 0))), (q_28, .inl (cy 0, 36, .inl (fun _ => 0)))] := va_D.sub hD [0, 1, 2, 3, 4, 5, 6, 7, 8, 9] (by decide) rfl
  refine lv_aload_n hx hb dX10_init_317 rfl (lv_at hl 0 rfl) ?_
  refine lv_iconst (v := (-1)) hx hb dX10_init_318 (by decide) ?_
  refine va_put (ci := 10) (v := .int (-1)) (ty := .int) (C := RX10) (T := TX10) (N := 59) hx hb hts inX10 tyX10 tyX10_ok nmX10 hown hK hP hD hS 0 rfl rfl 55 (by decide) (hts _ gm_956) (fun _ h9 => h9) rfl (by decide +kernel) rfl rfl (Nat.le_of_ble_eq_true rfl) dX10_init_319 (fun H locs hP hD hS => ?_)
  have hP : va_P G vwCl [(h0, .inr (10, [.int 0, .ref q_1, .ref q_2, .ref q_3, .ref q_4, .ref q_5, .ref q_6, .int 0, .ref q_7, .int 0, .int 0, .int 0, .int 0, .int 0, .int 0, .int 0, .int 0, .long 0, .int 0, .int 0, .ref q_8, .ref q_9, .ref q_10, .ref q_11, .ref q_12, .ref q_13, .ref q_14, .ref q_15, .int 0, .int 0, .int 0, .ref q_16, .ref q_17, .ref q_18, .ref q_19, .ref q_20, .ref q_21, .int 0, .ref q_22, .ref q_23, .ref q_24, .ref q_25, .ref q_26, .ref q_27, .ref q_28, .ref q_29, .ref q_30, .ref q_31, .ref q_32, .ref q_33, .ref q_34, .ref q_35, .ref q_36, .ref q_37, .ref q_38, .int (-1), .int 0, .int 0, .int 0])), (q_1, .inl (cy 2, 6, .inl (fun _ => 0))), (q_2, .inl (cy 0, 6, .inl (fun _ => 0))), (q_3, .inl (cy 0, 6, .inl (fun _ => 0))), (q_4, .inl (cy 0, 6, .inl (fun _ => 0))), (q_5, .inl (cy 0, 6, .inl (fun _ => 0))), (q_6, .inl (cy 0, 1200, .inl (fun _ => 0))), (q_7, .inl (cy 1, 800, .inl (fun _ => 0))), (q_22, .inl (cy 2, 4, .inl (fun _ => 0))), (q_28, .inl (cy 0, 36, .inl (fun _ => 0)))] H := hP
  have hD : va_D A [(h0, .inr (10, [.int 0, .ref q_1, .ref q_2, .ref q_3, .ref q_4, .ref q_5, .ref q_6, .int 0, .ref q_7, .int 0, .int 0, .int 0, .int 0, .int 0, .int 0, .int 0, .int 0, .long 0, .int 0, .int 0, .ref q_8, .ref q_9, .ref q_10, .ref q_11, .ref q_12, .ref q_13, .ref q_14, .ref q_15, .int 0, .int 0, .int 0, .ref q_16, .ref q_17, .ref q_18, .ref q_19, .ref q_20, .ref q_21, .int 0, .ref q_22, .ref q_23, .ref q_24, .ref q_25, .ref q_26, .ref q_27, .ref q_28, .ref q_29, .ref q_30, .ref q_31, .ref q_32, .ref q_33, .ref q_34, .ref q_35, .ref q_36, .ref q_37, .ref q_38, .int (-1), .int 0, .int 0, .int 0])), (q_1, .inl (cy 2, 6, .inl (fun _ => 0))), (q_2, .inl (cy 0, 6, .inl (fun _ => 0))), (q_3, .inl (cy 0, 6, .inl (fun _ => 0))), (q_4, .inl (cy 0, 6, .inl (fun _ => 0))), (q_5, .inl (cy 0, 6, .inl (fun _ => 0))), (q_6, .inl (cy 0, 1200, .inl (fun _ => 0))), (q_7, .inl (cy 1, 800, .inl (fun _ => 0))), (q_22, .inl (cy 2, 4, .inl (fun _ => 0))), (q_28, .inl (cy 0, 36, .inl (fun _ => 0)))] := hD
  refine lv_iconst (v := 0) hx hb dX10_init_322 (by decide) ?_
  refine lv_istore_n (lv' := [(1, .int 0), (0, .ref h0)]) hx hb dX10_init_323 rfl hl (by decide) rfl (fun ls hl => ?_)
  have hP : va_P G vwCl [(h0, .inr (10, [.int 0, .ref q_1, .ref q_2, .ref q_3, .ref q_4, .ref q_5, .ref q_6, .int 0, .ref q_7, .int 0, .int 0, .int 0, .int 0, .int 0, .int 0, .int 0, .int 0, .long 0, .int 0, .int 0, .ref q_8, .ref q_9, .ref q_10, .ref q_11, .ref q_12, .ref q_13, .ref q_14, .ref q_15, .int 0, .int 0, .int 0, .ref q_16, .ref q_17, .ref q_18, .ref q_19, .ref q_20, .ref q_21, .int 0, .ref q_22, .ref q_23, .ref q_24, .ref q_25, .ref q_26, .ref q_27, .ref q_28, .ref q_29, .ref q_30, .ref q_31, .ref q_32, .ref q_33, .ref q_34, .ref q_35, .ref q_36, .ref q_37, .ref q_38, .int (-1), .int 0, .int 0, .int 0])), (q_6, .inl (cy 0, 1200, .inl (fun _ => 0))), (q_1, .inl (cy 2, 6, .inl (fun _ => 0))), (q_2, .inl (cy 0, 6, .inl (fun _ => 0))), (q_3, .inl (cy 0, 6, .inl (fun _ => 0))), (q_4, .inl (cy 0, 6, .inl (fun _ => 0))), (q_5, .inl (cy 0, 6, .inl (fun _ => 0))), (q_7, .inl (cy 1, 800, .inl (fun _ => 0))), (q_22, .inl (cy 2, 4, .inl (fun _ => 0))), (q_28, .inl (cy 0, 36, .inl (fun _ => 0)))] H := hP.sub [0, 6, 1, 2, 3, 4, 5, 7, 8, 9] rfl
  have hD : va_D A [(h0, .inr (10, [.int 0, .ref q_1, .ref q_2, .ref q_3, .ref q_4, .ref q_5, .ref q_6, .int 0, .ref q_7, .int 0, .int 0, .int 0, .int 0, .int 0, .int 0, .int 0, .int 0, .long 0, .int 0, .int 0, .ref q_8, .ref q_9, .ref q_10, .ref q_11, .ref q_12, .ref q_13, .ref q_14, .ref q_15, .int 0, .int 0, .int 0, .ref q_16, .ref q_17, .ref q_18, .ref q_19, .ref q_20, .ref q_21, .int 0, .ref q_22, .ref q_23, .ref q_24, .ref q_25, .ref q_26, .ref q_27, .ref q_28, .ref q_29, .ref q_30, .ref q_31, .ref q_32, .ref q_33, .ref q_34, .ref q_35, .ref q_36, .ref q_37, .ref q_38, .int (-1), .int 0, .int 0, .int 0])), (q_6, .inl (cy 0, 1200, .inl (fun _ => 0))), (q_1, .inl (cy 2, 6, .inl (fun _ => 0))), (q_2, .inl (cy 0, 6, .inl (fun _ => 0))), (q_3, .inl (cy 0, 6, .inl (fun _ => 0))), (q_4, .inl (cy 0, 6, .inl (fun _ => 0))), (q_5, .inl (cy 0, 6, .inl (fun _ => 0))), (q_7, .inl (cy 1, 800, .inl (fun _ => 0))), (q_22, .inl (cy 2, 4, .inl (fun _ => 0))), (q_28, .inl (cy 0, 36, .inl (fun _ => 0)))] := hD.sub [0, 6, 1, 2, 3, 4, 5, 7, 8, 9] (by decide) rfl
  refine lp_minit (wr := [(q_1, .inl (cy 2, 6, .inl (fun _ => 0))), (q_2, .inl (cy 0, 6, .inl (fun _ => 0))), (q_3, .inl (cy 0, 6, .inl (fun _ => 0))), (q_4, .inl (cy 0, 6, .inl (fun _ => 0))), (q_5, .inl (cy 0, 6, .inl (fun _ => 0))), (q_7, .inl (cy 1, 800, .inl (fun _ => 0))), (q_22, .inl (cy 2, 4, .inl (fun _ => 0))), (q_28, .inl (cy 0, 36, .inl (fun _ => 0)))]) hx hb hown hts hK rfl (fun H locs ls hP hD hS => ?_) 1200 0 (by omega) (fun _ => 0) (fun j hj => absurd hj (Nat.not_lt_zero j)) H _ ls hP hD hS (lv_sub hl [1, 0] rfl)
  have hP : va_P G vwCl [(h0, .inr (10, [.int 0, .ref q_1, .ref q_2, .ref q_3, .ref q_4, .ref q_5, .ref q_6, .int 0, .ref q_7, .int 0, .int 0, .int 0, .int 0, .int 0, .int 0, .int 0, .int 0, .long 0, .int 0, .int 0, .ref q_8, .ref q_9, .ref q_10, .ref q_11, .ref q_12, .ref q_13, .ref q_14, .ref q_15, .int 0, .int 0, .int 0, .ref q_16, .ref q_17, .ref q_18, .ref q_19, .ref q_20, .ref q_21, .int 0, .ref q_22, .ref q_23, .ref q_24, .ref q_25, .ref q_26, .ref q_27, .ref q_28, .ref q_29, .ref q_30, .ref q_31, .ref q_32, .ref q_33, .ref q_34, .ref q_35, .ref q_36, .ref q_37, .ref q_38, .int (-1), .int 0, .int 0, .int 0])), (q_6, .inl (cy 0, 1200, .inl (fun _ => (-1)))), (q_1, .inl (cy 2, 6, .inl (fun _ => 0))), (q_2, .inl (cy 0, 6, .inl (fun _ => 0))), (q_3, .inl (cy 0, 6, .inl (fun _ => 0))), (q_4, .inl (cy 0, 6, .inl (fun _ => 0))), (q_5, .inl (cy 0, 6, .inl (fun _ => 0))), (q_7, .inl (cy 1, 800, .inl (fun _ => 0))), (q_22, .inl (cy 2, 4, .inl (fun _ => 0))), (q_28, .inl (cy 0, 36, .inl (fun _ => 0)))] H := hP
  have hD : va_D A [(h0, .inr (10, [.int 0, .ref q_1, .ref q_2, .ref q_3, .ref q_4, .ref q_5, .ref q_6, .int 0, .ref q_7, .int 0, .int 0, .int 0, .int 0, .int 0, .int 0, .int 0, .int 0, .long 0, .int 0, .int 0, .ref q_8, .ref q_9, .ref q_10, .ref q_11, .ref q_12, .ref q_13, .ref q_14, .ref q_15, .int 0, .int 0, .int 0, .ref q_16, .ref q_17, .ref q_18, .ref q_19, .ref q_20, .ref q_21, .int 0, .ref q_22, .ref q_23, .ref q_24, .ref q_25, .ref q_26, .ref q_27, .ref q_28, .ref q_29, .ref q_30, .ref q_31, .ref q_32, .ref q_33, .ref q_34, .ref q_35, .ref q_36, .ref q_37, .ref q_38, .int (-1), .int 0, .int 0, .int 0])), (q_6, .inl (cy 0, 1200, .inl (fun _ => (-1)))), (q_1, .inl (cy 2, 6, .inl (fun _ => 0))), (q_2, .inl (cy 0, 6, .inl (fun _ => 0))), (q_3, .inl (cy 0, 6, .inl (fun _ => 0))), (q_4, .inl (cy 0, 6, .inl (fun _ => 0))), (q_5, .inl (cy 0, 6, .inl (fun _ => 0))), (q_7, .inl (cy 1, 800, .inl (fun _ => 0))), (q_22, .inl (cy 2, 4, .inl (fun _ => 0))), (q_28, .inl (cy 0, 36, .inl (fun _ => 0)))] := hD
  exact gz_vret (cf := (fun (u : (Nat → Nat)) => [(h0, .inr (10, [.int 0, .ref (u 0), .ref (u 1), .ref (u 2), .ref (u 3), .ref (u 4), .ref (u 5), .int 0, .ref (u 6), .int 0, .int 0, .int 0, .int 0, .int 0, .int 0, .int 0, .int 0, .long 0, .int 0, .int 0, .ref (u 7), .ref (u 8), .ref (u 9), .ref (u 10), .ref (u 11), .ref (u 12), .ref (u 13), .ref (u 14), .int 0, .int 0, .int 0, .ref (u 15), .ref (u 16), .ref (u 17), .ref (u 18), .ref (u 19), .ref (u 20), .int 0, .ref (u 21), .ref (u 22), .ref (u 23), .ref (u 24), .ref (u 25), .ref (u 26), .ref (u 27), .ref (u 28), .ref (u 29), .ref (u 30), .ref (u 31), .ref (u 32), .ref (u 33), .ref (u 34), .ref (u 35), .ref (u 36), .ref (u 37), .int (-1), .int 0, .int 0, .int 0])), ((u 0), .inl (cy 2, 6, .inl (fun _ => 0))), ((u 1), .inl (cy 0, 6, .inl (fun _ => 0))), ((u 2), .inl (cy 0, 6, .inl (fun _ => 0))), ((u 3), .inl (cy 0, 6, .inl (fun _ => 0))), ((u 4), .inl (cy 0, 6, .inl (fun _ => 0))), ((u 5), .inl (cy 0, 1200, .inl (fun _ => (-1)))), ((u 6), .inl (cy 1, 800, .inl (fun _ => 0))), ((u 21), .inl (cy 2, 4, .inl (fun _ => 0))), ((u 27), .inl (cy 0, 36, .inl (fun _ => 0)))])) (post := (fun (u : (Nat → Nat)) => True)) hx hb hr hlocks hK hP hD hS (fun k => match k with | 0 => q_1 | 1 => q_2 | 2 => q_3 | 3 => q_4 | 4 => q_5 | 5 => q_6 | 6 => q_7 | 7 => q_8 | 8 => q_9 | 9 => q_10 | 10 => q_11 | 11 => q_12 | 12 => q_13 | 13 => q_14 | 14 => q_15 | 15 => q_16 | 16 => q_17 | 17 => q_18 | 18 => q_19 | 19 => q_20 | 20 => q_21 | 21 => q_22 | 22 => q_23 | 23 => q_24 | 24 => q_25 | 25 => q_26 | 26 => q_27 | 27 => q_28 | 28 => q_29 | 29 => q_30 | 30 => q_31 | 31 => q_32 | 32 => q_33 | 33 => q_34 | 34 => q_35 | 35 => q_36 | 36 => q_37 | 37 => q_38 | _ => 0) [0, 2, 3, 4, 5, 6, 1, 7, 8, 9] trivial (by decide) rfl (Nat.le_of_ble_eq_true rfl) (Nat.le_of_ble_eq_true rfl) dX10_init_344
end
section
theorem gm_1 : (Jvm.Cond.initialized "WellCourt") ∈ gz_T := gz_at 1 (by decide +kernel) rfl
theorem gm_344 : (Jvm.Cond.methodLink "WellCourt" (93 : Nat) ({ cls := "WellCourt", name := "isWell", desc := "(I)Z" } : Jvm.MethodName)) ∈ gz_T := gz_at 344 (by decide +kernel) rfl
theorem gm_345 : (Jvm.Cond.static ({ cls := "WellCourt", name := "isWell", desc := "(I)Z" } : Jvm.MethodName)) ∈ gz_T := gz_at 345 (by decide +kernel) rfl
theorem gm_346 : (Jvm.Cond.code ({ cls := "WellCourt", name := "isWell", desc := "(I)Z" } : Jvm.MethodName) prog_1_method_30_code (1 : Nat) (Option.some Jvm.ClassFile.FieldType.boolean)) ∈ gz_T := gz_at 346 (by decide +kernel) rfl
theorem gm_347 : (Jvm.Cond.methodLink "WellCourt" (97 : Nat) ({ cls := "WellCourt$Land", name := "isThere", desc := "(I)Z" } : Jvm.MethodName)) ∈ gz_T := gz_at 347 (by decide +kernel) rfl
theorem gm_348 : (Jvm.Cond.instanceMethod ({ cls := "WellCourt$Land", name := "isThere", desc := "(I)Z" } : Jvm.MethodName)) ∈ gz_T := gz_at 348 (by decide +kernel) rfl
theorem gm_349 : (Jvm.Cond.selects "WellCourt$Land" ({ cls := "WellCourt$Land", name := "isThere", desc := "(I)Z" } : Jvm.MethodName) ({ cls := "WellCourt$Land", name := "isThere", desc := "(I)Z" } : Jvm.MethodName)) ∈ gz_T := gz_at 349 (by decide +kernel) rfl
theorem gm_350 : (Jvm.Cond.code ({ cls := "WellCourt$Land", name := "isThere", desc := "(I)Z" } : Jvm.MethodName) prog_5_method_2_code (2 : Nat) (Option.some Jvm.ClassFile.FieldType.boolean)) ∈ gz_T := gz_at 350 (by decide +kernel) rfl
theorem gm_561 : (Jvm.Cond.static ({ cls := "WellCourt", name := "isDate", desc := "(I)Z" } : Jvm.MethodName)) ∈ gz_T := gz_at 561 (by decide +kernel) rfl
theorem gm_562 : (Jvm.Cond.code ({ cls := "WellCourt", name := "isDate", desc := "(I)Z" } : Jvm.MethodName) prog_1_method_33_code (1 : Nat) (Option.some Jvm.ClassFile.FieldType.boolean)) ∈ gz_T := gz_at 562 (by decide +kernel) rfl
theorem gm_705 : (Jvm.Cond.instanceMethod ({ cls := "WellCourt$Flock", name := "isThere", desc := "(I)Z" } : Jvm.MethodName)) ∈ gz_T := gz_at 705 (by decide +kernel) rfl
theorem gm_706 : (Jvm.Cond.selects "WellCourt$Flock" ({ cls := "WellCourt$Flock", name := "isThere", desc := "(I)Z" } : Jvm.MethodName) ({ cls := "WellCourt$Flock", name := "isThere", desc := "(I)Z" } : Jvm.MethodName)) ∈ gz_T := gz_at 706 (by decide +kernel) rfl
theorem gm_707 : (Jvm.Cond.code ({ cls := "WellCourt$Flock", name := "isThere", desc := "(I)Z" } : Jvm.MethodName) prog_4_method_3_code (2 : Nat) (Option.some Jvm.ClassFile.FieldType.boolean)) ∈ gz_T := gz_at 707 (by decide +kernel) rfl
theorem gm_733 : (Jvm.Cond.methodLink "WellCourt$Land" (23 : Nat) ({ cls := "WellCourt$Land", name := "isThere", desc := "(I)Z" } : Jvm.MethodName)) ∈ gz_T := gz_at 733 (by decide +kernel) rfl
theorem gm_738 : (Jvm.Cond.methodLink "WellCourt$Flock" (33 : Nat) ({ cls := "WellCourt$Flock", name := "isThere", desc := "(I)Z" } : Jvm.MethodName)) ∈ gz_T := gz_at 738 (by decide +kernel) rfl
theorem gn_559 : (Jvm.Cond.methodLinkNest "WellCourt$Calendar" (22 : Nat) ({ cls := "WellCourt", name := "isWell", desc := "(I)Z" } : Jvm.MethodName) "WellCourt") ∈ gzN := gz_nest 559 (by decide +kernel) rfl
theorem gn_560 : (Jvm.Cond.methodLinkNest "WellCourt$Calendar" (26 : Nat) ({ cls := "WellCourt", name := "isDate", desc := "(I)Z" } : Jvm.MethodName) "WellCourt") ∈ gzN := gz_nest 560 (by decide +kernel) rfl
theorem dX0_ownerOn_0 : decode cX0_ownerOn 0 = .ok (.iload_n 1, 1) := by decide +kernel
theorem dX0_ownerOn_1 : decode cX0_ownerOn 1 = .ok (.invokestatic 22, 3) := by decide +kernel
theorem dX0_ownerOn_4 : decode cX0_ownerOn 4 = .ok (.ifCond .eq 21, 3) := by decide +kernel
theorem dX0_ownerOn_7 : decode cX0_ownerOn 7 = .ok (.iload_n 2, 1) := by decide +kernel
theorem dX0_ownerOn_8 : decode cX0_ownerOn 8 = .ok (.invokestatic 26, 3) := by decide +kernel
theorem dX0_ownerOn_11 : decode cX0_ownerOn 11 = .ok (.ifCond .eq 14, 3) := by decide +kernel
theorem dX0_ownerOn_14 : decode cX0_ownerOn 14 = .ok (.aload_n 0, 1) := by decide +kernel
theorem dX0_ownerOn_15 : decode cX0_ownerOn 15 = .ok (.getfield 11, 3) := by decide +kernel
theorem dX0_ownerOn_18 : decode cX0_ownerOn 18 = .ok (.iload_n 1, 1) := by decide +kernel
theorem dX0_ownerOn_19 : decode cX0_ownerOn 19 = .ok (.aaload, 1) := by decide +kernel
theorem dX0_ownerOn_20 : decode cX0_ownerOn 20 = .ok (.iload_n 2, 1) := by decide +kernel
theorem dX0_ownerOn_21 : decode cX0_ownerOn 21 = .ok (.iaload, 1) := by decide +kernel
theorem dX0_ownerOn_22 : decode cX0_ownerOn 22 = .ok (.goto 4, 3) := by decide +kernel
theorem dX0_ownerOn_25 : decode cX0_ownerOn 25 = .ok (.iconst (-1), 1) := by decide +kernel
theorem dX0_ownerOn_26 : decode cX0_ownerOn 26 = .ok (.ireturn, 1) := by decide +kernel
theorem dX2_isThere_0 : decode cX2_isThere 0 = .ok (.aload_n 0, 1) := by decide +kernel
theorem dX2_isThere_1 : decode cX2_isThere 1 = .ok (.getfield 9, 3) := by decide +kernel
theorem dX2_isThere_4 : decode cX2_isThere 4 = .ok (.iload_n 1, 1) := by decide +kernel
theorem dX2_isThere_5 : decode cX2_isThere 5 = .ok (.iaload, 1) := by decide +kernel
theorem dX2_isThere_6 : decode cX2_isThere 6 = .ok (.iconst (-1), 1) := by decide +kernel
theorem dX2_isThere_7 : decode cX2_isThere 7 = .ok (.if_icmp .eq 7, 3) := by decide +kernel
theorem dX2_isThere_14 : decode cX2_isThere 14 = .ok (.iconst 0, 1) := by decide +kernel
theorem dX2_isThere_15 : decode cX2_isThere 15 = .ok (.ireturn, 1) := by decide +kernel
theorem dX2_size_0 : decode cX2_size 0 = .ok (.iconst 0, 1) := by decide +kernel
theorem dX2_size_1 : decode cX2_size 1 = .ok (.istore_n 1, 1) := by decide +kernel
theorem dX2_size_2 : decode cX2_size 2 = .ok (.iconst 0, 1) := by decide +kernel
theorem dX2_size_3 : decode cX2_size 3 = .ok (.istore_n 2, 1) := by decide +kernel
theorem dX2_size_4 : decode cX2_size 4 = .ok (.iload_n 2, 1) := by decide +kernel
theorem dX2_size_5 : decode cX2_size 5 = .ok (.iconst 4, 1) := by decide +kernel
theorem dX2_size_6 : decode cX2_size 6 = .ok (.if_icmp .ge 25, 3) := by decide +kernel
theorem dX2_size_9 : decode cX2_size 9 = .ok (.iload_n 1, 1) := by decide +kernel
theorem dX2_size_10 : decode cX2_size 10 = .ok (.aload_n 0, 1) := by decide +kernel
theorem dX2_size_11 : decode cX2_size 11 = .ok (.iload_n 2, 1) := by decide +kernel
theorem dX2_size_12 : decode cX2_size 12 = .ok (.invokevirtual 33, 3) := by decide +kernel
theorem dX2_size_15 : decode cX2_size 15 = .ok (.ifCond .eq 7, 3) := by decide +kernel
theorem dX2_size_22 : decode cX2_size 22 = .ok (.iconst 0, 1) := by decide +kernel
theorem dX2_size_23 : decode cX2_size 23 = .ok (.iadd, 1) := by decide +kernel
theorem dX2_size_24 : decode cX2_size 24 = .ok (.istore_n 1, 1) := by decide +kernel
theorem dX2_size_25 : decode cX2_size 25 = .ok (.iinc 2 1, 3) := by decide +kernel
theorem dX2_size_28 : decode cX2_size 28 = .ok (.goto (-24), 3) := by decide +kernel
theorem dX2_size_31 : decode cX2_size 31 = .ok (.iload_n 1, 1) := by decide +kernel
theorem dX2_size_32 : decode cX2_size 32 = .ok (.ireturn, 1) := by decide +kernel
theorem dX3_isThere_0 : decode cX3_isThere 0 = .ok (.aload_n 0, 1) := by decide +kernel
theorem dX3_isThere_1 : decode cX3_isThere 1 = .ok (.getfield 9, 3) := by decide +kernel
theorem dX3_isThere_4 : decode cX3_isThere 4 = .ok (.iload_n 1, 1) := by decide +kernel
theorem dX3_isThere_5 : decode cX3_isThere 5 = .ok (.iaload, 1) := by decide +kernel
theorem dX3_isThere_6 : decode cX3_isThere 6 = .ok (.ifCond .le 7, 3) := by decide +kernel
theorem dX3_isThere_13 : decode cX3_isThere 13 = .ok (.iconst 0, 1) := by decide +kernel
theorem dX3_isThere_14 : decode cX3_isThere 14 = .ok (.ireturn, 1) := by decide +kernel
theorem dX3_size_0 : decode cX3_size 0 = .ok (.iconst 0, 1) := by decide +kernel
theorem dX3_size_1 : decode cX3_size 1 = .ok (.istore_n 1, 1) := by decide +kernel
theorem dX3_size_2 : decode cX3_size 2 = .ok (.iconst 0, 1) := by decide +kernel
theorem dX3_size_3 : decode cX3_size 3 = .ok (.istore_n 2, 1) := by decide +kernel
theorem dX3_size_4 : decode cX3_size 4 = .ok (.iload_n 2, 1) := by decide +kernel
theorem dX3_size_5 : decode cX3_size 5 = .ok (.bipush 6, 2) := by decide +kernel
theorem dX3_size_7 : decode cX3_size 7 = .ok (.if_icmp .ge 25, 3) := by decide +kernel
theorem dX3_size_10 : decode cX3_size 10 = .ok (.iload_n 1, 1) := by decide +kernel
theorem dX3_size_11 : decode cX3_size 11 = .ok (.aload_n 0, 1) := by decide +kernel
theorem dX3_size_12 : decode cX3_size 12 = .ok (.iload_n 2, 1) := by decide +kernel
theorem dX3_size_13 : decode cX3_size 13 = .ok (.invokevirtual 23, 3) := by decide +kernel
theorem dX3_size_16 : decode cX3_size 16 = .ok (.ifCond .eq 7, 3) := by decide +kernel
theorem dX3_size_23 : decode cX3_size 23 = .ok (.iconst 0, 1) := by decide +kernel
theorem dX3_size_24 : decode cX3_size 24 = .ok (.iadd, 1) := by decide +kernel
theorem dX3_size_25 : decode cX3_size 25 = .ok (.istore_n 1, 1) := by decide +kernel
theorem dX3_size_26 : decode cX3_size 26 = .ok (.iinc 2 1, 3) := by decide +kernel
theorem dX3_size_29 : decode cX3_size 29 = .ok (.goto (-25), 3) := by decide +kernel
theorem dX3_size_32 : decode cX3_size 32 = .ok (.iload_n 1, 1) := by decide +kernel
theorem dX3_size_33 : decode cX3_size 33 = .ok (.ireturn, 1) := by decide +kernel
theorem dX4_droughtOwner_0 : decode cX4_droughtOwner 0 = .ok (.iconst 0, 1) := by decide +kernel
theorem dX4_droughtOwner_1 : decode cX4_droughtOwner 1 = .ok (.istore_n 3, 1) := by decide +kernel
theorem dX4_droughtOwner_2 : decode cX4_droughtOwner 2 = .ok (.iload_n 3, 1) := by decide +kernel
theorem dX4_droughtOwner_3 : decode cX4_droughtOwner 3 = .ok (.aload_n 0, 1) := by decide +kernel
theorem dX4_droughtOwner_4 : decode cX4_droughtOwner 4 = .ok (.getfield 30, 3) := by decide +kernel
theorem dX4_droughtOwner_7 : decode cX4_droughtOwner 7 = .ok (.if_icmp .ge 41, 3) := by decide +kernel
theorem dX4_droughtOwner_48 : decode cX4_droughtOwner 48 = .ok (.iconst (-1), 1) := by decide +kernel
theorem dX4_droughtOwner_49 : decode cX4_droughtOwner 49 = .ok (.ireturn, 1) := by decide +kernel
theorem dX4_turnOn_0 : decode cX4_turnOn 0 = .ok (.aload_n 0, 1) := by decide +kernel
theorem dX4_turnOn_1 : decode cX4_turnOn 1 = .ok (.getfield 20, 3) := by decide +kernel
theorem dX4_turnOn_4 : decode cX4_turnOn 4 = .ok (.iload_n 1, 1) := by decide +kernel
theorem dX4_turnOn_5 : decode cX4_turnOn 5 = .ok (.iaload, 1) := by decide +kernel
theorem dX4_turnOn_6 : decode cX4_turnOn 6 = .ok (.istore_n 3, 1) := by decide +kernel
theorem dX4_turnOn_7 : decode cX4_turnOn 7 = .ok (.iload_n 3, 1) := by decide +kernel
theorem dX4_turnOn_8 : decode cX4_turnOn 8 = .ok (.ifCond .le 16, 3) := by decide +kernel
theorem dX4_turnOn_24 : decode cX4_turnOn 24 = .ok (.iconst (-1), 1) := by decide +kernel
theorem dX4_turnOn_25 : decode cX4_turnOn 25 = .ok (.ireturn, 1) := by decide +kernel
theorem dX5_has_0 : decode cX5_has 0 = .ok (.iload_n 1, 1) := by decide +kernel
theorem dX5_has_1 : decode cX5_has 1 = .ok (.ifCond .lt 15, 3) := by decide +kernel
theorem dX5_has_4 : decode cX5_has 4 = .ok (.iload_n 1, 1) := by decide +kernel
theorem dX5_has_5 : decode cX5_has 5 = .ok (.aload_n 0, 1) := by decide +kernel
theorem dX5_has_6 : decode cX5_has 6 = .ok (.getfield 16, 3) := by decide +kernel
theorem dX5_has_9 : decode cX5_has 9 = .ok (.if_icmp .ge 7, 3) := by decide +kernel
theorem dX5_has_12 : decode cX5_has 12 = .ok (.iconst 1, 1) := by decide +kernel
theorem dX5_has_13 : decode cX5_has 13 = .ok (.goto 4, 3) := by decide +kernel
theorem dX5_has_16 : decode cX5_has 16 = .ok (.iconst 0, 1) := by decide +kernel
theorem dX5_has_17 : decode cX5_has 17 = .ok (.ireturn, 1) := by decide +kernel
theorem dX7_isBlank_0 : decode cX7_isBlank 0 = .ok (.iload_n 0, 1) := by decide +kernel
theorem dX7_isBlank_1 : decode cX7_isBlank 1 = .ok (.bipush 32, 2) := by decide +kernel
theorem dX7_isBlank_3 : decode cX7_isBlank 3 = .ok (.if_icmp .eq 9, 3) := by decide +kernel
theorem dX7_isBlank_6 : decode cX7_isBlank 6 = .ok (.iload_n 0, 1) := by decide +kernel
theorem dX7_isBlank_7 : decode cX7_isBlank 7 = .ok (.bipush 10, 2) := by decide +kernel
theorem dX7_isBlank_9 : decode cX7_isBlank 9 = .ok (.if_icmp .ne 7, 3) := by decide +kernel
theorem dX7_isBlank_12 : decode cX7_isBlank 12 = .ok (.iconst 1, 1) := by decide +kernel
theorem dX7_isBlank_13 : decode cX7_isBlank 13 = .ok (.goto 4, 3) := by decide +kernel
theorem dX7_isBlank_16 : decode cX7_isBlank 16 = .ok (.iconst 0, 1) := by decide +kernel
theorem dX7_isBlank_17 : decode cX7_isBlank 17 = .ok (.ireturn, 1) := by decide +kernel
theorem dX8_byteAt_0 : decode cX8_byteAt 0 = .ok (.iload_n 1, 1) := by decide +kernel
theorem dX8_byteAt_1 : decode cX8_byteAt 1 = .ok (.ifCond .lt 11, 3) := by decide +kernel
theorem dX8_byteAt_4 : decode cX8_byteAt 4 = .ok (.iload_n 1, 1) := by decide +kernel
theorem dX8_byteAt_5 : decode cX8_byteAt 5 = .ok (.aload_n 0, 1) := by decide +kernel
theorem dX8_byteAt_6 : decode cX8_byteAt 6 = .ok (.getfield 15, 3) := by decide +kernel
theorem dX8_byteAt_9 : decode cX8_byteAt 9 = .ok (.if_icmp .lt 7, 3) := by decide +kernel
theorem dX8_byteAt_12 : decode cX8_byteAt 12 = .ok (.iconst (-1), 1) := by decide +kernel
theorem dX8_byteAt_13 : decode cX8_byteAt 13 = .ok (.goto 13, 3) := by decide +kernel
theorem dX8_byteAt_16 : decode cX8_byteAt 16 = .ok (.aload_n 0, 1) := by decide +kernel
theorem dX8_byteAt_17 : decode cX8_byteAt 17 = .ok (.getfield 9, 3) := by decide +kernel
theorem dX8_byteAt_20 : decode cX8_byteAt 20 = .ok (.iload_n 1, 1) := by decide +kernel
theorem dX8_byteAt_21 : decode cX8_byteAt 21 = .ok (.baload, 1) := by decide +kernel
theorem dX8_byteAt_26 : decode cX8_byteAt 26 = .ok (.ireturn, 1) := by decide +kernel
theorem dX9_isClan_0 : decode cX9_isClan 0 = .ok (.iload_n 0, 1) := by decide +kernel
theorem dX9_isClan_1 : decode cX9_isClan 1 = .ok (.ifCond .lt 13, 3) := by decide +kernel
theorem dX9_isClan_4 : decode cX9_isClan 4 = .ok (.iload_n 0, 1) := by decide +kernel
theorem dX9_isClan_5 : decode cX9_isClan 5 = .ok (.bipush 6, 2) := by decide +kernel
theorem dX9_isClan_7 : decode cX9_isClan 7 = .ok (.if_icmp .ge 7, 3) := by decide +kernel
theorem dX9_isClan_10 : decode cX9_isClan 10 = .ok (.iconst 1, 1) := by decide +kernel
theorem dX9_isClan_11 : decode cX9_isClan 11 = .ok (.goto 4, 3) := by decide +kernel
theorem dX9_isClan_14 : decode cX9_isClan 14 = .ok (.iconst 0, 1) := by decide +kernel
theorem dX9_isClan_15 : decode cX9_isClan 15 = .ok (.ireturn, 1) := by decide +kernel
theorem dX9_isDate_0 : decode cX9_isDate 0 = .ok (.iload_n 0, 1) := by decide +kernel
theorem dX9_isDate_1 : decode cX9_isDate 1 = .ok (.ifCond .lt 14, 3) := by decide +kernel
theorem dX9_isDate_4 : decode cX9_isDate 4 = .ok (.iload_n 0, 1) := by decide +kernel
theorem dX9_isDate_5 : decode cX9_isDate 5 = .ok (.sipush 199, 3) := by decide +kernel
theorem dX9_isDate_8 : decode cX9_isDate 8 = .ok (.if_icmp .gt 7, 3) := by decide +kernel
theorem dX9_isDate_11 : decode cX9_isDate 11 = .ok (.iconst 1, 1) := by decide +kernel
theorem dX9_isDate_12 : decode cX9_isDate 12 = .ok (.goto 4, 3) := by decide +kernel
theorem dX9_isDate_15 : decode cX9_isDate 15 = .ok (.iconst 0, 1) := by decide +kernel
theorem dX9_isDate_16 : decode cX9_isDate 16 = .ok (.ireturn, 1) := by decide +kernel
theorem dX9_isHerd_0 : decode cX9_isHerd 0 = .ok (.iload_n 0, 1) := by decide +kernel
theorem dX9_isHerd_1 : decode cX9_isHerd 1 = .ok (.ifCond .lt 12, 3) := by decide +kernel
theorem dX9_isHerd_4 : decode cX9_isHerd 4 = .ok (.iload_n 0, 1) := by decide +kernel
theorem dX9_isHerd_5 : decode cX9_isHerd 5 = .ok (.iconst 4, 1) := by decide +kernel
theorem dX9_isHerd_6 : decode cX9_isHerd 6 = .ok (.if_icmp .ge 7, 3) := by decide +kernel
theorem dX9_isHerd_9 : decode cX9_isHerd 9 = .ok (.iconst 1, 1) := by decide +kernel
theorem dX9_isHerd_10 : decode cX9_isHerd 10 = .ok (.goto 4, 3) := by decide +kernel
theorem dX9_isHerd_13 : decode cX9_isHerd 13 = .ok (.iconst 0, 1) := by decide +kernel
theorem dX9_isHerd_14 : decode cX9_isHerd 14 = .ok (.ireturn, 1) := by decide +kernel
theorem dX9_isWell_0 : decode cX9_isWell 0 = .ok (.iload_n 0, 1) := by decide +kernel
theorem dX9_isWell_1 : decode cX9_isWell 1 = .ok (.ifCond .lt 13, 3) := by decide +kernel
theorem dX9_isWell_4 : decode cX9_isWell 4 = .ok (.iload_n 0, 1) := by decide +kernel
theorem dX9_isWell_5 : decode cX9_isWell 5 = .ok (.bipush 6, 2) := by decide +kernel
theorem dX9_isWell_7 : decode cX9_isWell 7 = .ok (.if_icmp .ge 7, 3) := by decide +kernel
theorem dX9_isWell_10 : decode cX9_isWell 10 = .ok (.iconst 1, 1) := by decide +kernel
theorem dX9_isWell_11 : decode cX9_isWell 11 = .ok (.goto 4, 3) := by decide +kernel
theorem dX9_isWell_14 : decode cX9_isWell 14 = .ok (.iconst 0, 1) := by decide +kernel
theorem dX9_isWell_15 : decode cX9_isWell 15 = .ok (.ireturn, 1) := by decide +kernel
theorem dX9_isWellThere_0 : decode cX9_isWellThere 0 = .ok (.iload_n 1, 1) := by decide +kernel
theorem dX9_isWellThere_1 : decode cX9_isWellThere 1 = .ok (.invokestatic 93, 3) := by decide +kernel
theorem dX9_isWellThere_4 : decode cX9_isWellThere 4 = .ok (.ifCond .eq 18, 3) := by decide +kernel
theorem dX9_isWellThere_7 : decode cX9_isWellThere 7 = .ok (.aload_n 0, 1) := by decide +kernel
theorem dX9_isWellThere_8 : decode cX9_isWellThere 8 = .ok (.getfield 28, 3) := by decide +kernel
theorem dX9_isWellThere_11 : decode cX9_isWellThere 11 = .ok (.iload_n 1, 1) := by decide +kernel
theorem dX9_isWellThere_12 : decode cX9_isWellThere 12 = .ok (.invokevirtual 97, 3) := by decide +kernel
theorem dX9_isWellThere_15 : decode cX9_isWellThere 15 = .ok (.ifCond .eq 7, 3) := by decide +kernel
theorem dX9_isWellThere_22 : decode cX9_isWellThere 22 = .ok (.iconst 0, 1) := by decide +kernel
theorem dX9_isWellThere_23 : decode cX9_isWellThere 23 = .ok (.ireturn, 1) := by decide +kernel
theorem dX9_isWithin_0 : decode cX9_isWithin 0 = .ok (.iload_n 0, 1) := by decide +kernel
theorem dX9_isWithin_1 : decode cX9_isWithin 1 = .ok (.iload_n 1, 1) := by decide +kernel
theorem dX9_isWithin_2 : decode cX9_isWithin 2 = .ok (.if_icmp .lt 12, 3) := by decide +kernel
theorem dX9_isWithin_5 : decode cX9_isWithin 5 = .ok (.iload_n 0, 1) := by decide +kernel
theorem dX9_isWithin_6 : decode cX9_isWithin 6 = .ok (.iload_n 2, 1) := by decide +kernel
theorem dX9_isWithin_7 : decode cX9_isWithin 7 = .ok (.if_icmp .gt 7, 3) := by decide +kernel
theorem dX9_isWithin_10 : decode cX9_isWithin 10 = .ok (.iconst 1, 1) := by decide +kernel
theorem dX9_isWithin_11 : decode cX9_isWithin 11 = .ok (.goto 4, 3) := by decide +kernel
theorem dX9_isWithin_14 : decode cX9_isWithin 14 = .ok (.iconst 0, 1) := by decide +kernel
theorem dX9_isWithin_15 : decode cX9_isWithin 15 = .ok (.ireturn, 1) := by decide +kernel
set_option maxHeartbeats 4000000 in
set_option maxRecDepth 100000 in
/-- WellCourt.isWithin -/
theorem c_isWithin (l : Launch) (G : va_G) (cy : Nat → ClassId) (sz : Nat) (x : Int32) (y : Int32) (z : Int32) (Xx : Int) (Xy : Int) (Xz : Int) (kx : x.toInt = Xx) (ky : y.toInt = Xy) (kz : z.toInt = Xz)  : gMi l yX9_isWithin cX9_isWithin 3 (some .boolean) ({ frames := 0, cells := 0, slots := 0, locals := 0 }) G cy sz [.int x, .int y, .int z] [] (fun (r : Int32) (u : Unit) => (r = 1 ∧ (Xy ≤ Xx) ∧ (Xx ≤ Xz)) ∨ (r = 0 ∧ (Xx < Xy ∨ Xz < Xx))) (fun (u : Unit) => []) := by
  refine gz_start (fun A => gQi G cy _ _ A) (by decide) (Nat.le_of_ble_eq_true rfl) ?_
  intro p e s m below meth c A ls H hx hb hr hml hlocks hin hown hts hK hov hsz hP hD hS hA hl
  have hl : lv_has ls 3 [(0, .int x), (1, .int y), (2, .int z)] := hl
  refine lv_iload_n hx hb dX9_isWithin_0 rfl (lv_at hl 0 rfl) ?_
  refine lv_iload_n hx hb dX9_isWithin_1 rfl (lv_at hl 1 rfl) ?_
  refine lv_icmp_lt (tgt := 14) hx hb dX9_isWithin_2 (by decide) (fun c_1 => ?_) (fun c_1 => ?_)
  · have ic_1 := gz_lt (rfl : x.toInt = x.toInt) (rfl : y.toInt = y.toInt) c_1
    refine lv_iconst (v := 0) hx hb dX9_isWithin_14 (by decide) ?_
    exact gz_iret (cf := (fun (u : Unit) => [])) (post := (fun (r : Int32) (u : Unit) => (r = 1 ∧ (Xy ≤ Xx) ∧ (Xx ≤ Xz)) ∨ (r = 0 ∧ (Xx < Xy ∨ Xz < Xx)))) hx hb hr hlocks hK hP hD hS () [] (by decide) (Or.inr (⟨rfl, by omega⟩)) (by decide) rfl (Nat.le_of_ble_eq_true rfl) (Nat.le_of_ble_eq_true rfl) dX9_isWithin_15
  · have ic_1 := gz_nlt (rfl : x.toInt = x.toInt) (rfl : y.toInt = y.toInt) c_1
    refine lv_iload_n hx hb dX9_isWithin_5 rfl (lv_at hl 0 rfl) ?_
    refine lv_iload_n hx hb dX9_isWithin_6 rfl (lv_at hl 2 rfl) ?_
    refine lv_icmp_gt (tgt := 14) hx hb dX9_isWithin_7 (by decide) (fun c_2 => ?_) (fun c_2 => ?_)
    · have ic_2 := gz_lt (rfl : z.toInt = z.toInt) (rfl : x.toInt = x.toInt) c_2
      refine lv_iconst (v := 0) hx hb dX9_isWithin_14 (by decide) ?_
      exact gz_iret (cf := (fun (u : Unit) => [])) (post := (fun (r : Int32) (u : Unit) => (r = 1 ∧ (Xy ≤ Xx) ∧ (Xx ≤ Xz)) ∨ (r = 0 ∧ (Xx < Xy ∨ Xz < Xx)))) hx hb hr hlocks hK hP hD hS () [] (by decide) (Or.inr (⟨rfl, by omega⟩)) (by decide) rfl (Nat.le_of_ble_eq_true rfl) (Nat.le_of_ble_eq_true rfl) dX9_isWithin_15
    · have ic_2 := gz_nlt (rfl : z.toInt = z.toInt) (rfl : x.toInt = x.toInt) c_2
      refine lv_iconst (v := 1) hx hb dX9_isWithin_10 (by decide) ?_
      refine lv_goto (tgt := 15) hx hb dX9_isWithin_11 (by decide) ?_
      exact gz_iret (cf := (fun (u : Unit) => [])) (post := (fun (r : Int32) (u : Unit) => (r = 1 ∧ (Xy ≤ Xx) ∧ (Xx ≤ Xz)) ∨ (r = 0 ∧ (Xx < Xy ∨ Xz < Xx)))) hx hb hr hlocks hK hP hD hS () [] (by decide) (Or.inl (⟨rfl, by omega, by omega⟩)) (by decide) rfl (Nat.le_of_ble_eq_true rfl) (Nat.le_of_ble_eq_true rfl) dX9_isWithin_15

set_option maxHeartbeats 4000000 in
set_option maxRecDepth 100000 in
/-- WellCourt.isWell -/
theorem c_isWell (l : Launch) (G : va_G) (cy : Nat → ClassId) (sz : Nat) (x : Int32) (Xx : Int) (kx : x.toInt = Xx)  : gMi l yX9_isWell cX9_isWell 1 (some .boolean) ({ frames := 0, cells := 0, slots := 0, locals := 0 }) G cy sz [.int x] [] (fun (r : Int32) (u : Unit) => (r = 1 ∧ (0 ≤ Xx) ∧ (Xx ≤ 5)) ∨ (r = 0 ∧ (Xx < 0 ∨ 5 < Xx))) (fun (u : Unit) => []) := by
  refine gz_start (fun A => gQi G cy _ _ A) (by decide) (Nat.le_of_ble_eq_true rfl) ?_
  intro p e s m below meth c A ls H hx hb hr hml hlocks hin hown hts hK hov hsz hP hD hS hA hl
  have hl : lv_has ls 1 [(0, .int x)] := hl
  refine lv_iload_n hx hb dX9_isWell_0 rfl (lv_at hl 0 rfl) ?_
  refine lv_if_lt (tgt := 14) hx hb dX9_isWell_1 (by decide) (fun c_1 => ?_) (fun c_1 => ?_)
  · have ic_1 := gz_lt (rfl : x.toInt = x.toInt) (by decide : (0 : Int32).toInt = 0) c_1
    refine lv_iconst (v := 0) hx hb dX9_isWell_14 (by decide) ?_
    exact gz_iret (cf := (fun (u : Unit) => [])) (post := (fun (r : Int32) (u : Unit) => (r = 1 ∧ (0 ≤ Xx) ∧ (Xx ≤ 5)) ∨ (r = 0 ∧ (Xx < 0 ∨ 5 < Xx)))) hx hb hr hlocks hK hP hD hS () [] (by decide) (Or.inr (⟨rfl, by omega⟩)) (by decide) rfl (Nat.le_of_ble_eq_true rfl) (Nat.le_of_ble_eq_true rfl) dX9_isWell_15
  · have ic_1 := gz_nlt (rfl : x.toInt = x.toInt) (by decide : (0 : Int32).toInt = 0) c_1
    refine lv_iload_n hx hb dX9_isWell_4 rfl (lv_at hl 0 rfl) ?_
    refine lv_bipush (v := 6) hx hb dX9_isWell_5 (by decide) ?_
    refine lv_icmp_ge (tgt := 14) hx hb dX9_isWell_7 (by decide) (fun c_2 => ?_) (fun c_2 => ?_)
    · have ic_2 := gz_le (by decide : (6 : Int32).toInt = 6) (rfl : x.toInt = x.toInt) c_2
      refine lv_iconst (v := 0) hx hb dX9_isWell_14 (by decide) ?_
      exact gz_iret (cf := (fun (u : Unit) => [])) (post := (fun (r : Int32) (u : Unit) => (r = 1 ∧ (0 ≤ Xx) ∧ (Xx ≤ 5)) ∨ (r = 0 ∧ (Xx < 0 ∨ 5 < Xx)))) hx hb hr hlocks hK hP hD hS () [] (by decide) (Or.inr (⟨rfl, by omega⟩)) (by decide) rfl (Nat.le_of_ble_eq_true rfl) (Nat.le_of_ble_eq_true rfl) dX9_isWell_15
    · have ic_2 := gz_nle (by decide : (6 : Int32).toInt = 6) (rfl : x.toInt = x.toInt) c_2
      refine lv_iconst (v := 1) hx hb dX9_isWell_10 (by decide) ?_
      refine lv_goto (tgt := 15) hx hb dX9_isWell_11 (by decide) ?_
      exact gz_iret (cf := (fun (u : Unit) => [])) (post := (fun (r : Int32) (u : Unit) => (r = 1 ∧ (0 ≤ Xx) ∧ (Xx ≤ 5)) ∨ (r = 0 ∧ (Xx < 0 ∨ 5 < Xx)))) hx hb hr hlocks hK hP hD hS () [] (by decide) (Or.inl (⟨rfl, by omega, by omega⟩)) (by decide) rfl (Nat.le_of_ble_eq_true rfl) (Nat.le_of_ble_eq_true rfl) dX9_isWell_15

set_option maxHeartbeats 4000000 in
set_option maxRecDepth 100000 in
/-- WellCourt.isClan -/
theorem c_isClan (l : Launch) (G : va_G) (cy : Nat → ClassId) (sz : Nat) (x : Int32) (Xx : Int) (kx : x.toInt = Xx)  : gMi l yX9_isClan cX9_isClan 1 (some .boolean) ({ frames := 0, cells := 0, slots := 0, locals := 0 }) G cy sz [.int x] [] (fun (r : Int32) (u : Unit) => (r = 1 ∧ (0 ≤ Xx) ∧ (Xx ≤ 5)) ∨ (r = 0 ∧ (Xx < 0 ∨ 5 < Xx))) (fun (u : Unit) => []) := by
  refine gz_start (fun A => gQi G cy _ _ A) (by decide) (Nat.le_of_ble_eq_true rfl) ?_
  intro p e s m below meth c A ls H hx hb hr hml hlocks hin hown hts hK hov hsz hP hD hS hA hl
  have hl : lv_has ls 1 [(0, .int x)] := hl
  refine lv_iload_n hx hb dX9_isClan_0 rfl (lv_at hl 0 rfl) ?_
  refine lv_if_lt (tgt := 14) hx hb dX9_isClan_1 (by decide) (fun c_1 => ?_) (fun c_1 => ?_)
  · have ic_1 := gz_lt (rfl : x.toInt = x.toInt) (by decide : (0 : Int32).toInt = 0) c_1
    refine lv_iconst (v := 0) hx hb dX9_isClan_14 (by decide) ?_
    exact gz_iret (cf := (fun (u : Unit) => [])) (post := (fun (r : Int32) (u : Unit) => (r = 1 ∧ (0 ≤ Xx) ∧ (Xx ≤ 5)) ∨ (r = 0 ∧ (Xx < 0 ∨ 5 < Xx)))) hx hb hr hlocks hK hP hD hS () [] (by decide) (Or.inr (⟨rfl, by omega⟩)) (by decide) rfl (Nat.le_of_ble_eq_true rfl) (Nat.le_of_ble_eq_true rfl) dX9_isClan_15
  · have ic_1 := gz_nlt (rfl : x.toInt = x.toInt) (by decide : (0 : Int32).toInt = 0) c_1
    refine lv_iload_n hx hb dX9_isClan_4 rfl (lv_at hl 0 rfl) ?_
    refine lv_bipush (v := 6) hx hb dX9_isClan_5 (by decide) ?_
    refine lv_icmp_ge (tgt := 14) hx hb dX9_isClan_7 (by decide) (fun c_2 => ?_) (fun c_2 => ?_)
    · have ic_2 := gz_le (by decide : (6 : Int32).toInt = 6) (rfl : x.toInt = x.toInt) c_2
      refine lv_iconst (v := 0) hx hb dX9_isClan_14 (by decide) ?_
      exact gz_iret (cf := (fun (u : Unit) => [])) (post := (fun (r : Int32) (u : Unit) => (r = 1 ∧ (0 ≤ Xx) ∧ (Xx ≤ 5)) ∨ (r = 0 ∧ (Xx < 0 ∨ 5 < Xx)))) hx hb hr hlocks hK hP hD hS () [] (by decide) (Or.inr (⟨rfl, by omega⟩)) (by decide) rfl (Nat.le_of_ble_eq_true rfl) (Nat.le_of_ble_eq_true rfl) dX9_isClan_15
    · have ic_2 := gz_nle (by decide : (6 : Int32).toInt = 6) (rfl : x.toInt = x.toInt) c_2
      refine lv_iconst (v := 1) hx hb dX9_isClan_10 (by decide) ?_
      refine lv_goto (tgt := 15) hx hb dX9_isClan_11 (by decide) ?_
      exact gz_iret (cf := (fun (u : Unit) => [])) (post := (fun (r : Int32) (u : Unit) => (r = 1 ∧ (0 ≤ Xx) ∧ (Xx ≤ 5)) ∨ (r = 0 ∧ (Xx < 0 ∨ 5 < Xx)))) hx hb hr hlocks hK hP hD hS () [] (by decide) (Or.inl (⟨rfl, by omega, by omega⟩)) (by decide) rfl (Nat.le_of_ble_eq_true rfl) (Nat.le_of_ble_eq_true rfl) dX9_isClan_15

set_option maxHeartbeats 4000000 in
set_option maxRecDepth 100000 in
/-- WellCourt.isHerd -/
theorem c_isHerd (l : Launch) (G : va_G) (cy : Nat → ClassId) (sz : Nat) (x : Int32) (Xx : Int) (kx : x.toInt = Xx)  : gMi l yX9_isHerd cX9_isHerd 1 (some .boolean) ({ frames := 0, cells := 0, slots := 0, locals := 0 }) G cy sz [.int x] [] (fun (r : Int32) (u : Unit) => (r = 1 ∧ (0 ≤ Xx) ∧ (Xx ≤ 3)) ∨ (r = 0 ∧ (Xx < 0 ∨ 3 < Xx))) (fun (u : Unit) => []) := by
  refine gz_start (fun A => gQi G cy _ _ A) (by decide) (Nat.le_of_ble_eq_true rfl) ?_
  intro p e s m below meth c A ls H hx hb hr hml hlocks hin hown hts hK hov hsz hP hD hS hA hl
  have hl : lv_has ls 1 [(0, .int x)] := hl
  refine lv_iload_n hx hb dX9_isHerd_0 rfl (lv_at hl 0 rfl) ?_
  refine lv_if_lt (tgt := 13) hx hb dX9_isHerd_1 (by decide) (fun c_1 => ?_) (fun c_1 => ?_)
  · have ic_1 := gz_lt (rfl : x.toInt = x.toInt) (by decide : (0 : Int32).toInt = 0) c_1
    refine lv_iconst (v := 0) hx hb dX9_isHerd_13 (by decide) ?_
    exact gz_iret (cf := (fun (u : Unit) => [])) (post := (fun (r : Int32) (u : Unit) => (r = 1 ∧ (0 ≤ Xx) ∧ (Xx ≤ 3)) ∨ (r = 0 ∧ (Xx < 0 ∨ 3 < Xx)))) hx hb hr hlocks hK hP hD hS () [] (by decide) (Or.inr (⟨rfl, by omega⟩)) (by decide) rfl (Nat.le_of_ble_eq_true rfl) (Nat.le_of_ble_eq_true rfl) dX9_isHerd_14
  · have ic_1 := gz_nlt (rfl : x.toInt = x.toInt) (by decide : (0 : Int32).toInt = 0) c_1
    refine lv_iload_n hx hb dX9_isHerd_4 rfl (lv_at hl 0 rfl) ?_
    refine lv_iconst (v := 4) hx hb dX9_isHerd_5 (by decide) ?_
    refine lv_icmp_ge (tgt := 13) hx hb dX9_isHerd_6 (by decide) (fun c_2 => ?_) (fun c_2 => ?_)
    · have ic_2 := gz_le (by decide : (4 : Int32).toInt = 4) (rfl : x.toInt = x.toInt) c_2
      refine lv_iconst (v := 0) hx hb dX9_isHerd_13 (by decide) ?_
      exact gz_iret (cf := (fun (u : Unit) => [])) (post := (fun (r : Int32) (u : Unit) => (r = 1 ∧ (0 ≤ Xx) ∧ (Xx ≤ 3)) ∨ (r = 0 ∧ (Xx < 0 ∨ 3 < Xx)))) hx hb hr hlocks hK hP hD hS () [] (by decide) (Or.inr (⟨rfl, by omega⟩)) (by decide) rfl (Nat.le_of_ble_eq_true rfl) (Nat.le_of_ble_eq_true rfl) dX9_isHerd_14
    · have ic_2 := gz_nle (by decide : (4 : Int32).toInt = 4) (rfl : x.toInt = x.toInt) c_2
      refine lv_iconst (v := 1) hx hb dX9_isHerd_9 (by decide) ?_
      refine lv_goto (tgt := 14) hx hb dX9_isHerd_10 (by decide) ?_
      exact gz_iret (cf := (fun (u : Unit) => [])) (post := (fun (r : Int32) (u : Unit) => (r = 1 ∧ (0 ≤ Xx) ∧ (Xx ≤ 3)) ∨ (r = 0 ∧ (Xx < 0 ∨ 3 < Xx)))) hx hb hr hlocks hK hP hD hS () [] (by decide) (Or.inl (⟨rfl, by omega, by omega⟩)) (by decide) rfl (Nat.le_of_ble_eq_true rfl) (Nat.le_of_ble_eq_true rfl) dX9_isHerd_14

set_option maxHeartbeats 4000000 in
set_option maxRecDepth 100000 in
/-- WellCourt.isDate -/
theorem c_isDate (l : Launch) (G : va_G) (cy : Nat → ClassId) (sz : Nat) (x : Int32) (Xx : Int) (kx : x.toInt = Xx)  : gMi l yX9_isDate cX9_isDate 1 (some .boolean) ({ frames := 0, cells := 0, slots := 0, locals := 0 }) G cy sz [.int x] [] (fun (r : Int32) (u : Unit) => (r = 1 ∧ (0 ≤ Xx) ∧ (Xx ≤ 199)) ∨ (r = 0 ∧ (Xx < 0 ∨ 199 < Xx))) (fun (u : Unit) => []) := by
  refine gz_start (fun A => gQi G cy _ _ A) (by decide) (Nat.le_of_ble_eq_true rfl) ?_
  intro p e s m below meth c A ls H hx hb hr hml hlocks hin hown hts hK hov hsz hP hD hS hA hl
  have hl : lv_has ls 1 [(0, .int x)] := hl
  refine lv_iload_n hx hb dX9_isDate_0 rfl (lv_at hl 0 rfl) ?_
  refine lv_if_lt (tgt := 15) hx hb dX9_isDate_1 (by decide) (fun c_1 => ?_) (fun c_1 => ?_)
  · have ic_1 := gz_lt (rfl : x.toInt = x.toInt) (by decide : (0 : Int32).toInt = 0) c_1
    refine lv_iconst (v := 0) hx hb dX9_isDate_15 (by decide) ?_
    exact gz_iret (cf := (fun (u : Unit) => [])) (post := (fun (r : Int32) (u : Unit) => (r = 1 ∧ (0 ≤ Xx) ∧ (Xx ≤ 199)) ∨ (r = 0 ∧ (Xx < 0 ∨ 199 < Xx)))) hx hb hr hlocks hK hP hD hS () [] (by decide) (Or.inr (⟨rfl, by omega⟩)) (by decide) rfl (Nat.le_of_ble_eq_true rfl) (Nat.le_of_ble_eq_true rfl) dX9_isDate_16
  · have ic_1 := gz_nlt (rfl : x.toInt = x.toInt) (by decide : (0 : Int32).toInt = 0) c_1
    refine lv_iload_n hx hb dX9_isDate_4 rfl (lv_at hl 0 rfl) ?_
    refine lv_sipush (v := 199) hx hb dX9_isDate_5 (by decide) ?_
    refine lv_icmp_gt (tgt := 15) hx hb dX9_isDate_8 (by decide) (fun c_2 => ?_) (fun c_2 => ?_)
    · have ic_2 := gz_lt (by decide : (199 : Int32).toInt = 199) (rfl : x.toInt = x.toInt) c_2
      refine lv_iconst (v := 0) hx hb dX9_isDate_15 (by decide) ?_
      exact gz_iret (cf := (fun (u : Unit) => [])) (post := (fun (r : Int32) (u : Unit) => (r = 1 ∧ (0 ≤ Xx) ∧ (Xx ≤ 199)) ∨ (r = 0 ∧ (Xx < 0 ∨ 199 < Xx)))) hx hb hr hlocks hK hP hD hS () [] (by decide) (Or.inr (⟨rfl, by omega⟩)) (by decide) rfl (Nat.le_of_ble_eq_true rfl) (Nat.le_of_ble_eq_true rfl) dX9_isDate_16
    · have ic_2 := gz_nlt (by decide : (199 : Int32).toInt = 199) (rfl : x.toInt = x.toInt) c_2
      refine lv_iconst (v := 1) hx hb dX9_isDate_11 (by decide) ?_
      refine lv_goto (tgt := 16) hx hb dX9_isDate_12 (by decide) ?_
      exact gz_iret (cf := (fun (u : Unit) => [])) (post := (fun (r : Int32) (u : Unit) => (r = 1 ∧ (0 ≤ Xx) ∧ (Xx ≤ 199)) ∨ (r = 0 ∧ (Xx < 0 ∨ 199 < Xx)))) hx hb hr hlocks hK hP hD hS () [] (by decide) (Or.inl (⟨rfl, by omega, by omega⟩)) (by decide) rfl (Nat.le_of_ble_eq_true rfl) (Nat.le_of_ble_eq_true rfl) dX9_isDate_16

set_option maxHeartbeats 4000000 in
set_option maxRecDepth 100000 in
/-- WellCourt$Land.isThere -/
theorem c_X3_isThere (l : Launch) (G : va_G) (cy : Nat → ClassId) (sz : Nat) (h0 : Nat) (a0 : Nat) (a1 : Nat) (a2 : Nat) (x : Int32) (Xx : Int) (kx : x.toInt = Xx) (hx0 : 0 ≤ Xx) (hx1 : Xx < 6) : gMi l yX3_isThere cX3_isThere 2 (some .boolean) ({ frames := 0, cells := 0, slots := 0, locals := 0 }) G cy sz [.ref h0, .int x] [(h0, .inr (3, [.ref a0, .ref a1, .ref a2])), (a0, .inl (cy 0, 6, .inl (fun _ => 0)))] (fun (r : Int32) (u : Unit) => r = 0) (fun (u : Unit) => [(h0, .inr (3, [.ref a0, .ref a1, .ref a2])), (a0, .inl (cy 0, 6, .inl (fun _ => 0)))]) := by
  refine gz_start (fun A => gQi G cy _ _ A) (by decide) (Nat.le_of_ble_eq_true rfl) ?_
  intro p e s m below meth c A ls H hx hb hr hml hlocks hin hown hts hK hov hsz hP hD hS hA hl
  have hl : lv_has ls 2 [(0, .ref h0), (1, .int x)] := hl
  refine lv_aload_n hx hb dX3_isThere_0 rfl (lv_at hl 0 rfl) ?_
  refine va_get (ci := 3) (v := .ref a0) (C := RX3) (T := TX3) (N := 3) hx hb hts inX3 hown hK hP 0 rfl rfl 0 (by decide) (hts _ gm_82) (fun _ h9 => h9) rfl dX3_isThere_1 ?_
  refine lv_iload_n hx hb dX3_isThere_4 rfl (lv_at hl 1 rfl) ?_
  refine va_iald hx hb hK hP 1 0 rfl rfl (vp_in_iff.mpr ⟨by omega, by omega⟩) dX3_isThere_5 ?_
  refine lv_topi (fun x_1 ex_1 => ?_)
  obtain rfl : x_1 = (0 : Int32) := ex_1
  refine lv_if_le (tgt := 13) hx hb dX3_isThere_6 (by decide) (fun _ => ?_) (fun h9 => absurd (by decide) h9)
  refine lv_iconst (v := 0) hx hb dX3_isThere_13 (by decide) ?_
  exact gz_iret (cf := (fun (u : Unit) => [(h0, .inr (3, [.ref a0, .ref a1, .ref a2])), (a0, .inl (cy 0, 6, .inl (fun _ => 0)))])) (post := (fun (r : Int32) (u : Unit) => r = 0)) hx hb hr hlocks hK hP hD hS () [0, 1] (by decide) rfl (by decide) rfl (Nat.le_of_ble_eq_true rfl) (Nat.le_of_ble_eq_true rfl) dX3_isThere_14

set_option maxHeartbeats 4000000 in
set_option maxRecDepth 100000 in
/-- WellCourt$Land.size -/
theorem c_X3_size (l : Launch) (G : va_G) (cy : Nat → ClassId) (sz : Nat) (h0 : Nat) (a0 : Nat) (a1 : Nat) (a2 : Nat)   : gMi l yX3_size cX3_size 3 (some .int) ({ frames := 1, cells := 0, slots := 0, locals := 21 }) G cy sz [.ref h0] [(h0, .inr (3, [.ref a0, .ref a1, .ref a2])), (a0, .inl (cy 0, 6, .inl (fun _ => 0)))] (fun (r : Int32) (u : Unit) => r = 0) (fun (u : Unit) => [(h0, .inr (3, [.ref a0, .ref a1, .ref a2])), (a0, .inl (cy 0, 6, .inl (fun _ => 0)))]) := by
  refine gz_start (fun A => gQi G cy _ _ A) (by decide) (Nat.le_of_ble_eq_true rfl) ?_
  intro p e s m below meth c A ls H hx hb hr hml hlocks hin hown hts hK hov hsz hP hD hS hA hl
  have hl : lv_has ls 3 [(0, .ref h0)] := hl
  refine lv_iconst (v := 0) hx hb dX3_size_0 (by decide) ?_
  refine lv_istore_n (lv' := [(1, .int 0), (0, .ref h0)]) hx hb dX3_size_1 rfl hl (by decide) rfl (fun ls hl => ?_)
  refine lv_iconst (v := 0) hx hb dX3_size_2 (by decide) ?_
  refine lv_istore_n (lv' := [(2, .int 0), (1, .int 0), (0, .ref h0)]) hx hb dX3_size_3 rfl hl (by decide) rfl (fun ls hl => ?_)
  refine lv_iload_n hx hb dX3_size_4 rfl (lv_at hl 0 rfl) ?_
  refine lv_bipush (v := 6) hx hb dX3_size_5 (by decide) ?_
  refine lv_icmp_ge (tgt := 32) hx hb dX3_size_7 (by decide) (fun h9 => absurd h9 (by decide)) (fun _ => ?_)
  refine lv_iload_n hx hb dX3_size_10 rfl (lv_at hl 1 rfl) ?_
  refine lv_aload_n hx hb dX3_size_11 rfl (lv_at hl 2 rfl) ?_
  refine lv_iload_n hx hb dX3_size_12 rfl (lv_at hl 0 rfl) ?_
  refine gz_afti (va_runV (As := [.int 0]) (rest := [.int 0]) ⟨hx, hb, hml, hown, hts⟩ (c_X3_isThere l G cy H.size h0 a0 a1 a2 0 0 (by decide) (by first | decide | omega) (by first | decide | omega)) ⟨(gz_cb (n := 1) hts gm_733 gm_4 gm_350 ⟨by decide +kernel, by decide +kernel, by decide +kernel⟩ ⟨Nat.le_of_ble_eq_true rfl, Nat.le_of_ble_eq_true rfl⟩), hts _ gm_348, hts _ gm_349⟩ (gz_preV (ci := 3) (q0 := 0) hK hov hP hD [0, 1] (by decide) rfl rfl rfl) rfl rfl hl.1 rfl (lv_room (Nat.le_of_ble_eq_true rfl)) dX3_size_13 ⟨Nat.le_of_ble_eq_true rfl, Nat.le_of_ble_eq_true rfl⟩) hP hD hS hA [0, 1] [] rfl rfl (by decide) (by decide) (fun r_1 u_1 H locs hw_1 hP hD hS => ?_)
  have hP : va_P G vwCl [(h0, .inr (3, [.ref a0, .ref a1, .ref a2])), (a0, .inl (cy 0, 6, .inl (fun _ => 0)))] H := hP
  have hD : va_D A [(h0, .inr (3, [.ref a0, .ref a1, .ref a2])), (a0, .inl (cy 0, 6, .inl (fun _ => 0)))] := hD
  obtain rfl := hw_1
  refine lv_if_eq (tgt := 23) hx hb dX3_size_16 (by decide) (fun _ => ?_) (fun h9 => absurd (by decide) h9)
  refine lv_iconst (v := 0) hx hb dX3_size_23 (by decide) ?_
  refine lv_iadd hx hb dX3_size_24 ?_
  refine lv_topi (fun x_2 ex_2 => ?_)
  obtain rfl : x_2 = (0 : Int32) := ex_2.trans (by decide)
  refine lv_istore_n (lv' := [(1, .int 0), (2, .int 0), (0, .ref h0)]) hx hb dX3_size_25 rfl hl (by decide) rfl (fun ls hl => ?_)
  refine lv_iinc (v := (1)) (lv' := [(2, .int 1), (1, .int 0), (0, .ref h0)]) hx hb dX3_size_26 hl (k := 1) rfl (by decide) (by decide) rfl (fun ls hl => ?_)
  refine lv_goto (tgt := 4) hx hb dX3_size_29 (by decide) ?_
  refine lv_iload_n hx hb dX3_size_4 rfl (lv_at hl 0 rfl) ?_
  refine lv_bipush (v := 6) hx hb dX3_size_5 (by decide) ?_
  refine lv_icmp_ge (tgt := 32) hx hb dX3_size_7 (by decide) (fun h9 => absurd h9 (by decide)) (fun _ => ?_)
  refine lv_iload_n hx hb dX3_size_10 rfl (lv_at hl 1 rfl) ?_
  refine lv_aload_n hx hb dX3_size_11 rfl (lv_at hl 2 rfl) ?_
  refine lv_iload_n hx hb dX3_size_12 rfl (lv_at hl 0 rfl) ?_
  refine gz_afti (va_runV (As := [.int 1]) (rest := [.int 0]) ⟨hx, hb, hml, hown, hts⟩ (c_X3_isThere l G cy H.size h0 a0 a1 a2 1 1 (by decide) (by first | decide | omega) (by first | decide | omega)) ⟨(gz_cb (n := 1) hts gm_733 gm_4 gm_350 ⟨by decide +kernel, by decide +kernel, by decide +kernel⟩ ⟨Nat.le_of_ble_eq_true rfl, Nat.le_of_ble_eq_true rfl⟩), hts _ gm_348, hts _ gm_349⟩ (gz_preV (ci := 3) (q0 := 0) hK hov hP hD [0, 1] (by decide) rfl rfl rfl) rfl rfl hl.1 rfl (lv_room (Nat.le_of_ble_eq_true rfl)) dX3_size_13 ⟨Nat.le_of_ble_eq_true rfl, Nat.le_of_ble_eq_true rfl⟩) hP hD hS hA [0, 1] [] rfl rfl (by decide) (by decide) (fun r_3 u_3 H locs hw_3 hP hD hS => ?_)
  have hP : va_P G vwCl [(h0, .inr (3, [.ref a0, .ref a1, .ref a2])), (a0, .inl (cy 0, 6, .inl (fun _ => 0)))] H := hP
  have hD : va_D A [(h0, .inr (3, [.ref a0, .ref a1, .ref a2])), (a0, .inl (cy 0, 6, .inl (fun _ => 0)))] := hD
  obtain rfl := hw_3
  refine lv_if_eq (tgt := 23) hx hb dX3_size_16 (by decide) (fun _ => ?_) (fun h9 => absurd (by decide) h9)
  refine lv_iconst (v := 0) hx hb dX3_size_23 (by decide) ?_
  refine lv_iadd hx hb dX3_size_24 ?_
  refine lv_topi (fun x_4 ex_4 => ?_)
  obtain rfl : x_4 = (0 : Int32) := ex_4.trans (by decide)
  refine lv_istore_n (lv' := [(1, .int 0), (2, .int 1), (0, .ref h0)]) hx hb dX3_size_25 rfl hl (by decide) rfl (fun ls hl => ?_)
  refine lv_iinc (v := (2)) (lv' := [(2, .int 2), (1, .int 0), (0, .ref h0)]) hx hb dX3_size_26 hl (k := 1) rfl (by decide) (by decide) rfl (fun ls hl => ?_)
  refine lv_goto (tgt := 4) hx hb dX3_size_29 (by decide) ?_
  refine lv_iload_n hx hb dX3_size_4 rfl (lv_at hl 0 rfl) ?_
  refine lv_bipush (v := 6) hx hb dX3_size_5 (by decide) ?_
  refine lv_icmp_ge (tgt := 32) hx hb dX3_size_7 (by decide) (fun h9 => absurd h9 (by decide)) (fun _ => ?_)
  refine lv_iload_n hx hb dX3_size_10 rfl (lv_at hl 1 rfl) ?_
  refine lv_aload_n hx hb dX3_size_11 rfl (lv_at hl 2 rfl) ?_
  refine lv_iload_n hx hb dX3_size_12 rfl (lv_at hl 0 rfl) ?_
  refine gz_afti (va_runV (As := [.int 2]) (rest := [.int 0]) ⟨hx, hb, hml, hown, hts⟩ (c_X3_isThere l G cy H.size h0 a0 a1 a2 2 2 (by decide) (by first | decide | omega) (by first | decide | omega)) ⟨(gz_cb (n := 1) hts gm_733 gm_4 gm_350 ⟨by decide +kernel, by decide +kernel, by decide +kernel⟩ ⟨Nat.le_of_ble_eq_true rfl, Nat.le_of_ble_eq_true rfl⟩), hts _ gm_348, hts _ gm_349⟩ (gz_preV (ci := 3) (q0 := 0) hK hov hP hD [0, 1] (by decide) rfl rfl rfl) rfl rfl hl.1 rfl (lv_room (Nat.le_of_ble_eq_true rfl)) dX3_size_13 ⟨Nat.le_of_ble_eq_true rfl, Nat.le_of_ble_eq_true rfl⟩) hP hD hS hA [0, 1] [] rfl rfl (by decide) (by decide) (fun r_5 u_5 H locs hw_5 hP hD hS => ?_)
  have hP : va_P G vwCl [(h0, .inr (3, [.ref a0, .ref a1, .ref a2])), (a0, .inl (cy 0, 6, .inl (fun _ => 0)))] H := hP
  have hD : va_D A [(h0, .inr (3, [.ref a0, .ref a1, .ref a2])), (a0, .inl (cy 0, 6, .inl (fun _ => 0)))] := hD
  obtain rfl := hw_5
  refine lv_if_eq (tgt := 23) hx hb dX3_size_16 (by decide) (fun _ => ?_) (fun h9 => absurd (by decide) h9)
  refine lv_iconst (v := 0) hx hb dX3_size_23 (by decide) ?_
  refine lv_iadd hx hb dX3_size_24 ?_
  refine lv_topi (fun x_6 ex_6 => ?_)
  obtain rfl : x_6 = (0 : Int32) := ex_6.trans (by decide)
  refine lv_istore_n (lv' := [(1, .int 0), (2, .int 2), (0, .ref h0)]) hx hb dX3_size_25 rfl hl (by decide) rfl (fun ls hl => ?_)
  refine lv_iinc (v := (3)) (lv' := [(2, .int 3), (1, .int 0), (0, .ref h0)]) hx hb dX3_size_26 hl (k := 1) rfl (by decide) (by decide) rfl (fun ls hl => ?_)
  refine lv_goto (tgt := 4) hx hb dX3_size_29 (by decide) ?_
  refine lv_iload_n hx hb dX3_size_4 rfl (lv_at hl 0 rfl) ?_
  refine lv_bipush (v := 6) hx hb dX3_size_5 (by decide) ?_
  refine lv_icmp_ge (tgt := 32) hx hb dX3_size_7 (by decide) (fun h9 => absurd h9 (by decide)) (fun _ => ?_)
  refine lv_iload_n hx hb dX3_size_10 rfl (lv_at hl 1 rfl) ?_
  refine lv_aload_n hx hb dX3_size_11 rfl (lv_at hl 2 rfl) ?_
  refine lv_iload_n hx hb dX3_size_12 rfl (lv_at hl 0 rfl) ?_
  refine gz_afti (va_runV (As := [.int 3]) (rest := [.int 0]) ⟨hx, hb, hml, hown, hts⟩ (c_X3_isThere l G cy H.size h0 a0 a1 a2 3 3 (by decide) (by first | decide | omega) (by first | decide | omega)) ⟨(gz_cb (n := 1) hts gm_733 gm_4 gm_350 ⟨by decide +kernel, by decide +kernel, by decide +kernel⟩ ⟨Nat.le_of_ble_eq_true rfl, Nat.le_of_ble_eq_true rfl⟩), hts _ gm_348, hts _ gm_349⟩ (gz_preV (ci := 3) (q0 := 0) hK hov hP hD [0, 1] (by decide) rfl rfl rfl) rfl rfl hl.1 rfl (lv_room (Nat.le_of_ble_eq_true rfl)) dX3_size_13 ⟨Nat.le_of_ble_eq_true rfl, Nat.le_of_ble_eq_true rfl⟩) hP hD hS hA [0, 1] [] rfl rfl (by decide) (by decide) (fun r_7 u_7 H locs hw_7 hP hD hS => ?_)
  have hP : va_P G vwCl [(h0, .inr (3, [.ref a0, .ref a1, .ref a2])), (a0, .inl (cy 0, 6, .inl (fun _ => 0)))] H := hP
  have hD : va_D A [(h0, .inr (3, [.ref a0, .ref a1, .ref a2])), (a0, .inl (cy 0, 6, .inl (fun _ => 0)))] := hD
  obtain rfl := hw_7
  refine lv_if_eq (tgt := 23) hx hb dX3_size_16 (by decide) (fun _ => ?_) (fun h9 => absurd (by decide) h9)
  refine lv_iconst (v := 0) hx hb dX3_size_23 (by decide) ?_
  refine lv_iadd hx hb dX3_size_24 ?_
  refine lv_topi (fun x_8 ex_8 => ?_)
  obtain rfl : x_8 = (0 : Int32) := ex_8.trans (by decide)
  refine lv_istore_n (lv' := [(1, .int 0), (2, .int 3), (0, .ref h0)]) hx hb dX3_size_25 rfl hl (by decide) rfl (fun ls hl => ?_)
  refine lv_iinc (v := (4)) (lv' := [(2, .int 4), (1, .int 0), (0, .ref h0)]) hx hb dX3_size_26 hl (k := 1) rfl (by decide) (by decide) rfl (fun ls hl => ?_)
  refine lv_goto (tgt := 4) hx hb dX3_size_29 (by decide) ?_
  refine lv_iload_n hx hb dX3_size_4 rfl (lv_at hl 0 rfl) ?_
  refine lv_bipush (v := 6) hx hb dX3_size_5 (by decide) ?_
  refine lv_icmp_ge (tgt := 32) hx hb dX3_size_7 (by decide) (fun h9 => absurd h9 (by decide)) (fun _ => ?_)
  refine lv_iload_n hx hb dX3_size_10 rfl (lv_at hl 1 rfl) ?_
  refine lv_aload_n hx hb dX3_size_11 rfl (lv_at hl 2 rfl) ?_
  refine lv_iload_n hx hb dX3_size_12 rfl (lv_at hl 0 rfl) ?_
  refine gz_afti (va_runV (As := [.int 4]) (rest := [.int 0]) ⟨hx, hb, hml, hown, hts⟩ (c_X3_isThere l G cy H.size h0 a0 a1 a2 4 4 (by decide) (by first | decide | omega) (by first | decide | omega)) ⟨(gz_cb (n := 1) hts gm_733 gm_4 gm_350 ⟨by decide +kernel, by decide +kernel, by decide +kernel⟩ ⟨Nat.le_of_ble_eq_true rfl, Nat.le_of_ble_eq_true rfl⟩), hts _ gm_348, hts _ gm_349⟩ (gz_preV (ci := 3) (q0 := 0) hK hov hP hD [0, 1] (by decide) rfl rfl rfl) rfl rfl hl.1 rfl (lv_room (Nat.le_of_ble_eq_true rfl)) dX3_size_13 ⟨Nat.le_of_ble_eq_true rfl, Nat.le_of_ble_eq_true rfl⟩) hP hD hS hA [0, 1] [] rfl rfl (by decide) (by decide) (fun r_9 u_9 H locs hw_9 hP hD hS => ?_)
  have hP : va_P G vwCl [(h0, .inr (3, [.ref a0, .ref a1, .ref a2])), (a0, .inl (cy 0, 6, .inl (fun _ => 0)))] H := hP
  have hD : va_D A [(h0, .inr (3, [.ref a0, .ref a1, .ref a2])), (a0, .inl (cy 0, 6, .inl (fun _ => 0)))] := hD
  obtain rfl := hw_9
  refine lv_if_eq (tgt := 23) hx hb dX3_size_16 (by decide) (fun _ => ?_) (fun h9 => absurd (by decide) h9)
  refine lv_iconst (v := 0) hx hb dX3_size_23 (by decide) ?_
  refine lv_iadd hx hb dX3_size_24 ?_
  refine lv_topi (fun x_10 ex_10 => ?_)
  obtain rfl : x_10 = (0 : Int32) := ex_10.trans (by decide)
  refine lv_istore_n (lv' := [(1, .int 0), (2, .int 4), (0, .ref h0)]) hx hb dX3_size_25 rfl hl (by decide) rfl (fun ls hl => ?_)
  refine lv_iinc (v := (5)) (lv' := [(2, .int 5), (1, .int 0), (0, .ref h0)]) hx hb dX3_size_26 hl (k := 1) rfl (by decide) (by decide) rfl (fun ls hl => ?_)
  refine lv_goto (tgt := 4) hx hb dX3_size_29 (by decide) ?_
  refine lv_iload_n hx hb dX3_size_4 rfl (lv_at hl 0 rfl) ?_
  refine lv_bipush (v := 6) hx hb dX3_size_5 (by decide) ?_
  refine lv_icmp_ge (tgt := 32) hx hb dX3_size_7 (by decide) (fun h9 => absurd h9 (by decide)) (fun _ => ?_)
  refine lv_iload_n hx hb dX3_size_10 rfl (lv_at hl 1 rfl) ?_
  refine lv_aload_n hx hb dX3_size_11 rfl (lv_at hl 2 rfl) ?_
  refine lv_iload_n hx hb dX3_size_12 rfl (lv_at hl 0 rfl) ?_
  refine gz_afti (va_runV (As := [.int 5]) (rest := [.int 0]) ⟨hx, hb, hml, hown, hts⟩ (c_X3_isThere l G cy H.size h0 a0 a1 a2 5 5 (by decide) (by first | decide | omega) (by first | decide | omega)) ⟨(gz_cb (n := 1) hts gm_733 gm_4 gm_350 ⟨by decide +kernel, by decide +kernel, by decide +kernel⟩ ⟨Nat.le_of_ble_eq_true rfl, Nat.le_of_ble_eq_true rfl⟩), hts _ gm_348, hts _ gm_349⟩ (gz_preV (ci := 3) (q0 := 0) hK hov hP hD [0, 1] (by decide) rfl rfl rfl) rfl rfl hl.1 rfl (lv_room (Nat.le_of_ble_eq_true rfl)) dX3_size_13 ⟨Nat.le_of_ble_eq_true rfl, Nat.le_of_ble_eq_true rfl⟩) hP hD hS hA [0, 1] [] rfl rfl (by decide) (by decide) (fun r_11 u_11 H locs hw_11 hP hD hS => ?_)
  have hP : va_P G vwCl [(h0, .inr (3, [.ref a0, .ref a1, .ref a2])), (a0, .inl (cy 0, 6, .inl (fun _ => 0)))] H := hP
  have hD : va_D A [(h0, .inr (3, [.ref a0, .ref a1, .ref a2])), (a0, .inl (cy 0, 6, .inl (fun _ => 0)))] := hD
  obtain rfl := hw_11
  refine lv_if_eq (tgt := 23) hx hb dX3_size_16 (by decide) (fun _ => ?_) (fun h9 => absurd (by decide) h9)
  refine lv_iconst (v := 0) hx hb dX3_size_23 (by decide) ?_
  refine lv_iadd hx hb dX3_size_24 ?_
  refine lv_topi (fun x_12 ex_12 => ?_)
  obtain rfl : x_12 = (0 : Int32) := ex_12.trans (by decide)
  refine lv_istore_n (lv' := [(1, .int 0), (2, .int 5), (0, .ref h0)]) hx hb dX3_size_25 rfl hl (by decide) rfl (fun ls hl => ?_)
  refine lv_iinc (v := (6)) (lv' := [(2, .int 6), (1, .int 0), (0, .ref h0)]) hx hb dX3_size_26 hl (k := 1) rfl (by decide) (by decide) rfl (fun ls hl => ?_)
  refine lv_goto (tgt := 4) hx hb dX3_size_29 (by decide) ?_
  refine lv_iload_n hx hb dX3_size_4 rfl (lv_at hl 0 rfl) ?_
  refine lv_bipush (v := 6) hx hb dX3_size_5 (by decide) ?_
  refine lv_icmp_ge (tgt := 32) hx hb dX3_size_7 (by decide) (fun _ => ?_) (fun h9 => absurd (by decide) h9)
  refine lv_iload_n hx hb dX3_size_32 rfl (lv_at hl 1 rfl) ?_
  exact gz_iret (cf := (fun (u : Unit) => [(h0, .inr (3, [.ref a0, .ref a1, .ref a2])), (a0, .inl (cy 0, 6, .inl (fun _ => 0)))])) (post := (fun (r : Int32) (u : Unit) => r = 0)) hx hb hr hlocks hK hP hD hS () [0, 1] rfl rfl (by decide) rfl (Nat.le_of_ble_eq_true rfl) (Nat.le_of_ble_eq_true rfl) dX3_size_33

set_option maxHeartbeats 4000000 in
set_option maxRecDepth 100000 in
/-- WellCourt$Flock.isThere -/
theorem c_X2_isThere (l : Launch) (G : va_G) (cy : Nat → ClassId) (sz : Nat) (h0 : Nat) (a0 : Nat) (a1 : Nat) (a2 : Nat) (a3 : Nat) (a4 : Nat) (x : Int32) (Xx : Int) (kx : x.toInt = Xx) (hx0 : 0 ≤ Xx) (hx1 : Xx < 4) : gMi l yX2_isThere cX2_isThere 2 (some .boolean) ({ frames := 0, cells := 0, slots := 0, locals := 0 }) G cy sz [.ref h0, .int x] [(h0, .inr (2, [.ref a0, .ref a1, .ref a2, .ref a3, .ref a4])), (a0, .inl (cy 0, 4, .inl (fun _ => (-1))))] (fun (r : Int32) (u : Unit) => r = 0) (fun (u : Unit) => [(h0, .inr (2, [.ref a0, .ref a1, .ref a2, .ref a3, .ref a4])), (a0, .inl (cy 0, 4, .inl (fun _ => (-1))))]) := by
  refine gz_start (fun A => gQi G cy _ _ A) (by decide) (Nat.le_of_ble_eq_true rfl) ?_
  intro p e s m below meth c A ls H hx hb hr hml hlocks hin hown hts hK hov hsz hP hD hS hA hl
  have hl : lv_has ls 2 [(0, .ref h0), (1, .int x)] := hl
  refine lv_aload_n hx hb dX2_isThere_0 rfl (lv_at hl 0 rfl) ?_
  refine va_get (ci := 2) (v := .ref a0) (C := RX2) (T := TX2) (N := 5) hx hb hts inX2 hown hK hP 0 rfl rfl 0 (by decide) (hts _ gm_157) (fun _ h9 => h9) rfl dX2_isThere_1 ?_
  refine lv_iload_n hx hb dX2_isThere_4 rfl (lv_at hl 1 rfl) ?_
  refine va_iald hx hb hK hP 1 0 rfl rfl (vp_in_iff.mpr ⟨by omega, by omega⟩) dX2_isThere_5 ?_
  refine lv_topi (fun x_1 ex_1 => ?_)
  obtain rfl : x_1 = (-1 : Int32) := ex_1
  refine lv_iconst (v := (-1)) hx hb dX2_isThere_6 (by decide) ?_
  refine lv_icmp_eq (tgt := 14) hx hb dX2_isThere_7 (by decide) (fun _ => ?_) (fun h9 => absurd (by decide) h9)
  refine lv_iconst (v := 0) hx hb dX2_isThere_14 (by decide) ?_
  exact gz_iret (cf := (fun (u : Unit) => [(h0, .inr (2, [.ref a0, .ref a1, .ref a2, .ref a3, .ref a4])), (a0, .inl (cy 0, 4, .inl (fun _ => (-1))))])) (post := (fun (r : Int32) (u : Unit) => r = 0)) hx hb hr hlocks hK hP hD hS () [0, 1] (by decide) rfl (by decide) rfl (Nat.le_of_ble_eq_true rfl) (Nat.le_of_ble_eq_true rfl) dX2_isThere_15

set_option maxHeartbeats 4000000 in
set_option maxRecDepth 100000 in
/-- WellCourt$Flock.size -/
theorem c_X2_size (l : Launch) (G : va_G) (cy : Nat → ClassId) (sz : Nat) (h0 : Nat) (a0 : Nat) (a1 : Nat) (a2 : Nat) (a3 : Nat) (a4 : Nat)   : gMi l yX2_size cX2_size 3 (some .int) ({ frames := 1, cells := 0, slots := 0, locals := 21 }) G cy sz [.ref h0] [(h0, .inr (2, [.ref a0, .ref a1, .ref a2, .ref a3, .ref a4])), (a0, .inl (cy 0, 4, .inl (fun _ => (-1))))] (fun (r : Int32) (u : Unit) => r = 0) (fun (u : Unit) => [(h0, .inr (2, [.ref a0, .ref a1, .ref a2, .ref a3, .ref a4])), (a0, .inl (cy 0, 4, .inl (fun _ => (-1))))]) := by
  refine gz_start (fun A => gQi G cy _ _ A) (by decide) (Nat.le_of_ble_eq_true rfl) ?_
  intro p e s m below meth c A ls H hx hb hr hml hlocks hin hown hts hK hov hsz hP hD hS hA hl
  have hl : lv_has ls 3 [(0, .ref h0)] := hl
  refine lv_iconst (v := 0) hx hb dX2_size_0 (by decide) ?_
  refine lv_istore_n (lv' := [(1, .int 0), (0, .ref h0)]) hx hb dX2_size_1 rfl hl (by decide) rfl (fun ls hl => ?_)
  refine lv_iconst (v := 0) hx hb dX2_size_2 (by decide) ?_
  refine lv_istore_n (lv' := [(2, .int 0), (1, .int 0), (0, .ref h0)]) hx hb dX2_size_3 rfl hl (by decide) rfl (fun ls hl => ?_)
  refine lv_iload_n hx hb dX2_size_4 rfl (lv_at hl 0 rfl) ?_
  refine lv_iconst (v := 4) hx hb dX2_size_5 (by decide) ?_
  refine lv_icmp_ge (tgt := 31) hx hb dX2_size_6 (by decide) (fun h9 => absurd h9 (by decide)) (fun _ => ?_)
  refine lv_iload_n hx hb dX2_size_9 rfl (lv_at hl 1 rfl) ?_
  refine lv_aload_n hx hb dX2_size_10 rfl (lv_at hl 2 rfl) ?_
  refine lv_iload_n hx hb dX2_size_11 rfl (lv_at hl 0 rfl) ?_
  refine gz_afti (va_runV (As := [.int 0]) (rest := [.int 0]) ⟨hx, hb, hml, hown, hts⟩ (c_X2_isThere l G cy H.size h0 a0 a1 a2 a3 a4 0 0 (by decide) (by first | decide | omega) (by first | decide | omega)) ⟨(gz_cb (n := 1) hts gm_738 gm_9 gm_707 ⟨by decide +kernel, by decide +kernel, by decide +kernel⟩ ⟨Nat.le_of_ble_eq_true rfl, Nat.le_of_ble_eq_true rfl⟩), hts _ gm_705, hts _ gm_706⟩ (gz_preV (ci := 2) (q0 := 0) hK hov hP hD [0, 1] (by decide) rfl rfl rfl) rfl rfl hl.1 rfl (lv_room (Nat.le_of_ble_eq_true rfl)) dX2_size_12 ⟨Nat.le_of_ble_eq_true rfl, Nat.le_of_ble_eq_true rfl⟩) hP hD hS hA [0, 1] [] rfl rfl (by decide) (by decide) (fun r_1 u_1 H locs hw_1 hP hD hS => ?_)
  have hP : va_P G vwCl [(h0, .inr (2, [.ref a0, .ref a1, .ref a2, .ref a3, .ref a4])), (a0, .inl (cy 0, 4, .inl (fun _ => (-1))))] H := hP
  have hD : va_D A [(h0, .inr (2, [.ref a0, .ref a1, .ref a2, .ref a3, .ref a4])), (a0, .inl (cy 0, 4, .inl (fun _ => (-1))))] := hD
  obtain rfl := hw_1
  refine lv_if_eq (tgt := 22) hx hb dX2_size_15 (by decide) (fun _ => ?_) (fun h9 => absurd (by decide) h9)
  refine lv_iconst (v := 0) hx hb dX2_size_22 (by decide) ?_
  refine lv_iadd hx hb dX2_size_23 ?_
  refine lv_topi (fun x_2 ex_2 => ?_)
  obtain rfl : x_2 = (0 : Int32) := ex_2.trans (by decide)
  refine lv_istore_n (lv' := [(1, .int 0), (2, .int 0), (0, .ref h0)]) hx hb dX2_size_24 rfl hl (by decide) rfl (fun ls hl => ?_)
  refine lv_iinc (v := (1)) (lv' := [(2, .int 1), (1, .int 0), (0, .ref h0)]) hx hb dX2_size_25 hl (k := 1) rfl (by decide) (by decide) rfl (fun ls hl => ?_)
  refine lv_goto (tgt := 4) hx hb dX2_size_28 (by decide) ?_
  refine lv_iload_n hx hb dX2_size_4 rfl (lv_at hl 0 rfl) ?_
  refine lv_iconst (v := 4) hx hb dX2_size_5 (by decide) ?_
  refine lv_icmp_ge (tgt := 31) hx hb dX2_size_6 (by decide) (fun h9 => absurd h9 (by decide)) (fun _ => ?_)
  refine lv_iload_n hx hb dX2_size_9 rfl (lv_at hl 1 rfl) ?_
  refine lv_aload_n hx hb dX2_size_10 rfl (lv_at hl 2 rfl) ?_
  refine lv_iload_n hx hb dX2_size_11 rfl (lv_at hl 0 rfl) ?_
  refine gz_afti (va_runV (As := [.int 1]) (rest := [.int 0]) ⟨hx, hb, hml, hown, hts⟩ (c_X2_isThere l G cy H.size h0 a0 a1 a2 a3 a4 1 1 (by decide) (by first | decide | omega) (by first | decide | omega)) ⟨(gz_cb (n := 1) hts gm_738 gm_9 gm_707 ⟨by decide +kernel, by decide +kernel, by decide +kernel⟩ ⟨Nat.le_of_ble_eq_true rfl, Nat.le_of_ble_eq_true rfl⟩), hts _ gm_705, hts _ gm_706⟩ (gz_preV (ci := 2) (q0 := 0) hK hov hP hD [0, 1] (by decide) rfl rfl rfl) rfl rfl hl.1 rfl (lv_room (Nat.le_of_ble_eq_true rfl)) dX2_size_12 ⟨Nat.le_of_ble_eq_true rfl, Nat.le_of_ble_eq_true rfl⟩) hP hD hS hA [0, 1] [] rfl rfl (by decide) (by decide) (fun r_3 u_3 H locs hw_3 hP hD hS => ?_)
  have hP : va_P G vwCl [(h0, .inr (2, [.ref a0, .ref a1, .ref a2, .ref a3, .ref a4])), (a0, .inl (cy 0, 4, .inl (fun _ => (-1))))] H := hP
  have hD : va_D A [(h0, .inr (2, [.ref a0, .ref a1, .ref a2, .ref a3, .ref a4])), (a0, .inl (cy 0, 4, .inl (fun _ => (-1))))] := hD
  obtain rfl := hw_3
  refine lv_if_eq (tgt := 22) hx hb dX2_size_15 (by decide) (fun _ => ?_) (fun h9 => absurd (by decide) h9)
  refine lv_iconst (v := 0) hx hb dX2_size_22 (by decide) ?_
  refine lv_iadd hx hb dX2_size_23 ?_
  refine lv_topi (fun x_4 ex_4 => ?_)
  obtain rfl : x_4 = (0 : Int32) := ex_4.trans (by decide)
  refine lv_istore_n (lv' := [(1, .int 0), (2, .int 1), (0, .ref h0)]) hx hb dX2_size_24 rfl hl (by decide) rfl (fun ls hl => ?_)
  refine lv_iinc (v := (2)) (lv' := [(2, .int 2), (1, .int 0), (0, .ref h0)]) hx hb dX2_size_25 hl (k := 1) rfl (by decide) (by decide) rfl (fun ls hl => ?_)
  refine lv_goto (tgt := 4) hx hb dX2_size_28 (by decide) ?_
  refine lv_iload_n hx hb dX2_size_4 rfl (lv_at hl 0 rfl) ?_
  refine lv_iconst (v := 4) hx hb dX2_size_5 (by decide) ?_
  refine lv_icmp_ge (tgt := 31) hx hb dX2_size_6 (by decide) (fun h9 => absurd h9 (by decide)) (fun _ => ?_)
  refine lv_iload_n hx hb dX2_size_9 rfl (lv_at hl 1 rfl) ?_
  refine lv_aload_n hx hb dX2_size_10 rfl (lv_at hl 2 rfl) ?_
  refine lv_iload_n hx hb dX2_size_11 rfl (lv_at hl 0 rfl) ?_
  refine gz_afti (va_runV (As := [.int 2]) (rest := [.int 0]) ⟨hx, hb, hml, hown, hts⟩ (c_X2_isThere l G cy H.size h0 a0 a1 a2 a3 a4 2 2 (by decide) (by first | decide | omega) (by first | decide | omega)) ⟨(gz_cb (n := 1) hts gm_738 gm_9 gm_707 ⟨by decide +kernel, by decide +kernel, by decide +kernel⟩ ⟨Nat.le_of_ble_eq_true rfl, Nat.le_of_ble_eq_true rfl⟩), hts _ gm_705, hts _ gm_706⟩ (gz_preV (ci := 2) (q0 := 0) hK hov hP hD [0, 1] (by decide) rfl rfl rfl) rfl rfl hl.1 rfl (lv_room (Nat.le_of_ble_eq_true rfl)) dX2_size_12 ⟨Nat.le_of_ble_eq_true rfl, Nat.le_of_ble_eq_true rfl⟩) hP hD hS hA [0, 1] [] rfl rfl (by decide) (by decide) (fun r_5 u_5 H locs hw_5 hP hD hS => ?_)
  have hP : va_P G vwCl [(h0, .inr (2, [.ref a0, .ref a1, .ref a2, .ref a3, .ref a4])), (a0, .inl (cy 0, 4, .inl (fun _ => (-1))))] H := hP
  have hD : va_D A [(h0, .inr (2, [.ref a0, .ref a1, .ref a2, .ref a3, .ref a4])), (a0, .inl (cy 0, 4, .inl (fun _ => (-1))))] := hD
  obtain rfl := hw_5
  refine lv_if_eq (tgt := 22) hx hb dX2_size_15 (by decide) (fun _ => ?_) (fun h9 => absurd (by decide) h9)
  refine lv_iconst (v := 0) hx hb dX2_size_22 (by decide) ?_
  refine lv_iadd hx hb dX2_size_23 ?_
  refine lv_topi (fun x_6 ex_6 => ?_)
  obtain rfl : x_6 = (0 : Int32) := ex_6.trans (by decide)
  refine lv_istore_n (lv' := [(1, .int 0), (2, .int 2), (0, .ref h0)]) hx hb dX2_size_24 rfl hl (by decide) rfl (fun ls hl => ?_)
  refine lv_iinc (v := (3)) (lv' := [(2, .int 3), (1, .int 0), (0, .ref h0)]) hx hb dX2_size_25 hl (k := 1) rfl (by decide) (by decide) rfl (fun ls hl => ?_)
  refine lv_goto (tgt := 4) hx hb dX2_size_28 (by decide) ?_
  refine lv_iload_n hx hb dX2_size_4 rfl (lv_at hl 0 rfl) ?_
  refine lv_iconst (v := 4) hx hb dX2_size_5 (by decide) ?_
  refine lv_icmp_ge (tgt := 31) hx hb dX2_size_6 (by decide) (fun h9 => absurd h9 (by decide)) (fun _ => ?_)
  refine lv_iload_n hx hb dX2_size_9 rfl (lv_at hl 1 rfl) ?_
  refine lv_aload_n hx hb dX2_size_10 rfl (lv_at hl 2 rfl) ?_
  refine lv_iload_n hx hb dX2_size_11 rfl (lv_at hl 0 rfl) ?_
  refine gz_afti (va_runV (As := [.int 3]) (rest := [.int 0]) ⟨hx, hb, hml, hown, hts⟩ (c_X2_isThere l G cy H.size h0 a0 a1 a2 a3 a4 3 3 (by decide) (by first | decide | omega) (by first | decide | omega)) ⟨(gz_cb (n := 1) hts gm_738 gm_9 gm_707 ⟨by decide +kernel, by decide +kernel, by decide +kernel⟩ ⟨Nat.le_of_ble_eq_true rfl, Nat.le_of_ble_eq_true rfl⟩), hts _ gm_705, hts _ gm_706⟩ (gz_preV (ci := 2) (q0 := 0) hK hov hP hD [0, 1] (by decide) rfl rfl rfl) rfl rfl hl.1 rfl (lv_room (Nat.le_of_ble_eq_true rfl)) dX2_size_12 ⟨Nat.le_of_ble_eq_true rfl, Nat.le_of_ble_eq_true rfl⟩) hP hD hS hA [0, 1] [] rfl rfl (by decide) (by decide) (fun r_7 u_7 H locs hw_7 hP hD hS => ?_)
  have hP : va_P G vwCl [(h0, .inr (2, [.ref a0, .ref a1, .ref a2, .ref a3, .ref a4])), (a0, .inl (cy 0, 4, .inl (fun _ => (-1))))] H := hP
  have hD : va_D A [(h0, .inr (2, [.ref a0, .ref a1, .ref a2, .ref a3, .ref a4])), (a0, .inl (cy 0, 4, .inl (fun _ => (-1))))] := hD
  obtain rfl := hw_7
  refine lv_if_eq (tgt := 22) hx hb dX2_size_15 (by decide) (fun _ => ?_) (fun h9 => absurd (by decide) h9)
  refine lv_iconst (v := 0) hx hb dX2_size_22 (by decide) ?_
  refine lv_iadd hx hb dX2_size_23 ?_
  refine lv_topi (fun x_8 ex_8 => ?_)
  obtain rfl : x_8 = (0 : Int32) := ex_8.trans (by decide)
  refine lv_istore_n (lv' := [(1, .int 0), (2, .int 3), (0, .ref h0)]) hx hb dX2_size_24 rfl hl (by decide) rfl (fun ls hl => ?_)
  refine lv_iinc (v := (4)) (lv' := [(2, .int 4), (1, .int 0), (0, .ref h0)]) hx hb dX2_size_25 hl (k := 1) rfl (by decide) (by decide) rfl (fun ls hl => ?_)
  refine lv_goto (tgt := 4) hx hb dX2_size_28 (by decide) ?_
  refine lv_iload_n hx hb dX2_size_4 rfl (lv_at hl 0 rfl) ?_
  refine lv_iconst (v := 4) hx hb dX2_size_5 (by decide) ?_
  refine lv_icmp_ge (tgt := 31) hx hb dX2_size_6 (by decide) (fun _ => ?_) (fun h9 => absurd (by decide) h9)
  refine lv_iload_n hx hb dX2_size_31 rfl (lv_at hl 1 rfl) ?_
  exact gz_iret (cf := (fun (u : Unit) => [(h0, .inr (2, [.ref a0, .ref a1, .ref a2, .ref a3, .ref a4])), (a0, .inl (cy 0, 4, .inl (fun _ => (-1))))])) (post := (fun (r : Int32) (u : Unit) => r = 0)) hx hb hr hlocks hK hP hD hS () [0, 1] rfl rfl (by decide) rfl (Nat.le_of_ble_eq_true rfl) (Nat.le_of_ble_eq_true rfl) dX2_size_32

set_option maxHeartbeats 4000000 in
set_option maxRecDepth 100000 in
/-- WellCourt.isWellThere -/
theorem c_isWellThere (l : Launch) (G : va_G) (cy : Nat → ClassId) (sz : Nat) (h0 : Nat) (g0 : Nat) (g1 : Nat) (g2 : Nat) (g3 : Nat) (g4 : Nat) (g5 : Nat) (g6 : Nat) (g7 : Nat) (g8 : Nat) (g9 : Nat) (g11 : Nat) (g12 : Nat) (g13 : Nat) (x : Int32) (Xx : Int) (kx : x.toInt = Xx)  : gMi l yX9_isWellThere cX9_isWellThere 2 (some .boolean) ({ frames := 1, cells := 0, slots := 0, locals := 21 }) G cy sz [.ref h0, .int x] [(h0, .inr (9, [.ref g0, .ref g1, .ref g2, .ref g3, .ref g4, .ref g5, .ref g6, .ref g7, .ref g8, .ref g9, .int 0, .int 0])), (g2, .inr (3, [.ref g11, .ref g12, .ref g13])), (g11, .inl (cy 0, 6, .inl (fun _ => 0)))] (fun (r : Int32) (u : Unit) => r = 0) (fun (u : Unit) => [(h0, .inr (9, [.ref g0, .ref g1, .ref g2, .ref g3, .ref g4, .ref g5, .ref g6, .ref g7, .ref g8, .ref g9, .int 0, .int 0])), (g2, .inr (3, [.ref g11, .ref g12, .ref g13])), (g11, .inl (cy 0, 6, .inl (fun _ => 0)))]) := by
  refine gz_start (fun A => gQi G cy _ _ A) (by decide) (Nat.le_of_ble_eq_true rfl) ?_
  intro p e s m below meth c A ls H hx hb hr hml hlocks hin hown hts hK hov hsz hP hD hS hA hl
  have hl : lv_has ls 2 [(0, .ref h0), (1, .int x)] := hl
  refine lv_iload_n hx hb dX9_isWellThere_0 rfl (lv_at hl 1 rfl) ?_
  refine gz_afti (va_runS (As := [.int x]) (rest := []) ⟨hx, hb, hml, hown, hts⟩ (c_isWell l G cy H.size x x.toInt rfl) ⟨(gz_cb (n := 1) hts gm_344 gm_1 gm_346 ⟨by decide +kernel, by decide +kernel, by decide +kernel⟩ ⟨Nat.le_of_ble_eq_true rfl, Nat.le_of_ble_eq_true rfl⟩), hts _ gm_345⟩ (gz_preS hK hov hP hD [] (by decide) rfl) rfl rfl hl.1 rfl (lv_room (Nat.le_of_ble_eq_true rfl)) dX9_isWellThere_1 ⟨Nat.le_of_ble_eq_true rfl, Nat.le_of_ble_eq_true rfl⟩) hP hD hS hA [] [0, 1, 2] rfl rfl (by decide) (by decide) (fun r_1 u_1 H locs hw_1 hP hD hS => ?_)
  have hP : va_P G vwCl [(h0, .inr (9, [.ref g0, .ref g1, .ref g2, .ref g3, .ref g4, .ref g5, .ref g6, .ref g7, .ref g8, .ref g9, .int 0, .int 0])), (g2, .inr (3, [.ref g11, .ref g12, .ref g13])), (g11, .inl (cy 0, 6, .inl (fun _ => 0)))] H := hP
  have hD : va_D A [(h0, .inr (9, [.ref g0, .ref g1, .ref g2, .ref g3, .ref g4, .ref g5, .ref g6, .ref g7, .ref g8, .ref g9, .int 0, .int 0])), (g2, .inr (3, [.ref g11, .ref g12, .ref g13])), (g11, .inl (cy 0, 6, .inl (fun _ => 0)))] := hD
  rcases hw_1 with ⟨rfl, hw_1_0, hw_1_1⟩ | ⟨rfl, hw_1_0⟩
  · skip
    refine lv_if_eq (tgt := 22) hx hb dX9_isWellThere_4 (by decide) (fun h9 => absurd h9 (by decide)) (fun _ => ?_)
    refine lv_aload_n hx hb dX9_isWellThere_7 rfl (lv_at hl 0 rfl) ?_
    refine va_get (ci := 9) (v := .ref g2) (C := RX9) (T := TX9) (N := 12) hx hb hts inX9 hown hK hP 0 rfl rfl 2 (by decide) (hts _ gm_293) (fun _ h9 => h9) rfl dX9_isWellThere_8 ?_
    refine lv_iload_n hx hb dX9_isWellThere_11 rfl (lv_at hl 1 rfl) ?_
    refine gz_afti (va_runV (As := [.int x]) (rest := []) ⟨hx, hb, hml, hown, hts⟩ (c_X3_isThere l G cy H.size g2 g11 g12 g13 x x.toInt rfl (by first | decide | omega) (by first | decide | omega)) ⟨(gz_cb (n := 1) hts gm_347 gm_4 gm_350 ⟨by decide +kernel, by decide +kernel, by decide +kernel⟩ ⟨Nat.le_of_ble_eq_true rfl, Nat.le_of_ble_eq_true rfl⟩), hts _ gm_348, hts _ gm_349⟩ (gz_preV (ci := 3) (q0 := 0) hK hov hP hD [1, 2] (by decide) rfl rfl rfl) rfl rfl hl.1 rfl (lv_room (Nat.le_of_ble_eq_true rfl)) dX9_isWellThere_12 ⟨Nat.le_of_ble_eq_true rfl, Nat.le_of_ble_eq_true rfl⟩) hP hD hS hA [1, 2] [0] rfl rfl (by decide) (by decide) (fun r_2 u_2 H locs hw_2 hP hD hS => ?_)
    have hP : va_P G vwCl [(h0, .inr (9, [.ref g0, .ref g1, .ref g2, .ref g3, .ref g4, .ref g5, .ref g6, .ref g7, .ref g8, .ref g9, .int 0, .int 0])), (g2, .inr (3, [.ref g11, .ref g12, .ref g13])), (g11, .inl (cy 0, 6, .inl (fun _ => 0)))] H := hP
    have hD : va_D A [(h0, .inr (9, [.ref g0, .ref g1, .ref g2, .ref g3, .ref g4, .ref g5, .ref g6, .ref g7, .ref g8, .ref g9, .int 0, .int 0])), (g2, .inr (3, [.ref g11, .ref g12, .ref g13])), (g11, .inl (cy 0, 6, .inl (fun _ => 0)))] := hD
    obtain rfl := hw_2
    refine lv_if_eq (tgt := 22) hx hb dX9_isWellThere_15 (by decide) (fun _ => ?_) (fun h9 => absurd (by decide) h9)
    refine lv_iconst (v := 0) hx hb dX9_isWellThere_22 (by decide) ?_
    exact gz_iret (cf := (fun (u : Unit) => [(h0, .inr (9, [.ref g0, .ref g1, .ref g2, .ref g3, .ref g4, .ref g5, .ref g6, .ref g7, .ref g8, .ref g9, .int 0, .int 0])), (g2, .inr (3, [.ref g11, .ref g12, .ref g13])), (g11, .inl (cy 0, 6, .inl (fun _ => 0)))])) (post := (fun (r : Int32) (u : Unit) => r = 0)) hx hb hr hlocks hK hP hD hS () [0, 1, 2] (by decide) rfl (by decide) rfl (Nat.le_of_ble_eq_true rfl) (Nat.le_of_ble_eq_true rfl) dX9_isWellThere_23
  · skip
    refine lv_if_eq (tgt := 22) hx hb dX9_isWellThere_4 (by decide) (fun _ => ?_) (fun h9 => absurd (by decide) h9)
    refine lv_iconst (v := 0) hx hb dX9_isWellThere_22 (by decide) ?_
    exact gz_iret (cf := (fun (u : Unit) => [(h0, .inr (9, [.ref g0, .ref g1, .ref g2, .ref g3, .ref g4, .ref g5, .ref g6, .ref g7, .ref g8, .ref g9, .int 0, .int 0])), (g2, .inr (3, [.ref g11, .ref g12, .ref g13])), (g11, .inl (cy 0, 6, .inl (fun _ => 0)))])) (post := (fun (r : Int32) (u : Unit) => r = 0)) hx hb hr hlocks hK hP hD hS () [0, 1, 2] (by decide) rfl (by decide) rfl (Nat.le_of_ble_eq_true rfl) (Nat.le_of_ble_eq_true rfl) dX9_isWellThere_23

set_option maxHeartbeats 4000000 in
set_option maxRecDepth 100000 in
/-- WellCourt$Tape.byteAt -/
theorem c_X8_byteAt (l : Launch) (G : va_G) (cy : Nat → ClassId) (sz : Nat) (h0 : Nat) (a0 : Nat) (x : Int32) (Xx : Int) (kx : x.toInt = Xx)  : gMi l yX8_byteAt cX8_byteAt 2 (some .int) ({ frames := 0, cells := 0, slots := 0, locals := 0 }) G cy sz [.ref h0, .int x] [(h0, .inr (8, [.ref a0, .int 0]))] (fun (r : Int32) (u : Unit) => r = (-1)) (fun (u : Unit) => [(h0, .inr (8, [.ref a0, .int 0]))]) := by
  refine gz_start (fun A => gQi G cy _ _ A) (by decide) (Nat.le_of_ble_eq_true rfl) ?_
  intro p e s m below meth c A ls H hx hb hr hml hlocks hin hown hts hK hov hsz hP hD hS hA hl
  have hl : lv_has ls 2 [(0, .ref h0), (1, .int x)] := hl
  refine lv_iload_n hx hb dX8_byteAt_0 rfl (lv_at hl 1 rfl) ?_
  refine lv_if_lt (tgt := 12) hx hb dX8_byteAt_1 (by decide) (fun c_1 => ?_) (fun c_1 => ?_)
  · have ic_1 := gz_lt (rfl : x.toInt = x.toInt) (by decide : (0 : Int32).toInt = 0) c_1
    refine lv_iconst (v := (-1)) hx hb dX8_byteAt_12 (by decide) ?_
    refine lv_goto (tgt := 26) hx hb dX8_byteAt_13 (by decide) ?_
    exact gz_iret (cf := (fun (u : Unit) => [(h0, .inr (8, [.ref a0, .int 0]))])) (post := (fun (r : Int32) (u : Unit) => r = (-1))) hx hb hr hlocks hK hP hD hS () [0] rfl rfl (by decide) rfl (Nat.le_of_ble_eq_true rfl) (Nat.le_of_ble_eq_true rfl) dX8_byteAt_26
  · have ic_1 := gz_nlt (rfl : x.toInt = x.toInt) (by decide : (0 : Int32).toInt = 0) c_1
    refine lv_iload_n hx hb dX8_byteAt_4 rfl (lv_at hl 1 rfl) ?_
    refine lv_aload_n hx hb dX8_byteAt_5 rfl (lv_at hl 0 rfl) ?_
    refine va_get (ci := 8) (v := .int 0) (C := RX8) (T := TX8) (N := 2) hx hb hts inX8 hown hK hP 0 rfl rfl 1 (by decide) (hts _ gm_39) (fun _ h9 => h9) rfl dX8_byteAt_6 ?_
    refine lv_icmp_lt (tgt := 16) hx hb dX8_byteAt_9 (by decide) (fun c_2 => ?_) (fun c_2 => ?_)
    · have ic_2 := gz_lt (rfl : x.toInt = x.toInt) (by decide : (0 : Int32).toInt = 0) c_2
      refine lv_aload_n hx hb dX8_byteAt_16 rfl (lv_at hl 0 rfl) ?_
      refine va_get (ci := 8) (v := .ref a0) (C := RX8) (T := TX8) (N := 2) hx hb hts inX8 hown hK hP 0 rfl rfl 0 (by decide) (hts _ gm_38) (fun _ h9 => h9) rfl dX8_byteAt_17 ?_
      refine lv_iload_n hx hb dX8_byteAt_20 rfl (lv_at hl 1 rfl) ?_
      exfalso; omega
    · have ic_2 := gz_nlt (rfl : x.toInt = x.toInt) (by decide : (0 : Int32).toInt = 0) c_2
      refine lv_iconst (v := (-1)) hx hb dX8_byteAt_12 (by decide) ?_
      refine lv_goto (tgt := 26) hx hb dX8_byteAt_13 (by decide) ?_
      exact gz_iret (cf := (fun (u : Unit) => [(h0, .inr (8, [.ref a0, .int 0]))])) (post := (fun (r : Int32) (u : Unit) => r = (-1))) hx hb hr hlocks hK hP hD hS () [0] rfl rfl (by decide) rfl (Nat.le_of_ble_eq_true rfl) (Nat.le_of_ble_eq_true rfl) dX8_byteAt_26

set_option maxHeartbeats 4000000 in
set_option maxRecDepth 100000 in
/-- WellCourt$Reader.isBlank -/
theorem c_X7_isBlank (l : Launch) (G : va_G) (cy : Nat → ClassId) (sz : Nat) (x : Int32) (Xx : Int) (kx : x.toInt = Xx)  : gMi l yX7_isBlank cX7_isBlank 1 (some .boolean) ({ frames := 0, cells := 0, slots := 0, locals := 0 }) G cy sz [.int x] [] (fun (r : Int32) (u : Unit) => (r = 1 ∧ (Xx = 32 ∨ Xx = 10)) ∨ (r = 0 ∧ (¬ Xx = 32) ∧ (¬ Xx = 10))) (fun (u : Unit) => []) := by
  refine gz_start (fun A => gQi G cy _ _ A) (by decide) (Nat.le_of_ble_eq_true rfl) ?_
  intro p e s m below meth c A ls H hx hb hr hml hlocks hin hown hts hK hov hsz hP hD hS hA hl
  have hl : lv_has ls 1 [(0, .int x)] := hl
  refine lv_iload_n hx hb dX7_isBlank_0 rfl (lv_at hl 0 rfl) ?_
  refine lv_bipush (v := 32) hx hb dX7_isBlank_1 (by decide) ?_
  refine lv_icmp_eq (tgt := 12) hx hb dX7_isBlank_3 (by decide) (fun c_1 => ?_) (fun c_1 => ?_)
  · have ic_1 := gz_eq (rfl : x.toInt = x.toInt) (by decide : (32 : Int32).toInt = 32) c_1
    refine lv_iconst (v := 1) hx hb dX7_isBlank_12 (by decide) ?_
    refine lv_goto (tgt := 17) hx hb dX7_isBlank_13 (by decide) ?_
    exact gz_iret (cf := (fun (u : Unit) => [])) (post := (fun (r : Int32) (u : Unit) => (r = 1 ∧ (Xx = 32 ∨ Xx = 10)) ∨ (r = 0 ∧ (¬ Xx = 32) ∧ (¬ Xx = 10)))) hx hb hr hlocks hK hP hD hS () [] (by decide) (Or.inl (⟨rfl, by omega⟩)) (by decide) rfl (Nat.le_of_ble_eq_true rfl) (Nat.le_of_ble_eq_true rfl) dX7_isBlank_17
  · have ic_1 := gz_ne (rfl : x.toInt = x.toInt) (by decide : (32 : Int32).toInt = 32) c_1
    refine lv_iload_n hx hb dX7_isBlank_6 rfl (lv_at hl 0 rfl) ?_
    refine lv_bipush (v := 10) hx hb dX7_isBlank_7 (by decide) ?_
    refine lv_icmp_ne (tgt := 16) hx hb dX7_isBlank_9 (by decide) (fun c_2 => ?_) (fun c_2 => ?_)
    · have ic_2 := gz_ne (rfl : x.toInt = x.toInt) (by decide : (10 : Int32).toInt = 10) c_2
      refine lv_iconst (v := 0) hx hb dX7_isBlank_16 (by decide) ?_
      exact gz_iret (cf := (fun (u : Unit) => [])) (post := (fun (r : Int32) (u : Unit) => (r = 1 ∧ (Xx = 32 ∨ Xx = 10)) ∨ (r = 0 ∧ (¬ Xx = 32) ∧ (¬ Xx = 10)))) hx hb hr hlocks hK hP hD hS () [] (by decide) (Or.inr (⟨rfl, by omega, by omega⟩)) (by decide) rfl (Nat.le_of_ble_eq_true rfl) (Nat.le_of_ble_eq_true rfl) dX7_isBlank_17
    · have ic_2 := gz_eqn (rfl : x.toInt = x.toInt) (by decide : (10 : Int32).toInt = 10) c_2
      refine lv_iconst (v := 1) hx hb dX7_isBlank_12 (by decide) ?_
      refine lv_goto (tgt := 17) hx hb dX7_isBlank_13 (by decide) ?_
      exact gz_iret (cf := (fun (u : Unit) => [])) (post := (fun (r : Int32) (u : Unit) => (r = 1 ∧ (Xx = 32 ∨ Xx = 10)) ∨ (r = 0 ∧ (¬ Xx = 32) ∧ (¬ Xx = 10)))) hx hb hr hlocks hK hP hD hS () [] (by decide) (Or.inl (⟨rfl, by omega⟩)) (by decide) rfl (Nat.le_of_ble_eq_true rfl) (Nat.le_of_ble_eq_true rfl) dX7_isBlank_17

set_option maxHeartbeats 4000000 in
set_option maxRecDepth 100000 in
/-- WellCourt$Ledger.has -/
theorem c_X5_has (l : Launch) (G : va_G) (cy : Nat → ClassId) (sz : Nat) (h0 : Nat) (a0 : Nat) (x : Int32) (Xx : Int) (kx : x.toInt = Xx)  : gMi l yX5_has cX5_has 2 (some .boolean) ({ frames := 0, cells := 0, slots := 0, locals := 0 }) G cy sz [.ref h0, .int x] [(h0, .inr (5, [.ref a0, .int 0]))] (fun (r : Int32) (u : Unit) => r = 0) (fun (u : Unit) => [(h0, .inr (5, [.ref a0, .int 0]))]) := by
  refine gz_start (fun A => gQi G cy _ _ A) (by decide) (Nat.le_of_ble_eq_true rfl) ?_
  intro p e s m below meth c A ls H hx hb hr hml hlocks hin hown hts hK hov hsz hP hD hS hA hl
  have hl : lv_has ls 2 [(0, .ref h0), (1, .int x)] := hl
  refine lv_iload_n hx hb dX5_has_0 rfl (lv_at hl 1 rfl) ?_
  refine lv_if_lt (tgt := 16) hx hb dX5_has_1 (by decide) (fun c_1 => ?_) (fun c_1 => ?_)
  · have ic_1 := gz_lt (rfl : x.toInt = x.toInt) (by decide : (0 : Int32).toInt = 0) c_1
    refine lv_iconst (v := 0) hx hb dX5_has_16 (by decide) ?_
    exact gz_iret (cf := (fun (u : Unit) => [(h0, .inr (5, [.ref a0, .int 0]))])) (post := (fun (r : Int32) (u : Unit) => r = 0)) hx hb hr hlocks hK hP hD hS () [0] (by decide) rfl (by decide) rfl (Nat.le_of_ble_eq_true rfl) (Nat.le_of_ble_eq_true rfl) dX5_has_17
  · have ic_1 := gz_nlt (rfl : x.toInt = x.toInt) (by decide : (0 : Int32).toInt = 0) c_1
    refine lv_iload_n hx hb dX5_has_4 rfl (lv_at hl 1 rfl) ?_
    refine lv_aload_n hx hb dX5_has_5 rfl (lv_at hl 0 rfl) ?_
    refine va_get (ci := 5) (v := .int 0) (C := RX5) (T := TX5) (N := 2) hx hb hts inX5 hown hK hP 0 rfl rfl 1 (by decide) (hts _ gm_143) (fun _ h9 => h9) rfl dX5_has_6 ?_
    refine lv_icmp_ge (tgt := 16) hx hb dX5_has_9 (by decide) (fun c_2 => ?_) (fun c_2 => ?_)
    · have ic_2 := gz_le (by decide : (0 : Int32).toInt = 0) (rfl : x.toInt = x.toInt) c_2
      refine lv_iconst (v := 0) hx hb dX5_has_16 (by decide) ?_
      exact gz_iret (cf := (fun (u : Unit) => [(h0, .inr (5, [.ref a0, .int 0]))])) (post := (fun (r : Int32) (u : Unit) => r = 0)) hx hb hr hlocks hK hP hD hS () [0] (by decide) rfl (by decide) rfl (Nat.le_of_ble_eq_true rfl) (Nat.le_of_ble_eq_true rfl) dX5_has_17
    · have ic_2 := gz_nle (by decide : (0 : Int32).toInt = 0) (rfl : x.toInt = x.toInt) c_2
      refine lv_iconst (v := 1) hx hb dX5_has_12 (by decide) ?_
      refine lv_goto (tgt := 17) hx hb dX5_has_13 (by decide) ?_
      exfalso; omega

set_option maxHeartbeats 4000000 in
set_option maxRecDepth 100000 in
/-- WellCourt$Law.turnOn -/
theorem c_X4_turnOn (l : Launch) (G : va_G) (cy : Nat → ClassId) (sz : Nat) (h0 : Nat) (a0 : Nat) (a1 : Nat) (a2 : Nat) (a3 : Nat) (a4 : Nat) (a5 : Nat) (a6 : Nat) (a7 : Nat) (a8 : Nat) (a9 : Nat) (a10 : Nat) (x : Int32) (y : Int32) (Xx : Int) (Xy : Int) (kx : x.toInt = Xx) (ky : y.toInt = Xy) (hx0 : 0 ≤ Xx) (hx1 : Xx < 6) : gMi l yX4_turnOn cX4_turnOn 4 (some .int) ({ frames := 0, cells := 0, slots := 0, locals := 0 }) G cy sz [.ref h0, .int x, .int y] [(h0, .inr (4, [.int 0, .ref a0, .ref a1, .ref a2, .ref a3, .int 0, .ref a4, .ref a5, .ref a6, .int 0, .ref a7, .ref a8, .ref a9, .ref a10])), (a1, .inl (cy 0, 6, .inl (fun _ => 0)))] (fun (r : Int32) (u : Unit) => r = (-1)) (fun (u : Unit) => [(h0, .inr (4, [.int 0, .ref a0, .ref a1, .ref a2, .ref a3, .int 0, .ref a4, .ref a5, .ref a6, .int 0, .ref a7, .ref a8, .ref a9, .ref a10])), (a1, .inl (cy 0, 6, .inl (fun _ => 0)))]) := by
  refine gz_start (fun A => gQi G cy _ _ A) (by decide) (Nat.le_of_ble_eq_true rfl) ?_
  intro p e s m below meth c A ls H hx hb hr hml hlocks hin hown hts hK hov hsz hP hD hS hA hl
  have hl : lv_has ls 4 [(0, .ref h0), (1, .int x), (2, .int y)] := hl
  refine lv_aload_n hx hb dX4_turnOn_0 rfl (lv_at hl 0 rfl) ?_
  refine va_get (ci := 4) (v := .ref a1) (C := RX4) (T := TX4) (N := 14) hx hb hts inX4 hown hK hP 0 rfl rfl 2 (by decide) (hts _ gm_192) (fun _ h9 => h9) rfl dX4_turnOn_1 ?_
  refine lv_iload_n hx hb dX4_turnOn_4 rfl (lv_at hl 1 rfl) ?_
  refine va_iald hx hb hK hP 1 0 rfl rfl (vp_in_iff.mpr ⟨by omega, by omega⟩) dX4_turnOn_5 ?_
  refine lv_topi (fun x_1 ex_1 => ?_)
  obtain rfl : x_1 = (0 : Int32) := ex_1
  refine lv_istore_n (lv' := [(3, .int 0), (0, .ref h0), (1, .int x), (2, .int y)]) hx hb dX4_turnOn_6 rfl hl (by decide) rfl (fun ls hl => ?_)
  refine lv_iload_n hx hb dX4_turnOn_7 rfl (lv_at hl 0 rfl) ?_
  refine lv_if_le (tgt := 24) hx hb dX4_turnOn_8 (by decide) (fun _ => ?_) (fun h9 => absurd (by decide) h9)
  refine lv_iconst (v := (-1)) hx hb dX4_turnOn_24 (by decide) ?_
  exact gz_iret (cf := (fun (u : Unit) => [(h0, .inr (4, [.int 0, .ref a0, .ref a1, .ref a2, .ref a3, .int 0, .ref a4, .ref a5, .ref a6, .int 0, .ref a7, .ref a8, .ref a9, .ref a10])), (a1, .inl (cy 0, 6, .inl (fun _ => 0)))])) (post := (fun (r : Int32) (u : Unit) => r = (-1))) hx hb hr hlocks hK hP hD hS () [0, 1] rfl rfl (by decide) rfl (Nat.le_of_ble_eq_true rfl) (Nat.le_of_ble_eq_true rfl) dX4_turnOn_25

set_option maxHeartbeats 4000000 in
set_option maxRecDepth 100000 in
/-- WellCourt$Law.droughtOwner -/
theorem c_X4_droughtOwner (l : Launch) (G : va_G) (cy : Nat → ClassId) (sz : Nat) (h0 : Nat) (a0 : Nat) (a1 : Nat) (a2 : Nat) (a3 : Nat) (a4 : Nat) (a5 : Nat) (a6 : Nat) (a7 : Nat) (a8 : Nat) (a9 : Nat) (a10 : Nat) (x : Int32) (y : Int32) (Xx : Int) (Xy : Int) (kx : x.toInt = Xx) (ky : y.toInt = Xy)  : gMi l yX4_droughtOwner cX4_droughtOwner 4 (some .int) ({ frames := 0, cells := 0, slots := 0, locals := 0 }) G cy sz [.ref h0, .int x, .int y] [(h0, .inr (4, [.int 0, .ref a0, .ref a1, .ref a2, .ref a3, .int 0, .ref a4, .ref a5, .ref a6, .int 0, .ref a7, .ref a8, .ref a9, .ref a10]))] (fun (r : Int32) (u : Unit) => r = (-1)) (fun (u : Unit) => [(h0, .inr (4, [.int 0, .ref a0, .ref a1, .ref a2, .ref a3, .int 0, .ref a4, .ref a5, .ref a6, .int 0, .ref a7, .ref a8, .ref a9, .ref a10]))]) := by
  refine gz_start (fun A => gQi G cy _ _ A) (by decide) (Nat.le_of_ble_eq_true rfl) ?_
  intro p e s m below meth c A ls H hx hb hr hml hlocks hin hown hts hK hov hsz hP hD hS hA hl
  have hl : lv_has ls 4 [(0, .ref h0), (1, .int x), (2, .int y)] := hl
  refine lv_iconst (v := 0) hx hb dX4_droughtOwner_0 (by decide) ?_
  refine lv_istore_n (lv' := [(3, .int 0), (0, .ref h0), (1, .int x), (2, .int y)]) hx hb dX4_droughtOwner_1 rfl hl (by decide) rfl (fun ls hl => ?_)
  refine lv_iload_n hx hb dX4_droughtOwner_2 rfl (lv_at hl 0 rfl) ?_
  refine lv_aload_n hx hb dX4_droughtOwner_3 rfl (lv_at hl 1 rfl) ?_
  refine va_get (ci := 4) (v := .int 0) (C := RX4) (T := TX4) (N := 14) hx hb hts inX4 hown hK hP 0 rfl rfl 5 (by decide) (hts _ gm_195) (fun _ h9 => h9) rfl dX4_droughtOwner_4 ?_
  refine lv_icmp_ge (tgt := 48) hx hb dX4_droughtOwner_7 (by decide) (fun _ => ?_) (fun h9 => absurd (by decide) h9)
  refine lv_iconst (v := (-1)) hx hb dX4_droughtOwner_48 (by decide) ?_
  exact gz_iret (cf := (fun (u : Unit) => [(h0, .inr (4, [.int 0, .ref a0, .ref a1, .ref a2, .ref a3, .int 0, .ref a4, .ref a5, .ref a6, .int 0, .ref a7, .ref a8, .ref a9, .ref a10]))])) (post := (fun (r : Int32) (u : Unit) => r = (-1))) hx hb hr hlocks hK hP hD hS () [0] rfl rfl (by decide) rfl (Nat.le_of_ble_eq_true rfl) (Nat.le_of_ble_eq_true rfl) dX4_droughtOwner_49

set_option maxHeartbeats 4000000 in
set_option maxRecDepth 100000 in
/-- WellCourt$Calendar.ownerOn -/
theorem c_X0_ownerOn (l : Launch) (G : va_G) (cy : Nat → ClassId) (sz : Nat) (h0 : Nat) (a0 : Nat) (rr : Nat → Nat) (x : Int32) (y : Int32) (Xx : Int) (Xy : Int) (kx : x.toInt = Xx) (ky : y.toInt = Xy) : gMi l yX0_ownerOn cX0_ownerOn 3 (some .int) ({ frames := 1, cells := 0, slots := 0, locals := 20 }) G cy sz [.ref h0, .int x, .int y] [(h0, .inr (0, [.ref a0])), (a0, .inl (cy 3, 6, .inr (.inr (.inr (.inr (fun i => if i < 6 then some (rr i) else none)))))), ((rr 0), .inl (cy 0, 200, .inl (fun _ => (-1)))), ((rr 1), .inl (cy 0, 200, .inl (fun _ => (-1)))), ((rr 2), .inl (cy 0, 200, .inl (fun _ => (-1)))), ((rr 3), .inl (cy 0, 200, .inl (fun _ => (-1)))), ((rr 4), .inl (cy 0, 200, .inl (fun _ => (-1)))), ((rr 5), .inl (cy 0, 200, .inl (fun _ => (-1))))] (fun (r : Int32) (u : Unit) => r = (-1)) (fun (u : Unit) => [(h0, .inr (0, [.ref a0])), (a0, .inl (cy 3, 6, .inr (.inr (.inr (.inr (fun i => if i < 6 then some (rr i) else none)))))), ((rr 0), .inl (cy 0, 200, .inl (fun _ => (-1)))), ((rr 1), .inl (cy 0, 200, .inl (fun _ => (-1)))), ((rr 2), .inl (cy 0, 200, .inl (fun _ => (-1)))), ((rr 3), .inl (cy 0, 200, .inl (fun _ => (-1)))), ((rr 4), .inl (cy 0, 200, .inl (fun _ => (-1)))), ((rr 5), .inl (cy 0, 200, .inl (fun _ => (-1))))]) := by
  refine gz_start (fun A => gQi G cy _ _ A) (by decide) (Nat.le_of_ble_eq_true rfl) ?_
  intro p e s m below meth c A ls H hx hb hr hml hlocks hin hown hts hK hov hsz hP hD hS hA hl
  have hl : lv_has ls 3 [(0, .ref h0), (1, .int x), (2, .int y)] := hl
  refine lv_iload_n hx hb dX0_ownerOn_0 rfl (lv_at hl 1 rfl) ?_
  refine gz_afti (va_runSN (As := [.int x]) (rest := []) ⟨hx, hb, hml, hown, hts⟩ (c_isWell l G cy H.size x x.toInt rfl) ⟨(va_cnB 1 hts (gz_good gm_346) rfl rfl rfl (hov.2.2 _ gn_559) (hts _ gm_1) ⟨by decide +kernel, by decide +kernel, by decide +kernel⟩ ⟨Nat.le_of_ble_eq_true rfl, Nat.le_of_ble_eq_true rfl⟩), hts _ gm_345, trivial⟩ (gz_preS hK hov hP hD [] (by decide) rfl) rfl rfl hl.1 rfl (lv_room (Nat.le_of_ble_eq_true rfl)) dX0_ownerOn_1 ⟨Nat.le_of_ble_eq_true rfl, Nat.le_of_ble_eq_true rfl⟩) hP hD hS hA [] [0, 1, 2, 3, 4, 5, 6, 7] rfl rfl (by decide) (by decide) (fun r_1 u_1 H locs hw_1 hP hD hS => ?_)
  have hP : va_P G vwCl [(h0, .inr (0, [.ref a0])), (a0, .inl (cy 3, 6, .inr (.inr (.inr (.inr (fun i => if i < 6 then some (rr i) else none)))))), ((rr 0), .inl (cy 0, 200, .inl (fun _ => (-1)))), ((rr 1), .inl (cy 0, 200, .inl (fun _ => (-1)))), ((rr 2), .inl (cy 0, 200, .inl (fun _ => (-1)))), ((rr 3), .inl (cy 0, 200, .inl (fun _ => (-1)))), ((rr 4), .inl (cy 0, 200, .inl (fun _ => (-1)))), ((rr 5), .inl (cy 0, 200, .inl (fun _ => (-1))))] H := hP
  have hD : va_D A [(h0, .inr (0, [.ref a0])), (a0, .inl (cy 3, 6, .inr (.inr (.inr (.inr (fun i => if i < 6 then some (rr i) else none)))))), ((rr 0), .inl (cy 0, 200, .inl (fun _ => (-1)))), ((rr 1), .inl (cy 0, 200, .inl (fun _ => (-1)))), ((rr 2), .inl (cy 0, 200, .inl (fun _ => (-1)))), ((rr 3), .inl (cy 0, 200, .inl (fun _ => (-1)))), ((rr 4), .inl (cy 0, 200, .inl (fun _ => (-1)))), ((rr 5), .inl (cy 0, 200, .inl (fun _ => (-1))))] := hD
  rcases hw_1 with ⟨rfl, hw_1_0, hw_1_1⟩ | ⟨rfl, hw_1_0⟩
  · skip
    refine lv_if_eq (tgt := 25) hx hb dX0_ownerOn_4 (by decide) (fun h9 => absurd h9 (by decide)) (fun _ => ?_)
    refine lv_iload_n hx hb dX0_ownerOn_7 rfl (lv_at hl 2 rfl) ?_
    refine gz_afti (va_runSN (As := [.int y]) (rest := []) ⟨hx, hb, hml, hown, hts⟩ (c_isDate l G cy H.size y y.toInt rfl) ⟨(va_cnB 1 hts (gz_good gm_562) rfl rfl rfl (hov.2.2 _ gn_560) (hts _ gm_1) ⟨by decide +kernel, by decide +kernel, by decide +kernel⟩ ⟨Nat.le_of_ble_eq_true rfl, Nat.le_of_ble_eq_true rfl⟩), hts _ gm_561, trivial⟩ (gz_preS hK hov hP hD [] (by decide) rfl) rfl rfl hl.1 rfl (lv_room (Nat.le_of_ble_eq_true rfl)) dX0_ownerOn_8 ⟨Nat.le_of_ble_eq_true rfl, Nat.le_of_ble_eq_true rfl⟩) hP hD hS hA [] [0, 1, 2, 3, 4, 5, 6, 7] rfl rfl (by decide) (by decide) (fun r_2 u_2 H locs hw_2 hP hD hS => ?_)
    have hP : va_P G vwCl [(h0, .inr (0, [.ref a0])), (a0, .inl (cy 3, 6, .inr (.inr (.inr (.inr (fun i => if i < 6 then some (rr i) else none)))))), ((rr 0), .inl (cy 0, 200, .inl (fun _ => (-1)))), ((rr 1), .inl (cy 0, 200, .inl (fun _ => (-1)))), ((rr 2), .inl (cy 0, 200, .inl (fun _ => (-1)))), ((rr 3), .inl (cy 0, 200, .inl (fun _ => (-1)))), ((rr 4), .inl (cy 0, 200, .inl (fun _ => (-1)))), ((rr 5), .inl (cy 0, 200, .inl (fun _ => (-1))))] H := hP
    have hD : va_D A [(h0, .inr (0, [.ref a0])), (a0, .inl (cy 3, 6, .inr (.inr (.inr (.inr (fun i => if i < 6 then some (rr i) else none)))))), ((rr 0), .inl (cy 0, 200, .inl (fun _ => (-1)))), ((rr 1), .inl (cy 0, 200, .inl (fun _ => (-1)))), ((rr 2), .inl (cy 0, 200, .inl (fun _ => (-1)))), ((rr 3), .inl (cy 0, 200, .inl (fun _ => (-1)))), ((rr 4), .inl (cy 0, 200, .inl (fun _ => (-1)))), ((rr 5), .inl (cy 0, 200, .inl (fun _ => (-1))))] := hD
    rcases hw_2 with ⟨rfl, hw_2_0, hw_2_1⟩ | ⟨rfl, hw_2_0⟩
    · skip
      refine lv_if_eq (tgt := 25) hx hb dX0_ownerOn_11 (by decide) (fun h9 => absurd h9 (by decide)) (fun _ => ?_)
      refine lv_aload_n hx hb dX0_ownerOn_14 rfl (lv_at hl 0 rfl) ?_
      refine va_get (ci := 0) (v := .ref a0) (C := RX0) (T := TX0) (N := 1) hx hb hts inX0 hown hK hP 0 rfl rfl 0 (by decide) (hts _ gm_109) (fun _ h9 => h9) rfl dX0_ownerOn_15 ?_
      refine lv_iload_n hx hb dX0_ownerOn_18 rfl (lv_at hl 1 rfl) ?_
      rcases gz_six (w := x) (by omega) (by omega) with rfl | rfl | rfl | rfl | rfl | rfl
      · skip
        refine gz_alda hx hb hK hP 1 rfl (vp_in_iff.mpr (by decide)) dX0_ownerOn_19 (v := .ref (rr 0)) rfl ?_
        refine lv_iload_n hx hb dX0_ownerOn_20 rfl (lv_at hl 2 rfl) ?_
        refine va_iald hx hb hK hP 2 0 rfl rfl (vp_in_iff.mpr ⟨by omega, by omega⟩) dX0_ownerOn_21 ?_
        refine lv_topi (fun x_3 ex_3 => ?_)
        obtain rfl : x_3 = (-1 : Int32) := ex_3
        refine lv_goto (tgt := 26) hx hb dX0_ownerOn_22 (by decide) ?_
        exact gz_iret (cf := (fun (u : Unit) => [(h0, .inr (0, [.ref a0])), (a0, .inl (cy 3, 6, .inr (.inr (.inr (.inr (fun i => if i < 6 then some (rr i) else none)))))), ((rr 0), .inl (cy 0, 200, .inl (fun _ => (-1)))), ((rr 1), .inl (cy 0, 200, .inl (fun _ => (-1)))), ((rr 2), .inl (cy 0, 200, .inl (fun _ => (-1)))), ((rr 3), .inl (cy 0, 200, .inl (fun _ => (-1)))), ((rr 4), .inl (cy 0, 200, .inl (fun _ => (-1)))), ((rr 5), .inl (cy 0, 200, .inl (fun _ => (-1))))])) (post := (fun (r : Int32) (u : Unit) => r = (-1))) hx hb hr hlocks hK hP hD hS () [0, 1, 2, 3, 4, 5, 6, 7] rfl rfl (by decide) rfl (Nat.le_of_ble_eq_true rfl) (Nat.le_of_ble_eq_true rfl) dX0_ownerOn_26
      · skip
        refine gz_alda hx hb hK hP 1 rfl (vp_in_iff.mpr (by decide)) dX0_ownerOn_19 (v := .ref (rr 1)) rfl ?_
        refine lv_iload_n hx hb dX0_ownerOn_20 rfl (lv_at hl 2 rfl) ?_
        refine va_iald hx hb hK hP 3 0 rfl rfl (vp_in_iff.mpr ⟨by omega, by omega⟩) dX0_ownerOn_21 ?_
        refine lv_topi (fun x_4 ex_4 => ?_)
        obtain rfl : x_4 = (-1 : Int32) := ex_4
        refine lv_goto (tgt := 26) hx hb dX0_ownerOn_22 (by decide) ?_
        exact gz_iret (cf := (fun (u : Unit) => [(h0, .inr (0, [.ref a0])), (a0, .inl (cy 3, 6, .inr (.inr (.inr (.inr (fun i => if i < 6 then some (rr i) else none)))))), ((rr 0), .inl (cy 0, 200, .inl (fun _ => (-1)))), ((rr 1), .inl (cy 0, 200, .inl (fun _ => (-1)))), ((rr 2), .inl (cy 0, 200, .inl (fun _ => (-1)))), ((rr 3), .inl (cy 0, 200, .inl (fun _ => (-1)))), ((rr 4), .inl (cy 0, 200, .inl (fun _ => (-1)))), ((rr 5), .inl (cy 0, 200, .inl (fun _ => (-1))))])) (post := (fun (r : Int32) (u : Unit) => r = (-1))) hx hb hr hlocks hK hP hD hS () [0, 1, 2, 3, 4, 5, 6, 7] rfl rfl (by decide) rfl (Nat.le_of_ble_eq_true rfl) (Nat.le_of_ble_eq_true rfl) dX0_ownerOn_26
      · skip
        refine gz_alda hx hb hK hP 1 rfl (vp_in_iff.mpr (by decide)) dX0_ownerOn_19 (v := .ref (rr 2)) rfl ?_
        refine lv_iload_n hx hb dX0_ownerOn_20 rfl (lv_at hl 2 rfl) ?_
        refine va_iald hx hb hK hP 4 0 rfl rfl (vp_in_iff.mpr ⟨by omega, by omega⟩) dX0_ownerOn_21 ?_
        refine lv_topi (fun x_5 ex_5 => ?_)
        obtain rfl : x_5 = (-1 : Int32) := ex_5
        refine lv_goto (tgt := 26) hx hb dX0_ownerOn_22 (by decide) ?_
        exact gz_iret (cf := (fun (u : Unit) => [(h0, .inr (0, [.ref a0])), (a0, .inl (cy 3, 6, .inr (.inr (.inr (.inr (fun i => if i < 6 then some (rr i) else none)))))), ((rr 0), .inl (cy 0, 200, .inl (fun _ => (-1)))), ((rr 1), .inl (cy 0, 200, .inl (fun _ => (-1)))), ((rr 2), .inl (cy 0, 200, .inl (fun _ => (-1)))), ((rr 3), .inl (cy 0, 200, .inl (fun _ => (-1)))), ((rr 4), .inl (cy 0, 200, .inl (fun _ => (-1)))), ((rr 5), .inl (cy 0, 200, .inl (fun _ => (-1))))])) (post := (fun (r : Int32) (u : Unit) => r = (-1))) hx hb hr hlocks hK hP hD hS () [0, 1, 2, 3, 4, 5, 6, 7] rfl rfl (by decide) rfl (Nat.le_of_ble_eq_true rfl) (Nat.le_of_ble_eq_true rfl) dX0_ownerOn_26
      · skip
        refine gz_alda hx hb hK hP 1 rfl (vp_in_iff.mpr (by decide)) dX0_ownerOn_19 (v := .ref (rr 3)) rfl ?_
        refine lv_iload_n hx hb dX0_ownerOn_20 rfl (lv_at hl 2 rfl) ?_
        refine va_iald hx hb hK hP 5 0 rfl rfl (vp_in_iff.mpr ⟨by omega, by omega⟩) dX0_ownerOn_21 ?_
        refine lv_topi (fun x_6 ex_6 => ?_)
        obtain rfl : x_6 = (-1 : Int32) := ex_6
        refine lv_goto (tgt := 26) hx hb dX0_ownerOn_22 (by decide) ?_
        exact gz_iret (cf := (fun (u : Unit) => [(h0, .inr (0, [.ref a0])), (a0, .inl (cy 3, 6, .inr (.inr (.inr (.inr (fun i => if i < 6 then some (rr i) else none)))))), ((rr 0), .inl (cy 0, 200, .inl (fun _ => (-1)))), ((rr 1), .inl (cy 0, 200, .inl (fun _ => (-1)))), ((rr 2), .inl (cy 0, 200, .inl (fun _ => (-1)))), ((rr 3), .inl (cy 0, 200, .inl (fun _ => (-1)))), ((rr 4), .inl (cy 0, 200, .inl (fun _ => (-1)))), ((rr 5), .inl (cy 0, 200, .inl (fun _ => (-1))))])) (post := (fun (r : Int32) (u : Unit) => r = (-1))) hx hb hr hlocks hK hP hD hS () [0, 1, 2, 3, 4, 5, 6, 7] rfl rfl (by decide) rfl (Nat.le_of_ble_eq_true rfl) (Nat.le_of_ble_eq_true rfl) dX0_ownerOn_26
      · skip
        refine gz_alda hx hb hK hP 1 rfl (vp_in_iff.mpr (by decide)) dX0_ownerOn_19 (v := .ref (rr 4)) rfl ?_
        refine lv_iload_n hx hb dX0_ownerOn_20 rfl (lv_at hl 2 rfl) ?_
        refine va_iald hx hb hK hP 6 0 rfl rfl (vp_in_iff.mpr ⟨by omega, by omega⟩) dX0_ownerOn_21 ?_
        refine lv_topi (fun x_7 ex_7 => ?_)
        obtain rfl : x_7 = (-1 : Int32) := ex_7
        refine lv_goto (tgt := 26) hx hb dX0_ownerOn_22 (by decide) ?_
        exact gz_iret (cf := (fun (u : Unit) => [(h0, .inr (0, [.ref a0])), (a0, .inl (cy 3, 6, .inr (.inr (.inr (.inr (fun i => if i < 6 then some (rr i) else none)))))), ((rr 0), .inl (cy 0, 200, .inl (fun _ => (-1)))), ((rr 1), .inl (cy 0, 200, .inl (fun _ => (-1)))), ((rr 2), .inl (cy 0, 200, .inl (fun _ => (-1)))), ((rr 3), .inl (cy 0, 200, .inl (fun _ => (-1)))), ((rr 4), .inl (cy 0, 200, .inl (fun _ => (-1)))), ((rr 5), .inl (cy 0, 200, .inl (fun _ => (-1))))])) (post := (fun (r : Int32) (u : Unit) => r = (-1))) hx hb hr hlocks hK hP hD hS () [0, 1, 2, 3, 4, 5, 6, 7] rfl rfl (by decide) rfl (Nat.le_of_ble_eq_true rfl) (Nat.le_of_ble_eq_true rfl) dX0_ownerOn_26
      · skip
        refine gz_alda hx hb hK hP 1 rfl (vp_in_iff.mpr (by decide)) dX0_ownerOn_19 (v := .ref (rr 5)) rfl ?_
        refine lv_iload_n hx hb dX0_ownerOn_20 rfl (lv_at hl 2 rfl) ?_
        refine va_iald hx hb hK hP 7 0 rfl rfl (vp_in_iff.mpr ⟨by omega, by omega⟩) dX0_ownerOn_21 ?_
        refine lv_topi (fun x_8 ex_8 => ?_)
        obtain rfl : x_8 = (-1 : Int32) := ex_8
        refine lv_goto (tgt := 26) hx hb dX0_ownerOn_22 (by decide) ?_
        exact gz_iret (cf := (fun (u : Unit) => [(h0, .inr (0, [.ref a0])), (a0, .inl (cy 3, 6, .inr (.inr (.inr (.inr (fun i => if i < 6 then some (rr i) else none)))))), ((rr 0), .inl (cy 0, 200, .inl (fun _ => (-1)))), ((rr 1), .inl (cy 0, 200, .inl (fun _ => (-1)))), ((rr 2), .inl (cy 0, 200, .inl (fun _ => (-1)))), ((rr 3), .inl (cy 0, 200, .inl (fun _ => (-1)))), ((rr 4), .inl (cy 0, 200, .inl (fun _ => (-1)))), ((rr 5), .inl (cy 0, 200, .inl (fun _ => (-1))))])) (post := (fun (r : Int32) (u : Unit) => r = (-1))) hx hb hr hlocks hK hP hD hS () [0, 1, 2, 3, 4, 5, 6, 7] rfl rfl (by decide) rfl (Nat.le_of_ble_eq_true rfl) (Nat.le_of_ble_eq_true rfl) dX0_ownerOn_26
    · skip
      refine lv_if_eq (tgt := 25) hx hb dX0_ownerOn_11 (by decide) (fun _ => ?_) (fun h9 => absurd (by decide) h9)
      refine lv_iconst (v := (-1)) hx hb dX0_ownerOn_25 (by decide) ?_
      exact gz_iret (cf := (fun (u : Unit) => [(h0, .inr (0, [.ref a0])), (a0, .inl (cy 3, 6, .inr (.inr (.inr (.inr (fun i => if i < 6 then some (rr i) else none)))))), ((rr 0), .inl (cy 0, 200, .inl (fun _ => (-1)))), ((rr 1), .inl (cy 0, 200, .inl (fun _ => (-1)))), ((rr 2), .inl (cy 0, 200, .inl (fun _ => (-1)))), ((rr 3), .inl (cy 0, 200, .inl (fun _ => (-1)))), ((rr 4), .inl (cy 0, 200, .inl (fun _ => (-1)))), ((rr 5), .inl (cy 0, 200, .inl (fun _ => (-1))))])) (post := (fun (r : Int32) (u : Unit) => r = (-1))) hx hb hr hlocks hK hP hD hS () [0, 1, 2, 3, 4, 5, 6, 7] rfl rfl (by decide) rfl (Nat.le_of_ble_eq_true rfl) (Nat.le_of_ble_eq_true rfl) dX0_ownerOn_26
  · skip
    refine lv_if_eq (tgt := 25) hx hb dX0_ownerOn_4 (by decide) (fun _ => ?_) (fun h9 => absurd (by decide) h9)
    refine lv_iconst (v := (-1)) hx hb dX0_ownerOn_25 (by decide) ?_
    exact gz_iret (cf := (fun (u : Unit) => [(h0, .inr (0, [.ref a0])), (a0, .inl (cy 3, 6, .inr (.inr (.inr (.inr (fun i => if i < 6 then some (rr i) else none)))))), ((rr 0), .inl (cy 0, 200, .inl (fun _ => (-1)))), ((rr 1), .inl (cy 0, 200, .inl (fun _ => (-1)))), ((rr 2), .inl (cy 0, 200, .inl (fun _ => (-1)))), ((rr 3), .inl (cy 0, 200, .inl (fun _ => (-1)))), ((rr 4), .inl (cy 0, 200, .inl (fun _ => (-1)))), ((rr 5), .inl (cy 0, 200, .inl (fun _ => (-1))))])) (post := (fun (r : Int32) (u : Unit) => r = (-1))) hx hb hr hlocks hK hP hD hS () [0, 1, 2, 3, 4, 5, 6, 7] rfl rfl (by decide) rfl (Nat.le_of_ble_eq_true rfl) (Nat.le_of_ble_eq_true rfl) dX0_ownerOn_26
end
section
/-! THE CLAIM OUT OF ONE WALK OF THE LAW'S BODY. Your part is whole_start (and what it stands on); all else here is the same for every law, but numbers. -/
def R_law : String := "WellCourtLaw"
def lw_P (b : Addr) (xs : List Int32) (args : Array Value) (s : State) : Prop := args = #[.ref b] ∧ s.IntsAt b xs ∧ xs.length ≤ 6 ∧ (Jvm.Cond.and given_1 narrow_1).before args s = true
def lw_Q (_ : Array Value) (s : State) (o : Outcome) (t : State) : Prop := o = .returned (some (.int 1)) ∧ Framed s o t [] 600002 7302232
def lw_Z (below : List Frame) (a : Array Value) (s : State) : State → Prop := fun t => ∃ o, t.status = .running ∧ Ended t below o ∧ lw_Q a s o t
/-- the law's own end, with 1 on the stack, nothing written that was there before, its room as the claim has it -/
theorem lw_ret {p : Program} {l : Launch} {e : Env} {s : State} {m : MethodId} {below : List Frame} {meth : Method} {c : Code} {b : Nat} (hx : p.tables.exec = Jvm.exec) (hb : c.code = code) (hr : meth.sig.returnType = ret) (hlocks : meth.locks = false) {pc : Nat} {H : Heap} {ls : Array Slot} (hdg : decode code pc = .ok (.ireturn, 1)) : W p l e room_1 s m #[Value.ref b] below meth c H [] 600002 7302232 (lw_Z below #[Value.ref b] s) (F0 m pc ls [.int 1]) := by
  intro T hT X
  obtain ⟨fs, hret, hrun, hended, hW, hframe⟩ := X.leave (v := some (.int 1)) (hlocks := hlocks) (fun h => by rw [hr] at h; cases h)
  have hmeth' : T.vm.method? m = some meth := X.method'
  refine ⟨T.setFrames fs, ?_, .returned (some (.int 1)), hrun, hended, rfl, ⟨_, rfl⟩, hW, hframe⟩
  jvm_step X.here [X.here.top, hx, hb, hdg, hmeth', hr, ret, narrow_b1]
  (try refine ⟨rfl, ?_⟩); (try refine ⟨rfl, ?_⟩)
  first | (intro acts; rw [hret _ acts rfl rfl rfl]) | rw [hret _ _ rfl rfl rfl]
  exact Steps.refl _
/-- what holds at the law's entry: the machine, the code, the tables' words (any of lw_tbl by 'hts w (by decide +kernel)'), the script of L ints xs at the cell b, what the Statement gives of the start (any of its parts by flat_of_before) -/
def lw_At (p : Program) (s : State) (m : MethodId) (meth : Method) (c : Code) (b L : Nat) (xs : Nat → Int32) : Prop :=
  p.tables.exec = Jvm.exec ∧ c.code = code ∧ meth.sig.returnType = ret ∧ c.maxLocals = 7 ∧ s.vm.findClass R_law = some m.cls ∧ (∀ w ∈ lw_tbl, w.before #[Value.ref b] s = true) ∧ va_X b L xs s s.heap ∧ b < s.heap.size ∧ meth.locks = false ∧ (Jvm.Cond.and given_1 narrow_1).before #[Value.ref b] s = true
-- ===== YOUR PART BEGINS =====
/-- YOUR PART: from the entry, for every script of at most 6 ints, the law comes to its end with true -/
theorem whole_start {p : Program} {e : Env} {s : State} {m : MethodId} {below : List Frame} {meth : Method} {c : Code} (l : Launch) {b L : Nat} {xs : Nat → Int32} (hL : L ≤ 6) (C0 : lw_At p s m meth c b L xs) : W p l e room_1 s m #[Value.ref b] below meth c s.heap [] 0 0 (lw_Z below #[Value.ref b] s) (entryFrame m ([Value.ref b] : List Value).toArray 7) := by
  sorry
-- ===== YOUR PART ENDS =====
set_option maxHeartbeats 4000000 in
theorem lw_walk (l : Launch) (b : Addr) (xs : List Int32) : MetFree l x (headSpec (Jvm.Cond.code x code maxLocals ret :: tables_1) room_1) (lw_P b xs) (fun _ _ _ _ _ => True) lw_Q := by
  refine MetFree.of_bodyS (code := code) (maxLocals := maxLocals) (ret := ret) (by decide) ?_ ?_
  · intro args s m h hn
    obtain ⟨meth, c, h1, h2, h3, h4, h5, h6, -, -⟩ := Cond.code_spec hn (atoms_spec (ws := Jvm.Cond.code x code maxLocals ret :: tables_1) h _ List.mem_cons_self)
    exact ⟨meth, c, h1, h2, h3, h4, h5, h6⟩
  · intro p e s m args below meth c s₁ B hml0 hP _
    obtain ⟨rfl, hx, hbd, hgv⟩ := hP
    obtain ⟨scr, harrAt, hlist, hof, hsmall⟩ := hx
    obtain ⟨hcb, hkn, -, -⟩ := State.arrayAt?_spec harrAt
    have hown : s.vm.findClass R_law = some m.cls := findClass_of_methodNamed B.named
    have hts0 : ∀ c ∈ (Jvm.Cond.code x code maxLocals ret :: tables_1), c.before #[Value.ref b] s = true := atoms_spec (ws := Jvm.Cond.code x code maxLocals ret :: tables_1) B.pre
    have hts : ∀ w ∈ lw_tbl, w.before #[Value.ref b] s = true := k2_hts_sels lw_privs (fun w hw => hts0 w (List.mem_cons_of_mem _ hw)) lw_privs_ok
    have hml : c.maxLocals = 7 := B.maxLocals_eq (hts0 _ List.mem_cons_self)
    have X₀ : Stand p l e room_1 s m #[Value.ref b] below meth c s₁ [] 0 0 := Stand.of_body B
    have hh0 : s₁.heap = s.heap := by rw [B.state]; rfl
    have hsz : scr.slots.size = xs.length := by rw [← Array.length_toList, hlist, List.length_map]
    have hval : ∀ j : Nat, j < xs.length → scr.slots[j]? = some (.int (xs.getD j 0)) := fun j hj => by
      rw [← Array.getElem?_toList, hlist]
      simp [hj]
    have hbl : b < s.heap.size := (Array.getElem?_eq_some_iff.mp hcb).1
    have hX : va_X b xs.length (fun j => xs.getD j 0) s s.heap := ⟨scr, hcb, hof, hkn, hsz, hval⟩
    have K : W p l e room_1 s m #[Value.ref b] below meth c s₁.heap [] 0 0 (lw_Z below #[Value.ref b] s) (entryFrame m ([Value.ref b] : List Value).toArray 7) := by
      rw [hh0]
      exact whole_start l hbd ⟨B.exec, B.bytes, B.returns, hml, hown, hts, hX, hbl, B.notSynchronized, hgv⟩
    obtain ⟨t, a1, o, b1, b2, b3⟩ := K s₁ rfl X₀
    exact ⟨t, o, a1, b1, b2, b3⟩
theorem lw_pre_spec {args : Array Value} {s : State} (h : (Jvm.Cond.and given_1 narrow_1).before args s = true) (hr : rest_1_c.before args s = true) : ∃ (b : Addr) (xs : List Int32), lw_P b xs args s := by
  have hs := flat_of_before _ h
  have hq := flat_of_before _ hr
  have hc : (Cond.count 1).before args s = true := hs _ (by decide +kernel)
  have harr : (Cond.arrayOf (.arg 0) .int).before args s = true := hs _ (by decide +kernel)
  have hle : (Cond.le (.length (.arg 0)) (.int 6)).before args s = true := hs _ (by decide +kernel)
  have hlen : (Cond.isInt (.length (.arg 0))).before args s = true := hq _ (by decide +kernel)
  have hall : (Cond.all (.arg 0) (.isInt (.elem (.arg 0) (.index 0)))).before args s = true := hq _ (by decide +kernel)
  obtain ⟨b, xs, hb, hx⟩ := State.ints_of_pre rfl harr hlen hall
  have hsm : xs.length < 2 ^ 31 := hx.choose_spec.2.2.2
  have hev : (Term.length (.arg 0)).eval args s none [] s = some (.int xs.length.toInt32) := hx.length_eval hb
  have hv := Cond.le_ints hev (show (Term.int 6).eval args s none [] s = some (.int 6) from rfl)
  have hd : xs.length.toInt32 ≤ 6 := by
    simpa [Cond.before, Cond.holds, hv] using hle
  have hN : xs.length ≤ 6 := (Int32.ofNat_le_ofNat hsm (by decide)).mp (show Int32.ofNat xs.length ≤ Int32.ofNat 6 from hd)
  exact ⟨b, xs, Cond.one_arg hc (show args[0]? = some (.ref b) from hb), hx, hN, h⟩
theorem lw_comes (l : Launch) : Comes l x (Jvm.Cond.code x code maxLocals ret :: tables_1) room_1 (fun tb e args s => Calls_1 tb e args s ∧ rest_1 tb e args s ∧ Pre_1 tb e args s)
    (fun _ _ args s o t => lw_Q args s o t) := by
  intro p e ha hc hk s m args below hf hfit hheap happ hpre
  obtain ⟨b, xs, hP⟩ := lw_pre_spec hpre.2.2 hpre.2.1
  obtain ⟨k, o, h1, h2, h3, hQ⟩ := lw_walk l b xs p e ha hc hk s m args below hf ((Spec.applies_iff_loose hf).mp happ).1 hP trivial
  exact ⟨k, o, h1, h2, h3, hQ⟩
theorem lw_frame {s t : State} {o : Outcome} {args : Array Value} (h : Framed s o t [] 600002 7302232) :
    Framed s o t (fieldLocs frame_1_writes args s ++ arrayLocs frame_1_arrays args s ++ staticLocs frame_1_statics s) 600002 7302232 := h
theorem lw_limb (L : Cond) (hL : ∀ (args : Array Value) (s t : State), L.after args s (.returned (some (.int 1))) t = true) :
    ArmFor flags0 classFile x code maxLocals ret World_1 tables_1 room_1 Calls_1 rest_1 Pre_1
      (fun tb e a s o t => postC L tb e a s o t ∧ Framed s o t (fieldLocs frame_1_writes a s ++ arrayLocs frame_1_arrays a s ++ staticLocs frame_1_statics s) 600002 7302232) := by
  intro l _ _ _ p e ha hc hk s m args below hf hfit hheap happ hpre
  obtain ⟨k, o, h1, h2, h3, rfl, hF⟩ := lw_comes l p e ha hc hk s m args below hf hfit hheap happ hpre
  exact ⟨k, _, h1, h2, h3, hL args s _, lw_frame hF⟩
theorem i_vc : Claimed_1_1 ∧ Claimed_1_2 := ⟨lw_limb limb_1_1 (fun args s t => by simp [limb_1_1, Cond.after, Cond.holds, Cond.value]), lw_limb limb_1_2 (fun args s t => Cond.after_iff.mpr (by
  first | (rw [show limb_1_2 = Cond.eq .result (.int 1) from rfl, Cond.eq_ints (x := 1) (y := 1) rfl rfl]; simp; done) | (simp [limb_1_2, Cond.value, Term.eval]; done)))⟩
end
