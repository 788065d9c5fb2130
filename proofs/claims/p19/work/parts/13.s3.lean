theorem gm_2 : (Jvm.Cond.initialized "WellCourt$Tape") ∈ gz_T := gz_at 2 (by decide +kernel) rfl
theorem gm_3 : (Jvm.Cond.initialized "WellCourt$Reader") ∈ gz_T := gz_at 3 (by decide +kernel) rfl
theorem gm_53 : (Jvm.Cond.fieldLink "WellCourt$Reader" (27 : Nat) "WellCourt$Reader" "tape" "LWellCourt$Tape;") ∈ gz_T := gz_at 53 (by decide +kernel) rfl
theorem gm_54 : (Jvm.Cond.fieldLink "WellCourt$Reader" (11 : Nat) "WellCourt$Reader" "kind" "I") ∈ gz_T := gz_at 54 (by decide +kernel) rfl
theorem gm_55 : (Jvm.Cond.fieldLink "WellCourt$Reader" (15 : Nat) "WellCourt$Reader" "start" "I") ∈ gz_T := gz_at 55 (by decide +kernel) rfl
theorem gm_56 : (Jvm.Cond.fieldLink "WellCourt$Reader" (18 : Nat) "WellCourt$Reader" "stop" "I") ∈ gz_T := gz_at 56 (by decide +kernel) rfl
theorem gm_57 : (Jvm.Cond.fieldLink "WellCourt$Reader" (21 : Nat) "WellCourt$Reader" "faultKind" "I") ∈ gz_T := gz_at 57 (by decide +kernel) rfl
theorem gm_59 : (Jvm.Cond.fieldLink "WellCourt$Reader" (24 : Nat) "WellCourt$Reader" "faultPlace" "I") ∈ gz_T := gz_at 59 (by decide +kernel) rfl
theorem gm_371 : (Jvm.Cond.methodLink "WellCourt$Reader" (127 : Nat) ({ cls := "WellCourt$Tape", name := "byteAt", desc := "(I)I" } : Jvm.MethodName)) ∈ gz_T := gz_at 371 (by decide +kernel) rfl
theorem gm_372 : (Jvm.Cond.instanceMethod ({ cls := "WellCourt$Tape", name := "byteAt", desc := "(I)I" } : Jvm.MethodName)) ∈ gz_T := gz_at 372 (by decide +kernel) rfl
theorem gm_373 : (Jvm.Cond.selects "WellCourt$Tape" ({ cls := "WellCourt$Tape", name := "byteAt", desc := "(I)I" } : Jvm.MethodName) ({ cls := "WellCourt$Tape", name := "byteAt", desc := "(I)I" } : Jvm.MethodName)) ∈ gz_T := gz_at 373 (by decide +kernel) rfl
theorem gm_374 : (Jvm.Cond.code ({ cls := "WellCourt$Tape", name := "byteAt", desc := "(I)I" } : Jvm.MethodName) prog_10_method_3_code (2 : Nat) (Option.some Jvm.ClassFile.FieldType.int)) ∈ gz_T := gz_at 374 (by decide +kernel) rfl
theorem gm_375 : (Jvm.Cond.methodLink "WellCourt$Reader" (149 : Nat) ({ cls := "WellCourt$Reader", name := "isBlank", desc := "(I)Z" } : Jvm.MethodName)) ∈ gz_T := gz_at 375 (by decide +kernel) rfl
theorem gm_376 : (Jvm.Cond.static ({ cls := "WellCourt$Reader", name := "isBlank", desc := "(I)Z" } : Jvm.MethodName)) ∈ gz_T := gz_at 376 (by decide +kernel) rfl
theorem gm_377 : (Jvm.Cond.code ({ cls := "WellCourt$Reader", name := "isBlank", desc := "(I)Z" } : Jvm.MethodName) prog_9_method_19_code (1 : Nat) (Option.some Jvm.ClassFile.FieldType.boolean)) ∈ gz_T := gz_at 377 (by decide +kernel) rfl
theorem gm_378 : (Jvm.Cond.methodLink "WellCourt$Reader" (152 : Nat) ({ cls := "WellCourt$Reader", name := "isDigit", desc := "(I)Z" } : Jvm.MethodName)) ∈ gz_T := gz_at 378 (by decide +kernel) rfl
theorem gm_379 : (Jvm.Cond.static ({ cls := "WellCourt$Reader", name := "isDigit", desc := "(I)Z" } : Jvm.MethodName)) ∈ gz_T := gz_at 379 (by decide +kernel) rfl
theorem gm_380 : (Jvm.Cond.code ({ cls := "WellCourt$Reader", name := "isDigit", desc := "(I)Z" } : Jvm.MethodName) prog_9_method_20_code (1 : Nat) (Option.some Jvm.ClassFile.FieldType.boolean)) ∈ gz_T := gz_at 380 (by decide +kernel) rfl
theorem gm_381 : (Jvm.Cond.methodLink "WellCourt$Reader" (155 : Nat) ({ cls := "WellCourt$Reader", name := "isLetter", desc := "(I)Z" } : Jvm.MethodName)) ∈ gz_T := gz_at 381 (by decide +kernel) rfl
theorem gm_382 : (Jvm.Cond.static ({ cls := "WellCourt$Reader", name := "isLetter", desc := "(I)Z" } : Jvm.MethodName)) ∈ gz_T := gz_at 382 (by decide +kernel) rfl
theorem gm_383 : (Jvm.Cond.code ({ cls := "WellCourt$Reader", name := "isLetter", desc := "(I)Z" } : Jvm.MethodName) prog_9_method_22_code (1 : Nat) (Option.some Jvm.ClassFile.FieldType.boolean)) ∈ gz_T := gz_at 383 (by decide +kernel) rfl
theorem gm_384 : (Jvm.Cond.methodLink "WellCourt$Reader" (158 : Nat) ({ cls := "WellCourt$Reader", name := "readRun", desc := "()V" } : Jvm.MethodName)) ∈ gz_T := gz_at 384 (by decide +kernel) rfl
theorem gm_386 : (Jvm.Cond.instanceMethod ({ cls := "WellCourt$Reader", name := "readRun", desc := "()V" } : Jvm.MethodName)) ∈ gz_T := gz_at 386 (by decide +kernel) rfl
theorem gm_387 : (Jvm.Cond.code ({ cls := "WellCourt$Reader", name := "readRun", desc := "()V" } : Jvm.MethodName) prog_9_method_18_code (4 : Nat) (Option.none : Option Jvm.ClassFile.FieldType)) ∈ gz_T := gz_at 387 (by decide +kernel) rfl
theorem gm_388 : (Jvm.Cond.methodLink "WellCourt$Reader" (161 : Nat) ({ cls := "WellCourt$Reader", name := "isSmall", desc := "(I)Z" } : Jvm.MethodName)) ∈ gz_T := gz_at 388 (by decide +kernel) rfl
theorem gm_389 : (Jvm.Cond.static ({ cls := "WellCourt$Reader", name := "isSmall", desc := "(I)Z" } : Jvm.MethodName)) ∈ gz_T := gz_at 389 (by decide +kernel) rfl
theorem gm_390 : (Jvm.Cond.code ({ cls := "WellCourt$Reader", name := "isSmall", desc := "(I)Z" } : Jvm.MethodName) prog_9_method_21_code (1 : Nat) (Option.some Jvm.ClassFile.FieldType.boolean)) ∈ gz_T := gz_at 390 (by decide +kernel) rfl
theorem gm_456 : (Jvm.Cond.methodLink "WellCourt$Reader" (46 : Nat) ({ cls := "WellCourt$Reader", name := "fail", desc := "(I)Z" } : Jvm.MethodName)) ∈ gz_T := gz_at 456 (by decide +kernel) rfl
theorem gm_458 : (Jvm.Cond.instanceMethod ({ cls := "WellCourt$Reader", name := "fail", desc := "(I)Z" } : Jvm.MethodName)) ∈ gz_T := gz_at 458 (by decide +kernel) rfl
theorem gm_459 : (Jvm.Cond.code ({ cls := "WellCourt$Reader", name := "fail", desc := "(I)Z" } : Jvm.MethodName) prog_9_method_14_code (2 : Nat) (Option.some Jvm.ClassFile.FieldType.boolean)) ∈ gz_T := gz_at 459 (by decide +kernel) rfl
theorem gs_1 : (Jvm.Cond.selects "WellCourt$Reader" ({ cls := "WellCourt$Reader", name := "readRun", desc := "()V" } : Jvm.MethodName) ({ cls := "WellCourt$Reader", name := "readRun", desc := "()V" } : Jvm.MethodName)) ∈ gz_T := gz_sel 1 (by decide +kernel) rfl
theorem gs_5 : (Jvm.Cond.selects "WellCourt$Reader" ({ cls := "WellCourt$Reader", name := "fail", desc := "(I)Z" } : Jvm.MethodName) ({ cls := "WellCourt$Reader", name := "fail", desc := "(I)Z" } : Jvm.MethodName)) ∈ gz_T := gz_sel 5 (by decide +kernel) rfl
theorem inX7 : ∀ w ∈ u_ws RX7 TX7 6, w ∈ gz_T := gz_inX [61, 63, 65, 67, 69, 71] (by decide +kernel) (by decide +kernel)
theorem dX7_advance_0 : decode cX7_advance 0 = .ok (.aload_n 0, 1) := by decide +kernel
theorem dX7_advance_1 : decode cX7_advance 1 = .ok (.aload_n 0, 1) := by decide +kernel
theorem dX7_advance_2 : decode cX7_advance 2 = .ok (.getfield 18, 3) := by decide +kernel
theorem dX7_advance_5 : decode cX7_advance 5 = .ok (.putfield 15, 3) := by decide +kernel
theorem dX7_advance_8 : decode cX7_advance 8 = .ok (.aload_n 0, 1) := by decide +kernel
theorem dX7_advance_9 : decode cX7_advance 9 = .ok (.getfield 15, 3) := by decide +kernel
theorem dX7_advance_12 : decode cX7_advance 12 = .ok (.sipush 800, 3) := by decide +kernel
theorem dX7_advance_15 : decode cX7_advance 15 = .ok (.if_icmp .ge 33, 3) := by decide +kernel
theorem dX7_advance_18 : decode cX7_advance 18 = .ok (.aload_n 0, 1) := by decide +kernel
theorem dX7_advance_19 : decode cX7_advance 19 = .ok (.getfield 27, 3) := by decide +kernel
theorem dX7_advance_22 : decode cX7_advance 22 = .ok (.aload_n 0, 1) := by decide +kernel
theorem dX7_advance_23 : decode cX7_advance 23 = .ok (.getfield 15, 3) := by decide +kernel
theorem dX7_advance_26 : decode cX7_advance 26 = .ok (.invokevirtual 127, 3) := by decide +kernel
theorem dX7_advance_29 : decode cX7_advance 29 = .ok (.invokestatic 149, 3) := by decide +kernel
theorem dX7_advance_32 : decode cX7_advance 32 = .ok (.ifCond .eq 16, 3) := by decide +kernel
theorem dX7_advance_35 : decode cX7_advance 35 = .ok (.aload_n 0, 1) := by decide +kernel
theorem dX7_advance_36 : decode cX7_advance 36 = .ok (.dup, 1) := by decide +kernel
theorem dX7_advance_37 : decode cX7_advance 37 = .ok (.getfield 15, 3) := by decide +kernel
theorem dX7_advance_40 : decode cX7_advance 40 = .ok (.iconst 1, 1) := by decide +kernel
theorem dX7_advance_41 : decode cX7_advance 41 = .ok (.iadd, 1) := by decide +kernel
theorem dX7_advance_42 : decode cX7_advance 42 = .ok (.putfield 15, 3) := by decide +kernel
theorem dX7_advance_45 : decode cX7_advance 45 = .ok (.goto (-37), 3) := by decide +kernel
theorem dX7_advance_48 : decode cX7_advance 48 = .ok (.aload_n 0, 1) := by decide +kernel
theorem dX7_advance_49 : decode cX7_advance 49 = .ok (.getfield 27, 3) := by decide +kernel
theorem dX7_advance_52 : decode cX7_advance 52 = .ok (.aload_n 0, 1) := by decide +kernel
theorem dX7_advance_53 : decode cX7_advance 53 = .ok (.getfield 15, 3) := by decide +kernel
theorem dX7_advance_56 : decode cX7_advance 56 = .ok (.invokevirtual 127, 3) := by decide +kernel
theorem dX7_advance_59 : decode cX7_advance 59 = .ok (.istore_n 1, 1) := by decide +kernel
theorem dX7_advance_60 : decode cX7_advance 60 = .ok (.aload_n 0, 1) := by decide +kernel
theorem dX7_advance_61 : decode cX7_advance 61 = .ok (.aload_n 0, 1) := by decide +kernel
theorem dX7_advance_62 : decode cX7_advance 62 = .ok (.getfield 15, 3) := by decide +kernel
theorem dX7_advance_65 : decode cX7_advance 65 = .ok (.iconst 1, 1) := by decide +kernel
theorem dX7_advance_66 : decode cX7_advance 66 = .ok (.iadd, 1) := by decide +kernel
theorem dX7_advance_67 : decode cX7_advance 67 = .ok (.putfield 18, 3) := by decide +kernel
theorem dX7_advance_70 : decode cX7_advance 70 = .ok (.iload_n 1, 1) := by decide +kernel
theorem dX7_advance_71 : decode cX7_advance 71 = .ok (.iconst (-1), 1) := by decide +kernel
theorem dX7_advance_72 : decode cX7_advance 72 = .ok (.if_icmp .ne 19, 3) := by decide +kernel
theorem dX7_advance_75 : decode cX7_advance 75 = .ok (.aload_n 0, 1) := by decide +kernel
theorem dX7_advance_76 : decode cX7_advance 76 = .ok (.iconst 0, 1) := by decide +kernel
theorem dX7_advance_77 : decode cX7_advance 77 = .ok (.putfield 11, 3) := by decide +kernel
theorem dX7_advance_80 : decode cX7_advance 80 = .ok (.aload_n 0, 1) := by decide +kernel
theorem dX7_advance_81 : decode cX7_advance 81 = .ok (.aload_n 0, 1) := by decide +kernel
theorem dX7_advance_82 : decode cX7_advance 82 = .ok (.getfield 15, 3) := by decide +kernel
theorem dX7_advance_85 : decode cX7_advance 85 = .ok (.putfield 18, 3) := by decide +kernel
theorem dX7_advance_88 : decode cX7_advance 88 = .ok (.goto 55, 3) := by decide +kernel
theorem dX7_advance_91 : decode cX7_advance 91 = .ok (.iload_n 1, 1) := by decide +kernel
theorem dX7_advance_92 : decode cX7_advance 92 = .ok (.bipush 58, 2) := by decide +kernel
theorem dX7_advance_94 : decode cX7_advance 94 = .ok (.if_icmp .eq 15, 3) := by decide +kernel
theorem dX7_advance_97 : decode cX7_advance 97 = .ok (.iload_n 1, 1) := by decide +kernel
theorem dX7_advance_98 : decode cX7_advance 98 = .ok (.bipush 44, 2) := by decide +kernel
theorem dX7_advance_100 : decode cX7_advance 100 = .ok (.if_icmp .eq 9, 3) := by decide +kernel
theorem dX7_advance_103 : decode cX7_advance 103 = .ok (.iload_n 1, 1) := by decide +kernel
theorem dX7_advance_104 : decode cX7_advance 104 = .ok (.bipush 59, 2) := by decide +kernel
theorem dX7_advance_106 : decode cX7_advance 106 = .ok (.if_icmp .ne 11, 3) := by decide +kernel
theorem dX7_advance_109 : decode cX7_advance 109 = .ok (.aload_n 0, 1) := by decide +kernel
theorem dX7_advance_110 : decode cX7_advance 110 = .ok (.iconst 4, 1) := by decide +kernel
theorem dX7_advance_111 : decode cX7_advance 111 = .ok (.putfield 11, 3) := by decide +kernel
theorem dX7_advance_114 : decode cX7_advance 114 = .ok (.goto 29, 3) := by decide +kernel
theorem dX7_advance_117 : decode cX7_advance 117 = .ok (.iload_n 1, 1) := by decide +kernel
theorem dX7_advance_118 : decode cX7_advance 118 = .ok (.invokestatic 152, 3) := by decide +kernel
theorem dX7_advance_121 : decode cX7_advance 121 = .ok (.ifCond .ne 10, 3) := by decide +kernel
theorem dX7_advance_124 : decode cX7_advance 124 = .ok (.iload_n 1, 1) := by decide +kernel
theorem dX7_advance_125 : decode cX7_advance 125 = .ok (.invokestatic 155, 3) := by decide +kernel
theorem dX7_advance_128 : decode cX7_advance 128 = .ok (.ifCond .eq 10, 3) := by decide +kernel
theorem dX7_advance_131 : decode cX7_advance 131 = .ok (.aload_n 0, 1) := by decide +kernel
theorem dX7_advance_132 : decode cX7_advance 132 = .ok (.invokevirtual 158, 3) := by decide +kernel
theorem dX7_advance_135 : decode cX7_advance 135 = .ok (.goto 8, 3) := by decide +kernel
theorem dX7_advance_138 : decode cX7_advance 138 = .ok (.aload_n 0, 1) := by decide +kernel
theorem dX7_advance_139 : decode cX7_advance 139 = .ok (.iconst 1, 1) := by decide +kernel
theorem dX7_advance_140 : decode cX7_advance 140 = .ok (.putfield 11, 3) := by decide +kernel
theorem dX7_advance_143 : decode cX7_advance 143 = .ok (.return_, 1) := by decide +kernel
theorem dX7_cannotCome_0 : decode cX7_cannotCome 0 = .ok (.aload_n 0, 1) := by decide +kernel
theorem dX7_cannotCome_1 : decode cX7_cannotCome 1 = .ok (.aload_n 0, 1) := by decide +kernel
theorem dX7_cannotCome_2 : decode cX7_cannotCome 2 = .ok (.getfield 11, 3) := by decide +kernel
theorem dX7_cannotCome_5 : decode cX7_cannotCome 5 = .ok (.iconst 1, 1) := by decide +kernel
theorem dX7_cannotCome_6 : decode cX7_cannotCome 6 = .ok (.if_icmp .ne 7, 3) := by decide +kernel
theorem dX7_cannotCome_9 : decode cX7_cannotCome 9 = .ok (.iconst 1, 1) := by decide +kernel
theorem dX7_cannotCome_10 : decode cX7_cannotCome 10 = .ok (.goto 4, 3) := by decide +kernel
theorem dX7_cannotCome_13 : decode cX7_cannotCome 13 = .ok (.iconst 2, 1) := by decide +kernel
theorem dX7_cannotCome_14 : decode cX7_cannotCome 14 = .ok (.invokevirtual 46, 3) := by decide +kernel
theorem dX7_cannotCome_17 : decode cX7_cannotCome 17 = .ok (.ireturn, 1) := by decide +kernel
theorem dX7_fail_0 : decode cX7_fail 0 = .ok (.aload_n 0, 1) := by decide +kernel
theorem dX7_fail_1 : decode cX7_fail 1 = .ok (.iload_n 1, 1) := by decide +kernel
theorem dX7_fail_2 : decode cX7_fail 2 = .ok (.putfield 21, 3) := by decide +kernel
theorem dX7_fail_5 : decode cX7_fail 5 = .ok (.aload_n 0, 1) := by decide +kernel
theorem dX7_fail_6 : decode cX7_fail 6 = .ok (.aload_n 0, 1) := by decide +kernel
theorem dX7_fail_7 : decode cX7_fail 7 = .ok (.getfield 15, 3) := by decide +kernel
theorem dX7_fail_10 : decode cX7_fail 10 = .ok (.putfield 24, 3) := by decide +kernel
theorem dX7_fail_13 : decode cX7_fail 13 = .ok (.iconst 0, 1) := by decide +kernel
theorem dX7_fail_14 : decode cX7_fail 14 = .ok (.ireturn, 1) := by decide +kernel
theorem dX7_isBlank_0 : decode cX7_isBlank 0 = .ok (.iload_n 0, 1) := by decide +kernel
theorem dX7_isBlank_1 : decode cX7_isBlank 1 = .ok (.bipush 32, 2) := by decide +kernel
theorem dX7_isBlank_3 : decode cX7_isBlank 3 = .ok (.if_icmp .eq 9, 3) := by decide +kernel
theorem dX7_isBlank_6 : decode cX7_isBlank 6 = .ok (.iload_n 0, 1) := by decide +kernel
theorem dX7_isBlank_7 : decode cX7_isBlank 7 = .ok (.bipush 10, 2) := by decide +kernel
theorem dX7_isBlank_9 : decode cX7_isBlank 9 = .ok (.if_icmp .ne 7, 3) := by decide +kernel
theorem dX7_isBlank_12 : decode cX7_isBlank 12 = .ok (.iconst 1, 1) := by decide +kernel
theorem dX7_isBlank_13 : decode cX7_isBlank 13 = .ok (.goto 4, 3) := by decide +kernel
theorem dX7_isBlank_16 : decode cX7_isBlank 16 = .ok (.iconst 0, 1) := by decide +kernel
theorem dX7_isBlank_17 : decode cX7_isBlank 17 = .ok (.ireturn, 1) := by decide +kernel
theorem dX7_isDigit_0 : decode cX7_isDigit 0 = .ok (.iload_n 0, 1) := by decide +kernel
theorem dX7_isDigit_1 : decode cX7_isDigit 1 = .ok (.bipush 48, 2) := by decide +kernel
theorem dX7_isDigit_3 : decode cX7_isDigit 3 = .ok (.if_icmp .lt 13, 3) := by decide +kernel
theorem dX7_isDigit_6 : decode cX7_isDigit 6 = .ok (.iload_n 0, 1) := by decide +kernel
theorem dX7_isDigit_7 : decode cX7_isDigit 7 = .ok (.bipush 57, 2) := by decide +kernel
theorem dX7_isDigit_9 : decode cX7_isDigit 9 = .ok (.if_icmp .gt 7, 3) := by decide +kernel
theorem dX7_isDigit_12 : decode cX7_isDigit 12 = .ok (.iconst 1, 1) := by decide +kernel
theorem dX7_isDigit_13 : decode cX7_isDigit 13 = .ok (.goto 4, 3) := by decide +kernel
theorem dX7_isDigit_16 : decode cX7_isDigit 16 = .ok (.iconst 0, 1) := by decide +kernel
theorem dX7_isDigit_17 : decode cX7_isDigit 17 = .ok (.ireturn, 1) := by decide +kernel
theorem dX7_isLetter_0 : decode cX7_isLetter 0 = .ok (.iload_n 0, 1) := by decide +kernel
theorem dX7_isLetter_1 : decode cX7_isLetter 1 = .ok (.bipush 97, 2) := by decide +kernel
theorem dX7_isLetter_3 : decode cX7_isLetter 3 = .ok (.if_icmp .lt 9, 3) := by decide +kernel
theorem dX7_isLetter_6 : decode cX7_isLetter 6 = .ok (.iload_n 0, 1) := by decide +kernel
theorem dX7_isLetter_7 : decode cX7_isLetter 7 = .ok (.bipush 122, 2) := by decide +kernel
theorem dX7_isLetter_9 : decode cX7_isLetter 9 = .ok (.if_icmp .le 15, 3) := by decide +kernel
theorem dX7_isLetter_12 : decode cX7_isLetter 12 = .ok (.iload_n 0, 1) := by decide +kernel
theorem dX7_isLetter_13 : decode cX7_isLetter 13 = .ok (.bipush 65, 2) := by decide +kernel
theorem dX7_isLetter_15 : decode cX7_isLetter 15 = .ok (.if_icmp .lt 13, 3) := by decide +kernel
theorem dX7_isLetter_18 : decode cX7_isLetter 18 = .ok (.iload_n 0, 1) := by decide +kernel
theorem dX7_isLetter_19 : decode cX7_isLetter 19 = .ok (.bipush 90, 2) := by decide +kernel
theorem dX7_isLetter_21 : decode cX7_isLetter 21 = .ok (.if_icmp .gt 7, 3) := by decide +kernel
theorem dX7_isLetter_24 : decode cX7_isLetter 24 = .ok (.iconst 1, 1) := by decide +kernel
theorem dX7_isLetter_25 : decode cX7_isLetter 25 = .ok (.goto 4, 3) := by decide +kernel
theorem dX7_isLetter_28 : decode cX7_isLetter 28 = .ok (.iconst 0, 1) := by decide +kernel
theorem dX7_isLetter_29 : decode cX7_isLetter 29 = .ok (.ireturn, 1) := by decide +kernel
theorem dX7_isSign_0 : decode cX7_isSign 0 = .ok (.aload_n 0, 1) := by decide +kernel
theorem dX7_isSign_1 : decode cX7_isSign 1 = .ok (.getfield 11, 3) := by decide +kernel
theorem dX7_isSign_4 : decode cX7_isSign 4 = .ok (.iconst 4, 1) := by decide +kernel
theorem dX7_isSign_5 : decode cX7_isSign 5 = .ok (.if_icmp .ne 22, 3) := by decide +kernel
theorem dX7_isSign_8 : decode cX7_isSign 8 = .ok (.aload_n 0, 1) := by decide +kernel
theorem dX7_isSign_9 : decode cX7_isSign 9 = .ok (.getfield 27, 3) := by decide +kernel
theorem dX7_isSign_12 : decode cX7_isSign 12 = .ok (.aload_n 0, 1) := by decide +kernel
theorem dX7_isSign_13 : decode cX7_isSign 13 = .ok (.getfield 15, 3) := by decide +kernel
theorem dX7_isSign_16 : decode cX7_isSign 16 = .ok (.invokevirtual 127, 3) := by decide +kernel
theorem dX7_isSign_19 : decode cX7_isSign 19 = .ok (.iload_n 1, 1) := by decide +kernel
theorem dX7_isSign_20 : decode cX7_isSign 20 = .ok (.if_icmp .ne 7, 3) := by decide +kernel
theorem dX7_isSign_23 : decode cX7_isSign 23 = .ok (.iconst 1, 1) := by decide +kernel
theorem dX7_isSign_24 : decode cX7_isSign 24 = .ok (.goto 4, 3) := by decide +kernel
theorem dX7_isSign_27 : decode cX7_isSign 27 = .ok (.iconst 0, 1) := by decide +kernel
theorem dX7_isSign_28 : decode cX7_isSign 28 = .ok (.ireturn, 1) := by decide +kernel
theorem dX7_isSmall_0 : decode cX7_isSmall 0 = .ok (.iload_n 0, 1) := by decide +kernel
theorem dX7_isSmall_1 : decode cX7_isSmall 1 = .ok (.bipush 97, 2) := by decide +kernel
theorem dX7_isSmall_3 : decode cX7_isSmall 3 = .ok (.if_icmp .lt 13, 3) := by decide +kernel
theorem dX7_isSmall_6 : decode cX7_isSmall 6 = .ok (.iload_n 0, 1) := by decide +kernel
theorem dX7_isSmall_7 : decode cX7_isSmall 7 = .ok (.bipush 122, 2) := by decide +kernel
theorem dX7_isSmall_9 : decode cX7_isSmall 9 = .ok (.if_icmp .gt 7, 3) := by decide +kernel
theorem dX7_isSmall_12 : decode cX7_isSmall 12 = .ok (.iconst 1, 1) := by decide +kernel
theorem dX7_isSmall_13 : decode cX7_isSmall 13 = .ok (.goto 4, 3) := by decide +kernel
theorem dX7_isSmall_16 : decode cX7_isSmall 16 = .ok (.iconst 0, 1) := by decide +kernel
theorem dX7_isSmall_17 : decode cX7_isSmall 17 = .ok (.ireturn, 1) := by decide +kernel
theorem dX7_readRun_0 : decode cX7_readRun 0 = .ok (.iconst 0, 1) := by decide +kernel
theorem dX7_readRun_1 : decode cX7_readRun 1 = .ok (.istore_n 1, 1) := by decide +kernel
theorem dX7_readRun_2 : decode cX7_readRun 2 = .ok (.iconst 0, 1) := by decide +kernel
theorem dX7_readRun_3 : decode cX7_readRun 3 = .ok (.istore_n 2, 1) := by decide +kernel
theorem dX7_readRun_4 : decode cX7_readRun 4 = .ok (.aload_n 0, 1) := by decide +kernel
theorem dX7_readRun_5 : decode cX7_readRun 5 = .ok (.aload_n 0, 1) := by decide +kernel
theorem dX7_readRun_6 : decode cX7_readRun 6 = .ok (.getfield 15, 3) := by decide +kernel
theorem dX7_readRun_9 : decode cX7_readRun 9 = .ok (.putfield 18, 3) := by decide +kernel
theorem dX7_readRun_12 : decode cX7_readRun 12 = .ok (.aload_n 0, 1) := by decide +kernel
theorem dX7_readRun_13 : decode cX7_readRun 13 = .ok (.getfield 18, 3) := by decide +kernel
theorem dX7_readRun_16 : decode cX7_readRun 16 = .ok (.sipush 800, 3) := by decide +kernel
theorem dX7_readRun_19 : decode cX7_readRun 19 = .ok (.if_icmp .ge 75, 3) := by decide +kernel
theorem dX7_readRun_22 : decode cX7_readRun 22 = .ok (.aload_n 0, 1) := by decide +kernel
theorem dX7_readRun_23 : decode cX7_readRun 23 = .ok (.getfield 27, 3) := by decide +kernel
theorem dX7_readRun_26 : decode cX7_readRun 26 = .ok (.aload_n 0, 1) := by decide +kernel
theorem dX7_readRun_27 : decode cX7_readRun 27 = .ok (.getfield 18, 3) := by decide +kernel
theorem dX7_readRun_30 : decode cX7_readRun 30 = .ok (.invokevirtual 127, 3) := by decide +kernel
theorem dX7_readRun_33 : decode cX7_readRun 33 = .ok (.istore_n 3, 1) := by decide +kernel
theorem dX7_readRun_34 : decode cX7_readRun 34 = .ok (.iload_n 3, 1) := by decide +kernel
theorem dX7_readRun_35 : decode cX7_readRun 35 = .ok (.invokestatic 152, 3) := by decide +kernel
theorem dX7_readRun_38 : decode cX7_readRun 38 = .ok (.ifCond .ne 13, 3) := by decide +kernel
theorem dX7_readRun_41 : decode cX7_readRun 41 = .ok (.iload_n 3, 1) := by decide +kernel
theorem dX7_readRun_42 : decode cX7_readRun 42 = .ok (.invokestatic 155, 3) := by decide +kernel
theorem dX7_readRun_45 : decode cX7_readRun 45 = .ok (.ifCond .ne 6, 3) := by decide +kernel
theorem dX7_readRun_48 : decode cX7_readRun 48 = .ok (.goto 46, 3) := by decide +kernel
theorem dX7_readRun_51 : decode cX7_readRun 51 = .ok (.iload_n 1, 1) := by decide +kernel
theorem dX7_readRun_52 : decode cX7_readRun 52 = .ok (.iload_n 3, 1) := by decide +kernel
theorem dX7_readRun_53 : decode cX7_readRun 53 = .ok (.invokestatic 152, 3) := by decide +kernel
theorem dX7_readRun_56 : decode cX7_readRun 56 = .ok (.ifCond .eq 7, 3) := by decide +kernel
theorem dX7_readRun_59 : decode cX7_readRun 59 = .ok (.iconst 1, 1) := by decide +kernel
theorem dX7_readRun_60 : decode cX7_readRun 60 = .ok (.goto 4, 3) := by decide +kernel
theorem dX7_readRun_63 : decode cX7_readRun 63 = .ok (.iconst 0, 1) := by decide +kernel
theorem dX7_readRun_64 : decode cX7_readRun 64 = .ok (.iadd, 1) := by decide +kernel
theorem dX7_readRun_65 : decode cX7_readRun 65 = .ok (.istore_n 1, 1) := by decide +kernel
theorem dX7_readRun_66 : decode cX7_readRun 66 = .ok (.iload_n 2, 1) := by decide +kernel
theorem dX7_readRun_67 : decode cX7_readRun 67 = .ok (.iload_n 3, 1) := by decide +kernel
theorem dX7_readRun_68 : decode cX7_readRun 68 = .ok (.invokestatic 161, 3) := by decide +kernel
theorem dX7_readRun_71 : decode cX7_readRun 71 = .ok (.ifCond .eq 7, 3) := by decide +kernel
theorem dX7_readRun_74 : decode cX7_readRun 74 = .ok (.iconst 1, 1) := by decide +kernel
theorem dX7_readRun_75 : decode cX7_readRun 75 = .ok (.goto 4, 3) := by decide +kernel
theorem dX7_readRun_78 : decode cX7_readRun 78 = .ok (.iconst 0, 1) := by decide +kernel
theorem dX7_readRun_79 : decode cX7_readRun 79 = .ok (.iadd, 1) := by decide +kernel
theorem dX7_readRun_80 : decode cX7_readRun 80 = .ok (.istore_n 2, 1) := by decide +kernel
theorem dX7_readRun_81 : decode cX7_readRun 81 = .ok (.aload_n 0, 1) := by decide +kernel
theorem dX7_readRun_82 : decode cX7_readRun 82 = .ok (.dup, 1) := by decide +kernel
theorem dX7_readRun_83 : decode cX7_readRun 83 = .ok (.getfield 18, 3) := by decide +kernel
theorem dX7_readRun_86 : decode cX7_readRun 86 = .ok (.iconst 1, 1) := by decide +kernel
theorem dX7_readRun_87 : decode cX7_readRun 87 = .ok (.iadd, 1) := by decide +kernel
theorem dX7_readRun_88 : decode cX7_readRun 88 = .ok (.putfield 18, 3) := by decide +kernel
theorem dX7_readRun_91 : decode cX7_readRun 91 = .ok (.goto (-79), 3) := by decide +kernel
theorem dX7_readRun_94 : decode cX7_readRun 94 = .ok (.aload_n 0, 1) := by decide +kernel
theorem dX7_readRun_95 : decode cX7_readRun 95 = .ok (.getfield 18, 3) := by decide +kernel
theorem dX7_readRun_98 : decode cX7_readRun 98 = .ok (.aload_n 0, 1) := by decide +kernel
theorem dX7_readRun_99 : decode cX7_readRun 99 = .ok (.getfield 15, 3) := by decide +kernel
theorem dX7_readRun_102 : decode cX7_readRun 102 = .ok (.isub, 1) := by decide +kernel
theorem dX7_readRun_103 : decode cX7_readRun 103 = .ok (.istore_n 3, 1) := by decide +kernel
theorem dX7_readRun_104 : decode cX7_readRun 104 = .ok (.iload_n 2, 1) := by decide +kernel
theorem dX7_readRun_105 : decode cX7_readRun 105 = .ok (.iload_n 3, 1) := by decide +kernel
theorem dX7_readRun_106 : decode cX7_readRun 106 = .ok (.if_icmp .ne 11, 3) := by decide +kernel
theorem dX7_readRun_109 : decode cX7_readRun 109 = .ok (.aload_n 0, 1) := by decide +kernel
theorem dX7_readRun_110 : decode cX7_readRun 110 = .ok (.iconst 2, 1) := by decide +kernel
theorem dX7_readRun_111 : decode cX7_readRun 111 = .ok (.putfield 11, 3) := by decide +kernel
theorem dX7_readRun_114 : decode cX7_readRun 114 = .ok (.goto 22, 3) := by decide +kernel
theorem dX7_readRun_117 : decode cX7_readRun 117 = .ok (.aload_n 0, 1) := by decide +kernel
theorem dX7_readRun_118 : decode cX7_readRun 118 = .ok (.iload_n 1, 1) := by decide +kernel
theorem dX7_readRun_119 : decode cX7_readRun 119 = .ok (.iload_n 3, 1) := by decide +kernel
theorem dX7_readRun_120 : decode cX7_readRun 120 = .ok (.if_icmp .ne 12, 3) := by decide +kernel
theorem dX7_readRun_123 : decode cX7_readRun 123 = .ok (.iload_n 3, 1) := by decide +kernel
theorem dX7_readRun_124 : decode cX7_readRun 124 = .ok (.iconst 4, 1) := by decide +kernel
theorem dX7_readRun_125 : decode cX7_readRun 125 = .ok (.if_icmp .gt 7, 3) := by decide +kernel
theorem dX7_readRun_128 : decode cX7_readRun 128 = .ok (.iconst 3, 1) := by decide +kernel
theorem dX7_readRun_129 : decode cX7_readRun 129 = .ok (.goto 4, 3) := by decide +kernel
theorem dX7_readRun_132 : decode cX7_readRun 132 = .ok (.iconst 1, 1) := by decide +kernel
theorem dX7_readRun_133 : decode cX7_readRun 133 = .ok (.putfield 11, 3) := by decide +kernel
theorem dX7_readRun_136 : decode cX7_readRun 136 = .ok (.return_, 1) := by decide +kernel
theorem dX8_append_0 : decode cX8_append 0 = .ok (.bipush 24, 2) := by decide +kernel
theorem dX8_append_2 : decode cX8_append 2 = .ok (.istore_n 2, 1) := by decide +kernel
theorem dX8_append_3 : decode cX8_append 3 = .ok (.iload_n 2, 1) := by decide +kernel
theorem dX8_append_4 : decode cX8_append 4 = .ok (.ifCond .lt 42, 3) := by decide +kernel
theorem dX8_append_7 : decode cX8_append 7 = .ok (.aload_n 0, 1) := by decide +kernel
theorem dX8_append_8 : decode cX8_append 8 = .ok (.getfield 15, 3) := by decide +kernel
theorem dX8_append_11 : decode cX8_append 11 = .ok (.sipush 800, 3) := by decide +kernel
theorem dX8_append_14 : decode cX8_append 14 = .ok (.if_icmp .ge 32, 3) := by decide +kernel
theorem dX8_append_17 : decode cX8_append 17 = .ok (.aload_n 0, 1) := by decide +kernel
theorem dX8_append_18 : decode cX8_append 18 = .ok (.getfield 9, 3) := by decide +kernel
theorem dX8_append_21 : decode cX8_append 21 = .ok (.aload_n 0, 1) := by decide +kernel
theorem dX8_append_22 : decode cX8_append 22 = .ok (.getfield 15, 3) := by decide +kernel
theorem dX8_append_25 : decode cX8_append 25 = .ok (.iload_n 1, 1) := by decide +kernel
theorem dX8_append_26 : decode cX8_append 26 = .ok (.iload_n 2, 1) := by decide +kernel
theorem dX8_append_27 : decode cX8_append 27 = .ok (.ishr, 1) := by decide +kernel
theorem dX8_append_28 : decode cX8_append 28 = .ok (.i2b, 1) := by decide +kernel
theorem dX8_append_29 : decode cX8_append 29 = .ok (.bastore, 1) := by decide +kernel
theorem dX8_append_30 : decode cX8_append 30 = .ok (.aload_n 0, 1) := by decide +kernel
theorem dX8_append_31 : decode cX8_append 31 = .ok (.dup, 1) := by decide +kernel
theorem dX8_append_32 : decode cX8_append 32 = .ok (.getfield 15, 3) := by decide +kernel
theorem dX8_append_35 : decode cX8_append 35 = .ok (.iconst 1, 1) := by decide +kernel
theorem dX8_append_36 : decode cX8_append 36 = .ok (.iadd, 1) := by decide +kernel
theorem dX8_append_37 : decode cX8_append 37 = .ok (.putfield 15, 3) := by decide +kernel
theorem dX8_append_40 : decode cX8_append 40 = .ok (.iinc 2 (-8), 3) := by decide +kernel
theorem dX8_append_43 : decode cX8_append 43 = .ok (.goto (-40), 3) := by decide +kernel
theorem dX8_append_46 : decode cX8_append 46 = .ok (.return_, 1) := by decide +kernel
set_option maxHeartbeats 4000000 in
set_option maxRecDepth 100000 in
/-- WellCourt$Tape.append -/
theorem s_X8_append (l : Launch) (G : va_G) (cy : Nat → ClassId) (sK sV : Nat → Nat) (ad : Nat → Nat → Nat) (sz : Nat) (st : gS)  (x : Int32)    (ht0 : 0 ≤ (st 1 0 1).toInt) (ht : (st 1 0 1).toInt ≤ 800) : gsMv l yX8_append cX8_append 3 ({ frames := 0, cells := 0, slots := 0, locals := 0 } : Room) G cy sK sV (shX cy ad) cnX ad sz [.ref (ad 1 0), .int x] st (fun (u : gS) => gN [1, 2] st u ∧ ((0 ≤ (u 1 0 1).toInt) ∧ ((u 1 0 1).toInt ≤ 800) ∧ ((st 1 0 1).toInt + 4 ≤ 800 → (u 1 0 1).toInt = (st 1 0 1).toInt + 4))) := by
  refine gs_start (fun A => gsQv G (shX cy ad) cnX ad _ A) (by decide) (Nat.le_of_ble_eq_true rfl) ?_
  intro p e s m below meth c A ls H hx hb hr hml hlocks hown hts hK hov hE hI hM hm hS hA hl
  have hl : lv_has ls 3 [(0, .ref (ad 1 0)), (1, .int x)] := hl
  refine lv_bipush (v := 24) hx hb dX8_append_0 (by decide) ?_
  refine lv_istore_n (lv' := [(2, .int 24), (0, .ref (ad 1 0)), (1, .int x)]) hx hb dX8_append_2 rfl hl (by decide) rfl (fun ls hl => ?_)
  refine lv_iload_n hx hb dX8_append_3 rfl (lv_at hl 0 rfl) ?_
  refine lv_if_lt (tgt := 46) hx hb dX8_append_4 (by decide) (fun h9 => absurd h9 (by decide)) (fun _ => ?_)
  refine lv_aload_n hx hb dX8_append_7 rfl (lv_at hl 1 rfl) ?_
  refine gs_get (C := RX8) (T := TX8) (N := 2) hx hb hts inX8 hown hK hM 1 0 1 (by decide) rfl rfl (by decide) (hts _ gm_39) (fun _ h9 => h9) rfl dX8_append_8 ?_
  refine lv_sipush (v := 800) hx hb dX8_append_11 (by decide) ?_
  refine lv_icmp_ge (tgt := 46) hx hb dX8_append_14 (by decide) (fun c_1 => ?_) (fun c_1 => ?_)
  · have ic_1 := gz_le (by decide : (800 : Int32).toInt = 800) (rfl : (st 1 0 1).toInt = (st 1 0 1).toInt) c_1
    exact gs_vret hx hb hr hlocks hM hS ⟨gN.rf, (by omega), (by omega), (by omega)⟩ (by exact Nat.le_refl _) (by exact Nat.le_refl _) dX8_append_46
  · have ic_1 := gz_nle (by decide : (800 : Int32).toInt = 800) (rfl : (st 1 0 1).toInt = (st 1 0 1).toInt) c_1
    refine lv_aload_n hx hb dX8_append_17 rfl (lv_at hl 1 rfl) ?_
    refine gs_get (C := RX8) (T := TX8) (N := 2) hx hb hts inX8 hown hK hM 1 0 0 (by decide) rfl rfl (by decide) (hts _ gm_38) (fun _ h9 => h9) rfl dX8_append_18 ?_
    refine lv_aload_n hx hb dX8_append_21 rfl (lv_at hl 1 rfl) ?_
    refine gs_get (C := RX8) (T := TX8) (N := 2) hx hb hts inX8 hown hK hM 1 0 1 (by decide) rfl rfl (by decide) (hts _ gm_39) (fun _ h9 => h9) rfl dX8_append_22 ?_
    refine lv_iload_n hx hb dX8_append_25 rfl (lv_at hl 2 rfl) ?_
    refine lv_iload_n hx hb dX8_append_26 rfl (lv_at hl 0 rfl) ?_
    refine lv_ishr hx hb dX8_append_27 ?_
    refine lv_topi (fun x_2 ex_2 => ?_)
    obtain ⟨x_3, ex_3⟩ : ∃ y : Int32, x_2.toInt8.toInt32 = y := ⟨_, rfl⟩
    refine lv_i2b hx hb dX8_append_28 ex_3 ?_
    refine gs_bast hx hb hK hI hm hM hS 2 0 (by decide) (fun _ => rfl) (vp_in_iff.mpr ⟨by omega, by omega⟩) dX8_append_29 (fun st_4 H locs est_4 hM hS => ?_)
    refine lv_aload_n hx hb dX8_append_30 rfl (lv_at hl 1 rfl) ?_
    refine lv_dup hx hb dX8_append_31 rfl ?_
    refine gs_get (C := RX8) (T := TX8) (N := 2) hx hb hts inX8 hown hK hM 1 0 1 (by decide) rfl rfl (by decide) (hts _ gm_39) (fun _ h9 => h9) rfl dX8_append_32 ?_
    refine lv_topi (fun x_5 ex_5 => ?_)
    have ex_5 : (st 1 0 1) = x_5 := Eq.symm (ex_5.trans ((congrFun (congrFun (congrFun est_4 1) 0) 1).trans (congrFun (congrFun (gU_k (by decide)) 0) 1)))
    subst ex_5
    refine lv_iconst (v := 1) hx hb dX8_append_35 (by decide) ?_
    refine lv_iadd hx hb dX8_append_36 ?_
    refine lv_topi (fun x_6 ex_6 => ?_)
    have tx_6 : x_6.toInt = (st 1 0 1).toInt + 1 := by rw [ex_6]; exact gz_addP rfl (by decide) (by omega) (by omega)
    refine gs_put (C := RX8) (T := TX8) (N := 2) (ty := .int) (val := .int x_6) hx hb hts inX8 tyX8 tyX8_ok nmX8 hown hK hI hm hM hS 1 0 1 (by decide) rfl rfl (by decide) (hts _ gm_39) (fun _ h9 => h9) rfl (x_6 : Int32) rfl (by decide +kernel) rfl rfl (Nat.le_of_ble_eq_true rfl) dX8_append_37 (fun st_7 H locs est_7 hM hS => ?_)
    refine lv_iinc (v := (16)) (lv' := [(2, .int 16), (0, .ref (ad 1 0)), (1, .int x)]) hx hb dX8_append_40 hl (k := 0) rfl (by decide) (by decide) rfl (fun ls hl => ?_)
    refine lv_goto (tgt := 3) hx hb dX8_append_43 (by decide) ?_
    refine lv_iload_n hx hb dX8_append_3 rfl (lv_at hl 0 rfl) ?_
    refine lv_if_lt (tgt := 46) hx hb dX8_append_4 (by decide) (fun h9 => absurd h9 (by decide)) (fun _ => ?_)
    refine lv_aload_n hx hb dX8_append_7 rfl (lv_at hl 1 rfl) ?_
    refine gs_get (C := RX8) (T := TX8) (N := 2) hx hb hts inX8 hown hK hM 1 0 1 (by decide) rfl rfl (by decide) (hts _ gm_39) (fun _ h9 => h9) rfl dX8_append_8 ?_
    refine lv_topi (fun x_8 ex_8 => ?_)
    have ex_8 : x_6 = x_8 := Eq.symm (ex_8.trans ((congrFun (congrFun (congrFun est_7 1) 0) 1).trans (gU_same _ _ _ _ _)))
    subst ex_8
    refine lv_sipush (v := 800) hx hb dX8_append_11 (by decide) ?_
    refine lv_icmp_ge (tgt := 46) hx hb dX8_append_14 (by decide) (fun c_9 => ?_) (fun c_9 => ?_)
    · have ic_9 := gz_le (by decide : (800 : Int32).toInt = 800) (rfl : x_6.toInt = x_6.toInt) c_9
      exact gs_vret hx hb hr hlocks hM hS ⟨(by rw [est_7]; exact gN.up (by rw [est_4]; exact gN.up gN.rf (by decide)) (by decide)), (by have hq0 : st_7 1 0 1 = x_6 := ((congrFun (congrFun (congrFun est_7 1) 0) 1).trans (gU_same _ _ _ _ _)); rw [hq0]; omega), (by have hq0 : st_7 1 0 1 = x_6 := ((congrFun (congrFun (congrFun est_7 1) 0) 1).trans (gU_same _ _ _ _ _)); rw [hq0]; omega), (by have hq0 : st_7 1 0 1 = x_6 := ((congrFun (congrFun (congrFun est_7 1) 0) 1).trans (gU_same _ _ _ _ _)); rw [hq0]; omega)⟩ (by exact Nat.le_refl _) (by exact Nat.le_refl _) dX8_append_46
    · have ic_9 := gz_nle (by decide : (800 : Int32).toInt = 800) (rfl : x_6.toInt = x_6.toInt) c_9
      refine lv_aload_n hx hb dX8_append_17 rfl (lv_at hl 1 rfl) ?_
      refine gs_get (C := RX8) (T := TX8) (N := 2) hx hb hts inX8 hown hK hM 1 0 0 (by decide) rfl rfl (by decide) (hts _ gm_38) (fun _ h9 => h9) rfl dX8_append_18 ?_
      refine lv_aload_n hx hb dX8_append_21 rfl (lv_at hl 1 rfl) ?_
      refine gs_get (C := RX8) (T := TX8) (N := 2) hx hb hts inX8 hown hK hM 1 0 1 (by decide) rfl rfl (by decide) (hts _ gm_39) (fun _ h9 => h9) rfl dX8_append_22 ?_
      refine lv_topi (fun x_10 ex_10 => ?_)
      have ex_10 : x_6 = x_10 := Eq.symm (ex_10.trans ((congrFun (congrFun (congrFun est_7 1) 0) 1).trans (gU_same _ _ _ _ _)))
      subst ex_10
      refine lv_iload_n hx hb dX8_append_25 rfl (lv_at hl 2 rfl) ?_
      refine lv_iload_n hx hb dX8_append_26 rfl (lv_at hl 0 rfl) ?_
      refine lv_ishr hx hb dX8_append_27 ?_
      refine lv_topi (fun x_11 ex_11 => ?_)
      obtain ⟨x_12, ex_12⟩ : ∃ y : Int32, x_11.toInt8.toInt32 = y := ⟨_, rfl⟩
      refine lv_i2b hx hb dX8_append_28 ex_12 ?_
      refine gs_bast hx hb hK hI hm hM hS 2 0 (by decide) (fun _ => rfl) (vp_in_iff.mpr ⟨by omega, by omega⟩) dX8_append_29 (fun st_13 H locs est_13 hM hS => ?_)
      refine lv_aload_n hx hb dX8_append_30 rfl (lv_at hl 1 rfl) ?_
      refine lv_dup hx hb dX8_append_31 rfl ?_
      refine gs_get (C := RX8) (T := TX8) (N := 2) hx hb hts inX8 hown hK hM 1 0 1 (by decide) rfl rfl (by decide) (hts _ gm_39) (fun _ h9 => h9) rfl dX8_append_32 ?_
      refine lv_topi (fun x_14 ex_14 => ?_)
      have ex_14 : x_6 = x_14 := Eq.symm (ex_14.trans (((congrFun (congrFun (congrFun est_13 1) 0) 1).trans (congrFun (congrFun (gU_k (by decide)) 0) 1)).trans ((congrFun (congrFun (congrFun est_7 1) 0) 1).trans (gU_same _ _ _ _ _))))
      subst ex_14
      refine lv_iconst (v := 1) hx hb dX8_append_35 (by decide) ?_
      refine lv_iadd hx hb dX8_append_36 ?_
      refine lv_topi (fun x_15 ex_15 => ?_)
      have tx_15 : x_15.toInt = x_6.toInt + 1 := by rw [ex_15]; exact gz_addP rfl (by decide) (by omega) (by omega)
      refine gs_put (C := RX8) (T := TX8) (N := 2) (ty := .int) (val := .int x_15) hx hb hts inX8 tyX8 tyX8_ok nmX8 hown hK hI hm hM hS 1 0 1 (by decide) rfl rfl (by decide) (hts _ gm_39) (fun _ h9 => h9) rfl (x_15 : Int32) rfl (by decide +kernel) rfl rfl (Nat.le_of_ble_eq_true rfl) dX8_append_37 (fun st_16 H locs est_16 hM hS => ?_)
      refine lv_iinc (v := (8)) (lv' := [(2, .int 8), (0, .ref (ad 1 0)), (1, .int x)]) hx hb dX8_append_40 hl (k := 0) rfl (by decide) (by decide) rfl (fun ls hl => ?_)
      refine lv_goto (tgt := 3) hx hb dX8_append_43 (by decide) ?_
      refine lv_iload_n hx hb dX8_append_3 rfl (lv_at hl 0 rfl) ?_
      refine lv_if_lt (tgt := 46) hx hb dX8_append_4 (by decide) (fun h9 => absurd h9 (by decide)) (fun _ => ?_)
      refine lv_aload_n hx hb dX8_append_7 rfl (lv_at hl 1 rfl) ?_
      refine gs_get (C := RX8) (T := TX8) (N := 2) hx hb hts inX8 hown hK hM 1 0 1 (by decide) rfl rfl (by decide) (hts _ gm_39) (fun _ h9 => h9) rfl dX8_append_8 ?_
      refine lv_topi (fun x_17 ex_17 => ?_)
      have ex_17 : x_15 = x_17 := Eq.symm (ex_17.trans ((congrFun (congrFun (congrFun est_16 1) 0) 1).trans (gU_same _ _ _ _ _)))
      subst ex_17
      refine lv_sipush (v := 800) hx hb dX8_append_11 (by decide) ?_
      refine lv_icmp_ge (tgt := 46) hx hb dX8_append_14 (by decide) (fun c_18 => ?_) (fun c_18 => ?_)
      · have ic_18 := gz_le (by decide : (800 : Int32).toInt = 800) (rfl : x_15.toInt = x_15.toInt) c_18
        exact gs_vret hx hb hr hlocks hM hS ⟨(by rw [est_16]; exact gN.up (by rw [est_13]; exact gN.up (by rw [est_7]; exact gN.up (by rw [est_4]; exact gN.up gN.rf (by decide)) (by decide)) (by decide)) (by decide)), (by have hq0 : st_16 1 0 1 = x_15 := ((congrFun (congrFun (congrFun est_16 1) 0) 1).trans (gU_same _ _ _ _ _)); rw [hq0]; omega), (by have hq0 : st_16 1 0 1 = x_15 := ((congrFun (congrFun (congrFun est_16 1) 0) 1).trans (gU_same _ _ _ _ _)); rw [hq0]; omega), (by have hq0 : st_16 1 0 1 = x_15 := ((congrFun (congrFun (congrFun est_16 1) 0) 1).trans (gU_same _ _ _ _ _)); rw [hq0]; omega)⟩ (by exact Nat.le_refl _) (by exact Nat.le_refl _) dX8_append_46
      · have ic_18 := gz_nle (by decide : (800 : Int32).toInt = 800) (rfl : x_15.toInt = x_15.toInt) c_18
        refine lv_aload_n hx hb dX8_append_17 rfl (lv_at hl 1 rfl) ?_
        refine gs_get (C := RX8) (T := TX8) (N := 2) hx hb hts inX8 hown hK hM 1 0 0 (by decide) rfl rfl (by decide) (hts _ gm_38) (fun _ h9 => h9) rfl dX8_append_18 ?_
        refine lv_aload_n hx hb dX8_append_21 rfl (lv_at hl 1 rfl) ?_
        refine gs_get (C := RX8) (T := TX8) (N := 2) hx hb hts inX8 hown hK hM 1 0 1 (by decide) rfl rfl (by decide) (hts _ gm_39) (fun _ h9 => h9) rfl dX8_append_22 ?_
        refine lv_topi (fun x_19 ex_19 => ?_)
        have ex_19 : x_15 = x_19 := Eq.symm (ex_19.trans ((congrFun (congrFun (congrFun est_16 1) 0) 1).trans (gU_same _ _ _ _ _)))
        subst ex_19
        refine lv_iload_n hx hb dX8_append_25 rfl (lv_at hl 2 rfl) ?_
        refine lv_iload_n hx hb dX8_append_26 rfl (lv_at hl 0 rfl) ?_
        refine lv_ishr hx hb dX8_append_27 ?_
        refine lv_topi (fun x_20 ex_20 => ?_)
        obtain ⟨x_21, ex_21⟩ : ∃ y : Int32, x_20.toInt8.toInt32 = y := ⟨_, rfl⟩
        refine lv_i2b hx hb dX8_append_28 ex_21 ?_
        refine gs_bast hx hb hK hI hm hM hS 2 0 (by decide) (fun _ => rfl) (vp_in_iff.mpr ⟨by omega, by omega⟩) dX8_append_29 (fun st_22 H locs est_22 hM hS => ?_)
        refine lv_aload_n hx hb dX8_append_30 rfl (lv_at hl 1 rfl) ?_
        refine lv_dup hx hb dX8_append_31 rfl ?_
        refine gs_get (C := RX8) (T := TX8) (N := 2) hx hb hts inX8 hown hK hM 1 0 1 (by decide) rfl rfl (by decide) (hts _ gm_39) (fun _ h9 => h9) rfl dX8_append_32 ?_
        refine lv_topi (fun x_23 ex_23 => ?_)
        have ex_23 : x_15 = x_23 := Eq.symm (ex_23.trans (((congrFun (congrFun (congrFun est_22 1) 0) 1).trans (congrFun (congrFun (gU_k (by decide)) 0) 1)).trans ((congrFun (congrFun (congrFun est_16 1) 0) 1).trans (gU_same _ _ _ _ _))))
        subst ex_23
        refine lv_iconst (v := 1) hx hb dX8_append_35 (by decide) ?_
        refine lv_iadd hx hb dX8_append_36 ?_
        refine lv_topi (fun x_24 ex_24 => ?_)
        have tx_24 : x_24.toInt = x_15.toInt + 1 := by rw [ex_24]; exact gz_addP rfl (by decide) (by omega) (by omega)
        refine gs_put (C := RX8) (T := TX8) (N := 2) (ty := .int) (val := .int x_24) hx hb hts inX8 tyX8 tyX8_ok nmX8 hown hK hI hm hM hS 1 0 1 (by decide) rfl rfl (by decide) (hts _ gm_39) (fun _ h9 => h9) rfl (x_24 : Int32) rfl (by decide +kernel) rfl rfl (Nat.le_of_ble_eq_true rfl) dX8_append_37 (fun st_25 H locs est_25 hM hS => ?_)
        refine lv_iinc (v := (0)) (lv' := [(2, .int 0), (0, .ref (ad 1 0)), (1, .int x)]) hx hb dX8_append_40 hl (k := 0) rfl (by decide) (by decide) rfl (fun ls hl => ?_)
        refine lv_goto (tgt := 3) hx hb dX8_append_43 (by decide) ?_
        refine lv_iload_n hx hb dX8_append_3 rfl (lv_at hl 0 rfl) ?_
        refine lv_if_lt (tgt := 46) hx hb dX8_append_4 (by decide) (fun h9 => absurd h9 (by decide)) (fun _ => ?_)
        refine lv_aload_n hx hb dX8_append_7 rfl (lv_at hl 1 rfl) ?_
        refine gs_get (C := RX8) (T := TX8) (N := 2) hx hb hts inX8 hown hK hM 1 0 1 (by decide) rfl rfl (by decide) (hts _ gm_39) (fun _ h9 => h9) rfl dX8_append_8 ?_
        refine lv_topi (fun x_26 ex_26 => ?_)
        have ex_26 : x_24 = x_26 := Eq.symm (ex_26.trans ((congrFun (congrFun (congrFun est_25 1) 0) 1).trans (gU_same _ _ _ _ _)))
        subst ex_26
        refine lv_sipush (v := 800) hx hb dX8_append_11 (by decide) ?_
        refine lv_icmp_ge (tgt := 46) hx hb dX8_append_14 (by decide) (fun c_27 => ?_) (fun c_27 => ?_)
        · have ic_27 := gz_le (by decide : (800 : Int32).toInt = 800) (rfl : x_24.toInt = x_24.toInt) c_27
          exact gs_vret hx hb hr hlocks hM hS ⟨(by rw [est_25]; exact gN.up (by rw [est_22]; exact gN.up (by rw [est_16]; exact gN.up (by rw [est_13]; exact gN.up (by rw [est_7]; exact gN.up (by rw [est_4]; exact gN.up gN.rf (by decide)) (by decide)) (by decide)) (by decide)) (by decide)) (by decide)), (by have hq0 : st_25 1 0 1 = x_24 := ((congrFun (congrFun (congrFun est_25 1) 0) 1).trans (gU_same _ _ _ _ _)); rw [hq0]; omega), (by have hq0 : st_25 1 0 1 = x_24 := ((congrFun (congrFun (congrFun est_25 1) 0) 1).trans (gU_same _ _ _ _ _)); rw [hq0]; omega), (by have hq0 : st_25 1 0 1 = x_24 := ((congrFun (congrFun (congrFun est_25 1) 0) 1).trans (gU_same _ _ _ _ _)); rw [hq0]; omega)⟩ (by exact Nat.le_refl _) (by exact Nat.le_refl _) dX8_append_46
        · have ic_27 := gz_nle (by decide : (800 : Int32).toInt = 800) (rfl : x_24.toInt = x_24.toInt) c_27
          refine lv_aload_n hx hb dX8_append_17 rfl (lv_at hl 1 rfl) ?_
          refine gs_get (C := RX8) (T := TX8) (N := 2) hx hb hts inX8 hown hK hM 1 0 0 (by decide) rfl rfl (by decide) (hts _ gm_38) (fun _ h9 => h9) rfl dX8_append_18 ?_
          refine lv_aload_n hx hb dX8_append_21 rfl (lv_at hl 1 rfl) ?_
          refine gs_get (C := RX8) (T := TX8) (N := 2) hx hb hts inX8 hown hK hM 1 0 1 (by decide) rfl rfl (by decide) (hts _ gm_39) (fun _ h9 => h9) rfl dX8_append_22 ?_
          refine lv_topi (fun x_28 ex_28 => ?_)
          have ex_28 : x_24 = x_28 := Eq.symm (ex_28.trans ((congrFun (congrFun (congrFun est_25 1) 0) 1).trans (gU_same _ _ _ _ _)))
          subst ex_28
          refine lv_iload_n hx hb dX8_append_25 rfl (lv_at hl 2 rfl) ?_
          refine lv_iload_n hx hb dX8_append_26 rfl (lv_at hl 0 rfl) ?_
          refine lv_ishr hx hb dX8_append_27 ?_
          refine lv_topi (fun x_29 ex_29 => ?_)
          obtain ⟨x_30, ex_30⟩ : ∃ y : Int32, x_29.toInt8.toInt32 = y := ⟨_, rfl⟩
          refine lv_i2b hx hb dX8_append_28 ex_30 ?_
          refine gs_bast hx hb hK hI hm hM hS 2 0 (by decide) (fun _ => rfl) (vp_in_iff.mpr ⟨by omega, by omega⟩) dX8_append_29 (fun st_31 H locs est_31 hM hS => ?_)
          refine lv_aload_n hx hb dX8_append_30 rfl (lv_at hl 1 rfl) ?_
          refine lv_dup hx hb dX8_append_31 rfl ?_
          refine gs_get (C := RX8) (T := TX8) (N := 2) hx hb hts inX8 hown hK hM 1 0 1 (by decide) rfl rfl (by decide) (hts _ gm_39) (fun _ h9 => h9) rfl dX8_append_32 ?_
          refine lv_topi (fun x_32 ex_32 => ?_)
          have ex_32 : x_24 = x_32 := Eq.symm (ex_32.trans (((congrFun (congrFun (congrFun est_31 1) 0) 1).trans (congrFun (congrFun (gU_k (by decide)) 0) 1)).trans ((congrFun (congrFun (congrFun est_25 1) 0) 1).trans (gU_same _ _ _ _ _))))
          subst ex_32
          refine lv_iconst (v := 1) hx hb dX8_append_35 (by decide) ?_
          refine lv_iadd hx hb dX8_append_36 ?_
          refine lv_topi (fun x_33 ex_33 => ?_)
          have tx_33 : x_33.toInt = x_24.toInt + 1 := by rw [ex_33]; exact gz_addP rfl (by decide) (by omega) (by omega)
          refine gs_put (C := RX8) (T := TX8) (N := 2) (ty := .int) (val := .int x_33) hx hb hts inX8 tyX8 tyX8_ok nmX8 hown hK hI hm hM hS 1 0 1 (by decide) rfl rfl (by decide) (hts _ gm_39) (fun _ h9 => h9) rfl (x_33 : Int32) rfl (by decide +kernel) rfl rfl (Nat.le_of_ble_eq_true rfl) dX8_append_37 (fun st_34 H locs est_34 hM hS => ?_)
          refine lv_iinc (v := ((-8))) (lv' := [(2, .int (-8)), (0, .ref (ad 1 0)), (1, .int x)]) hx hb dX8_append_40 hl (k := 0) rfl (by decide) (by decide) rfl (fun ls hl => ?_)
          refine lv_goto (tgt := 3) hx hb dX8_append_43 (by decide) ?_
          refine lv_iload_n hx hb dX8_append_3 rfl (lv_at hl 0 rfl) ?_
          refine lv_if_lt (tgt := 46) hx hb dX8_append_4 (by decide) (fun _ => ?_) (fun h9 => absurd (by decide) h9)
          exact gs_vret hx hb hr hlocks hM hS ⟨(by rw [est_34]; exact gN.up (by rw [est_31]; exact gN.up (by rw [est_25]; exact gN.up (by rw [est_22]; exact gN.up (by rw [est_16]; exact gN.up (by rw [est_13]; exact gN.up (by rw [est_7]; exact gN.up (by rw [est_4]; exact gN.up gN.rf (by decide)) (by decide)) (by decide)) (by decide)) (by decide)) (by decide)) (by decide)) (by decide)), (by have hq0 : st_34 1 0 1 = x_33 := ((congrFun (congrFun (congrFun est_34 1) 0) 1).trans (gU_same _ _ _ _ _)); rw [hq0]; omega), (by have hq0 : st_34 1 0 1 = x_33 := ((congrFun (congrFun (congrFun est_34 1) 0) 1).trans (gU_same _ _ _ _ _)); rw [hq0]; omega), (by have hq0 : st_34 1 0 1 = x_33 := ((congrFun (congrFun (congrFun est_34 1) 0) 1).trans (gU_same _ _ _ _ _)); rw [hq0]; omega)⟩ (by exact Nat.le_refl _) (by exact Nat.le_refl _) dX8_append_46

set_option maxHeartbeats 4000000 in
set_option maxRecDepth 100000 in
/-- WellCourt$Reader.isBlank -/
theorem s_X7_isBlank (l : Launch) (G : va_G) (cy : Nat → ClassId) (sK sV : Nat → Nat) (ad : Nat → Nat → Nat) (sz : Nat) (st : gS)  (x : Int32) (Xx : Int) (kx : x.toInt = Xx)   : gsMi l yX7_isBlank cX7_isBlank 1 (some .boolean) ({ frames := 0, cells := 0, slots := 0, locals := 0 } : Room) G cy sK sV (shX cy ad) cnX ad sz [.int x] st (fun (r : Int32) (u : gS) => gN [] st u ∧ ((r = 1 ∧ (Xx = 32 ∨ Xx = 10)) ∨ (r = 0 ∧ (¬ Xx = 32) ∧ (¬ Xx = 10)))) := by
  refine gs_start (fun A => gsQi G (shX cy ad) cnX ad _ A) (by decide) (Nat.le_of_ble_eq_true rfl) ?_
  intro p e s m below meth c A ls H hx hb hr hml hlocks hown hts hK hov hE hI hM hm hS hA hl
  have hl : lv_has ls 1 [(0, .int x)] := hl
  refine lv_iload_n hx hb dX7_isBlank_0 rfl (lv_at hl 0 rfl) ?_
  refine lv_bipush (v := 32) hx hb dX7_isBlank_1 (by decide) ?_
  refine lv_icmp_eq (tgt := 12) hx hb dX7_isBlank_3 (by decide) (fun c_1 => ?_) (fun c_1 => ?_)
  · have ic_1 := gz_eq (rfl : x.toInt = x.toInt) (by decide : (32 : Int32).toInt = 32) c_1
    refine lv_iconst (v := 1) hx hb dX7_isBlank_12 (by decide) ?_
    refine lv_goto (tgt := 17) hx hb dX7_isBlank_13 (by decide) ?_
    exact gs_iret hx hb hr hlocks hM hS (by decide) ⟨gN.rf, (Or.inl (⟨rfl, (by have hl9 : (1 : Int32).toInt = 1 := (by decide); omega)⟩))⟩ (by exact Nat.le_refl _) (by exact Nat.le_refl _) dX7_isBlank_17
  · have ic_1 := gz_ne (rfl : x.toInt = x.toInt) (by decide : (32 : Int32).toInt = 32) c_1
    refine lv_iload_n hx hb dX7_isBlank_6 rfl (lv_at hl 0 rfl) ?_
    refine lv_bipush (v := 10) hx hb dX7_isBlank_7 (by decide) ?_
    refine lv_icmp_ne (tgt := 16) hx hb dX7_isBlank_9 (by decide) (fun c_2 => ?_) (fun c_2 => ?_)
    · have ic_2 := gz_ne (rfl : x.toInt = x.toInt) (by decide : (10 : Int32).toInt = 10) c_2
      refine lv_iconst (v := 0) hx hb dX7_isBlank_16 (by decide) ?_
      exact gs_iret hx hb hr hlocks hM hS (by decide) ⟨gN.rf, (Or.inr (⟨rfl, (by have hl9 : (0 : Int32).toInt = 0 := (by decide); omega), (by have hl9 : (0 : Int32).toInt = 0 := (by decide); omega)⟩))⟩ (by exact Nat.le_refl _) (by exact Nat.le_refl _) dX7_isBlank_17
    · have ic_2 := gz_eqn (rfl : x.toInt = x.toInt) (by decide : (10 : Int32).toInt = 10) c_2
      refine lv_iconst (v := 1) hx hb dX7_isBlank_12 (by decide) ?_
      refine lv_goto (tgt := 17) hx hb dX7_isBlank_13 (by decide) ?_
      exact gs_iret hx hb hr hlocks hM hS (by decide) ⟨gN.rf, (Or.inl (⟨rfl, (by have hl9 : (1 : Int32).toInt = 1 := (by decide); omega)⟩))⟩ (by exact Nat.le_refl _) (by exact Nat.le_refl _) dX7_isBlank_17

set_option maxHeartbeats 4000000 in
set_option maxRecDepth 100000 in
/-- WellCourt$Reader.isDigit -/
theorem s_X7_isDigit (l : Launch) (G : va_G) (cy : Nat → ClassId) (sK sV : Nat → Nat) (ad : Nat → Nat → Nat) (sz : Nat) (st : gS)  (x : Int32) (Xx : Int) (kx : x.toInt = Xx)   : gsMi l yX7_isDigit cX7_isDigit 1 (some .boolean) ({ frames := 0, cells := 0, slots := 0, locals := 0 } : Room) G cy sK sV (shX cy ad) cnX ad sz [.int x] st (fun (r : Int32) (u : gS) => gN [] st u ∧ ((r = 1 ∧ (48 ≤ Xx) ∧ (Xx ≤ 57)) ∨ (r = 0 ∧ (Xx < 48 ∨ 57 < Xx)))) := by
  refine gs_start (fun A => gsQi G (shX cy ad) cnX ad _ A) (by decide) (Nat.le_of_ble_eq_true rfl) ?_
  intro p e s m below meth c A ls H hx hb hr hml hlocks hown hts hK hov hE hI hM hm hS hA hl
  have hl : lv_has ls 1 [(0, .int x)] := hl
  refine lv_iload_n hx hb dX7_isDigit_0 rfl (lv_at hl 0 rfl) ?_
  refine lv_bipush (v := 48) hx hb dX7_isDigit_1 (by decide) ?_
  refine lv_icmp_lt (tgt := 16) hx hb dX7_isDigit_3 (by decide) (fun c_1 => ?_) (fun c_1 => ?_)
  · have ic_1 := gz_lt (rfl : x.toInt = x.toInt) (by decide : (48 : Int32).toInt = 48) c_1
    refine lv_iconst (v := 0) hx hb dX7_isDigit_16 (by decide) ?_
    exact gs_iret hx hb hr hlocks hM hS (by decide) ⟨gN.rf, (Or.inr (⟨rfl, (by have hl9 : (0 : Int32).toInt = 0 := (by decide); omega)⟩))⟩ (by exact Nat.le_refl _) (by exact Nat.le_refl _) dX7_isDigit_17
  · have ic_1 := gz_nlt (rfl : x.toInt = x.toInt) (by decide : (48 : Int32).toInt = 48) c_1
    refine lv_iload_n hx hb dX7_isDigit_6 rfl (lv_at hl 0 rfl) ?_
    refine lv_bipush (v := 57) hx hb dX7_isDigit_7 (by decide) ?_
    refine lv_icmp_gt (tgt := 16) hx hb dX7_isDigit_9 (by decide) (fun c_2 => ?_) (fun c_2 => ?_)
    · have ic_2 := gz_lt (by decide : (57 : Int32).toInt = 57) (rfl : x.toInt = x.toInt) c_2
      refine lv_iconst (v := 0) hx hb dX7_isDigit_16 (by decide) ?_
      exact gs_iret hx hb hr hlocks hM hS (by decide) ⟨gN.rf, (Or.inr (⟨rfl, (by have hl9 : (0 : Int32).toInt = 0 := (by decide); omega)⟩))⟩ (by exact Nat.le_refl _) (by exact Nat.le_refl _) dX7_isDigit_17
    · have ic_2 := gz_nlt (by decide : (57 : Int32).toInt = 57) (rfl : x.toInt = x.toInt) c_2
      refine lv_iconst (v := 1) hx hb dX7_isDigit_12 (by decide) ?_
      refine lv_goto (tgt := 17) hx hb dX7_isDigit_13 (by decide) ?_
      exact gs_iret hx hb hr hlocks hM hS (by decide) ⟨gN.rf, (Or.inl (⟨rfl, (by have hl9 : (1 : Int32).toInt = 1 := (by decide); omega), (by have hl9 : (1 : Int32).toInt = 1 := (by decide); omega)⟩))⟩ (by exact Nat.le_refl _) (by exact Nat.le_refl _) dX7_isDigit_17

set_option maxHeartbeats 4000000 in
set_option maxRecDepth 100000 in
/-- WellCourt$Reader.isSmall -/
theorem s_X7_isSmall (l : Launch) (G : va_G) (cy : Nat → ClassId) (sK sV : Nat → Nat) (ad : Nat → Nat → Nat) (sz : Nat) (st : gS)  (x : Int32) (Xx : Int) (kx : x.toInt = Xx)   : gsMi l yX7_isSmall cX7_isSmall 1 (some .boolean) ({ frames := 0, cells := 0, slots := 0, locals := 0 } : Room) G cy sK sV (shX cy ad) cnX ad sz [.int x] st (fun (r : Int32) (u : gS) => gN [] st u ∧ ((r = 1 ∧ (97 ≤ Xx) ∧ (Xx ≤ 122)) ∨ (r = 0 ∧ (Xx < 97 ∨ 122 < Xx)))) := by
  refine gs_start (fun A => gsQi G (shX cy ad) cnX ad _ A) (by decide) (Nat.le_of_ble_eq_true rfl) ?_
  intro p e s m below meth c A ls H hx hb hr hml hlocks hown hts hK hov hE hI hM hm hS hA hl
  have hl : lv_has ls 1 [(0, .int x)] := hl
  refine lv_iload_n hx hb dX7_isSmall_0 rfl (lv_at hl 0 rfl) ?_
  refine lv_bipush (v := 97) hx hb dX7_isSmall_1 (by decide) ?_
  refine lv_icmp_lt (tgt := 16) hx hb dX7_isSmall_3 (by decide) (fun c_1 => ?_) (fun c_1 => ?_)
  · have ic_1 := gz_lt (rfl : x.toInt = x.toInt) (by decide : (97 : Int32).toInt = 97) c_1
    refine lv_iconst (v := 0) hx hb dX7_isSmall_16 (by decide) ?_
    exact gs_iret hx hb hr hlocks hM hS (by decide) ⟨gN.rf, (Or.inr (⟨rfl, (by have hl9 : (0 : Int32).toInt = 0 := (by decide); omega)⟩))⟩ (by exact Nat.le_refl _) (by exact Nat.le_refl _) dX7_isSmall_17
  · have ic_1 := gz_nlt (rfl : x.toInt = x.toInt) (by decide : (97 : Int32).toInt = 97) c_1
    refine lv_iload_n hx hb dX7_isSmall_6 rfl (lv_at hl 0 rfl) ?_
    refine lv_bipush (v := 122) hx hb dX7_isSmall_7 (by decide) ?_
    refine lv_icmp_gt (tgt := 16) hx hb dX7_isSmall_9 (by decide) (fun c_2 => ?_) (fun c_2 => ?_)
    · have ic_2 := gz_lt (by decide : (122 : Int32).toInt = 122) (rfl : x.toInt = x.toInt) c_2
      refine lv_iconst (v := 0) hx hb dX7_isSmall_16 (by decide) ?_
      exact gs_iret hx hb hr hlocks hM hS (by decide) ⟨gN.rf, (Or.inr (⟨rfl, (by have hl9 : (0 : Int32).toInt = 0 := (by decide); omega)⟩))⟩ (by exact Nat.le_refl _) (by exact Nat.le_refl _) dX7_isSmall_17
    · have ic_2 := gz_nlt (by decide : (122 : Int32).toInt = 122) (rfl : x.toInt = x.toInt) c_2
      refine lv_iconst (v := 1) hx hb dX7_isSmall_12 (by decide) ?_
      refine lv_goto (tgt := 17) hx hb dX7_isSmall_13 (by decide) ?_
      exact gs_iret hx hb hr hlocks hM hS (by decide) ⟨gN.rf, (Or.inl (⟨rfl, (by have hl9 : (1 : Int32).toInt = 1 := (by decide); omega), (by have hl9 : (1 : Int32).toInt = 1 := (by decide); omega)⟩))⟩ (by exact Nat.le_refl _) (by exact Nat.le_refl _) dX7_isSmall_17

set_option maxHeartbeats 4000000 in
set_option maxRecDepth 100000 in
/-- WellCourt$Reader.isLetter -/
theorem s_X7_isLetter (l : Launch) (G : va_G) (cy : Nat → ClassId) (sK sV : Nat → Nat) (ad : Nat → Nat → Nat) (sz : Nat) (st : gS)  (x : Int32) (Xx : Int) (kx : x.toInt = Xx)   : gsMi l yX7_isLetter cX7_isLetter 1 (some .boolean) ({ frames := 0, cells := 0, slots := 0, locals := 0 } : Room) G cy sK sV (shX cy ad) cnX ad sz [.int x] st (fun (r : Int32) (u : gS) => gN [] st u ∧ ((r = 1 ∧ ((97 ≤ Xx ∧ Xx ≤ 122) ∨ (65 ≤ Xx ∧ Xx ≤ 90))) ∨ (r = 0 ∧ (¬ ((97 ≤ Xx ∧ Xx ≤ 122) ∨ (65 ≤ Xx ∧ Xx ≤ 90)))))) := by
  refine gs_start (fun A => gsQi G (shX cy ad) cnX ad _ A) (by decide) (Nat.le_of_ble_eq_true rfl) ?_
  intro p e s m below meth c A ls H hx hb hr hml hlocks hown hts hK hov hE hI hM hm hS hA hl
  have hl : lv_has ls 1 [(0, .int x)] := hl
  refine lv_iload_n hx hb dX7_isLetter_0 rfl (lv_at hl 0 rfl) ?_
  refine lv_bipush (v := 97) hx hb dX7_isLetter_1 (by decide) ?_
  refine lv_icmp_lt (tgt := 12) hx hb dX7_isLetter_3 (by decide) (fun c_1 => ?_) (fun c_1 => ?_)
  · have ic_1 := gz_lt (rfl : x.toInt = x.toInt) (by decide : (97 : Int32).toInt = 97) c_1
    refine lv_iload_n hx hb dX7_isLetter_12 rfl (lv_at hl 0 rfl) ?_
    refine lv_bipush (v := 65) hx hb dX7_isLetter_13 (by decide) ?_
    refine lv_icmp_lt (tgt := 28) hx hb dX7_isLetter_15 (by decide) (fun c_2 => ?_) (fun c_2 => ?_)
    · have ic_2 := gz_lt (rfl : x.toInt = x.toInt) (by decide : (65 : Int32).toInt = 65) c_2
      refine lv_iconst (v := 0) hx hb dX7_isLetter_28 (by decide) ?_
      exact gs_iret hx hb hr hlocks hM hS (by decide) ⟨gN.rf, (Or.inr (⟨rfl, (by have hl9 : (0 : Int32).toInt = 0 := (by decide); omega)⟩))⟩ (by exact Nat.le_refl _) (by exact Nat.le_refl _) dX7_isLetter_29
    · have ic_2 := gz_nlt (rfl : x.toInt = x.toInt) (by decide : (65 : Int32).toInt = 65) c_2
      refine lv_iload_n hx hb dX7_isLetter_18 rfl (lv_at hl 0 rfl) ?_
      refine lv_bipush (v := 90) hx hb dX7_isLetter_19 (by decide) ?_
      refine lv_icmp_gt (tgt := 28) hx hb dX7_isLetter_21 (by decide) (fun c_3 => ?_) (fun c_3 => ?_)
      · have ic_3 := gz_lt (by decide : (90 : Int32).toInt = 90) (rfl : x.toInt = x.toInt) c_3
        refine lv_iconst (v := 0) hx hb dX7_isLetter_28 (by decide) ?_
        exact gs_iret hx hb hr hlocks hM hS (by decide) ⟨gN.rf, (Or.inr (⟨rfl, (by have hl9 : (0 : Int32).toInt = 0 := (by decide); omega)⟩))⟩ (by exact Nat.le_refl _) (by exact Nat.le_refl _) dX7_isLetter_29
      · have ic_3 := gz_nlt (by decide : (90 : Int32).toInt = 90) (rfl : x.toInt = x.toInt) c_3
        refine lv_iconst (v := 1) hx hb dX7_isLetter_24 (by decide) ?_
        refine lv_goto (tgt := 29) hx hb dX7_isLetter_25 (by decide) ?_
        exact gs_iret hx hb hr hlocks hM hS (by decide) ⟨gN.rf, (Or.inl (⟨rfl, (by have hl9 : (1 : Int32).toInt = 1 := (by decide); omega)⟩))⟩ (by exact Nat.le_refl _) (by exact Nat.le_refl _) dX7_isLetter_29
  · have ic_1 := gz_nlt (rfl : x.toInt = x.toInt) (by decide : (97 : Int32).toInt = 97) c_1
    refine lv_iload_n hx hb dX7_isLetter_6 rfl (lv_at hl 0 rfl) ?_
    refine lv_bipush (v := 122) hx hb dX7_isLetter_7 (by decide) ?_
    refine lv_icmp_le (tgt := 24) hx hb dX7_isLetter_9 (by decide) (fun c_4 => ?_) (fun c_4 => ?_)
    · have ic_4 := gz_le (rfl : x.toInt = x.toInt) (by decide : (122 : Int32).toInt = 122) c_4
      refine lv_iconst (v := 1) hx hb dX7_isLetter_24 (by decide) ?_
      refine lv_goto (tgt := 29) hx hb dX7_isLetter_25 (by decide) ?_
      exact gs_iret hx hb hr hlocks hM hS (by decide) ⟨gN.rf, (Or.inl (⟨rfl, (by have hl9 : (1 : Int32).toInt = 1 := (by decide); omega)⟩))⟩ (by exact Nat.le_refl _) (by exact Nat.le_refl _) dX7_isLetter_29
    · have ic_4 := gz_nle (rfl : x.toInt = x.toInt) (by decide : (122 : Int32).toInt = 122) c_4
      refine lv_iload_n hx hb dX7_isLetter_12 rfl (lv_at hl 0 rfl) ?_
      refine lv_bipush (v := 65) hx hb dX7_isLetter_13 (by decide) ?_
      refine lv_icmp_lt (tgt := 28) hx hb dX7_isLetter_15 (by decide) (fun c_5 => ?_) (fun c_5 => ?_)
      · have ic_5 := gz_lt (rfl : x.toInt = x.toInt) (by decide : (65 : Int32).toInt = 65) c_5
        refine lv_iconst (v := 0) hx hb dX7_isLetter_28 (by decide) ?_
        exact gs_iret hx hb hr hlocks hM hS (by decide) ⟨gN.rf, (Or.inr (⟨rfl, (by have hl9 : (0 : Int32).toInt = 0 := (by decide); omega)⟩))⟩ (by exact Nat.le_refl _) (by exact Nat.le_refl _) dX7_isLetter_29
      · have ic_5 := gz_nlt (rfl : x.toInt = x.toInt) (by decide : (65 : Int32).toInt = 65) c_5
        refine lv_iload_n hx hb dX7_isLetter_18 rfl (lv_at hl 0 rfl) ?_
        refine lv_bipush (v := 90) hx hb dX7_isLetter_19 (by decide) ?_
        refine lv_icmp_gt (tgt := 28) hx hb dX7_isLetter_21 (by decide) (fun c_6 => ?_) (fun c_6 => ?_)
        · have ic_6 := gz_lt (by decide : (90 : Int32).toInt = 90) (rfl : x.toInt = x.toInt) c_6
          refine lv_iconst (v := 0) hx hb dX7_isLetter_28 (by decide) ?_
          exact gs_iret hx hb hr hlocks hM hS (by decide) ⟨gN.rf, (Or.inr (⟨rfl, (by have hl9 : (0 : Int32).toInt = 0 := (by decide); omega)⟩))⟩ (by exact Nat.le_refl _) (by exact Nat.le_refl _) dX7_isLetter_29
        · have ic_6 := gz_nlt (by decide : (90 : Int32).toInt = 90) (rfl : x.toInt = x.toInt) c_6
          refine lv_iconst (v := 1) hx hb dX7_isLetter_24 (by decide) ?_
          refine lv_goto (tgt := 29) hx hb dX7_isLetter_25 (by decide) ?_
          exact gs_iret hx hb hr hlocks hM hS (by decide) ⟨gN.rf, (Or.inl (⟨rfl, (by have hl9 : (1 : Int32).toInt = 1 := (by decide); omega)⟩))⟩ (by exact Nat.le_refl _) (by exact Nat.le_refl _) dX7_isLetter_29

set_option maxHeartbeats 4000000 in
set_option maxRecDepth 100000 in
/-- WellCourt$Reader.fail -/
theorem s_X7_fail (l : Launch) (G : va_G) (cy : Nat → ClassId) (sK sV : Nat → Nat) (ad : Nat → Nat → Nat) (sz : Nat) (st : gS)  (x : Int32)     : gsMi l yX7_fail cX7_fail 2 (some .boolean) ({ frames := 0, cells := 0, slots := 0, locals := 0 } : Room) G cy sK sV (shX cy ad) cnX ad sz [.ref (ad 3 0), .int x] st (fun (r : Int32) (u : gS) => gN [3] st u ∧ (r = 0)) := by
  refine gs_start (fun A => gsQi G (shX cy ad) cnX ad _ A) (by decide) (Nat.le_of_ble_eq_true rfl) ?_
  intro p e s m below meth c A ls H hx hb hr hml hlocks hown hts hK hov hE hI hM hm hS hA hl
  have hl : lv_has ls 2 [(0, .ref (ad 3 0)), (1, .int x)] := hl
  refine lv_aload_n hx hb dX7_fail_0 rfl (lv_at hl 0 rfl) ?_
  refine lv_iload_n hx hb dX7_fail_1 rfl (lv_at hl 1 rfl) ?_
  refine gs_put (C := RX7) (T := TX7) (N := 6) (ty := .int) (val := .int x) hx hb hts inX7 tyX7 tyX7_ok nmX7 hown hK hI hm hM hS 3 0 4 (by decide) rfl rfl (by decide) (hts _ gm_57) (fun _ h9 => h9) rfl (x : Int32) rfl (by decide +kernel) rfl rfl (Nat.le_of_ble_eq_true rfl) dX7_fail_2 (fun st_1 H locs est_1 hM hS => ?_)
  refine lv_aload_n hx hb dX7_fail_5 rfl (lv_at hl 0 rfl) ?_
  refine lv_aload_n hx hb dX7_fail_6 rfl (lv_at hl 0 rfl) ?_
  refine gs_get (C := RX7) (T := TX7) (N := 6) hx hb hts inX7 hown hK hM 3 0 2 (by decide) rfl rfl (by decide) (hts _ gm_55) (fun _ h9 => h9) rfl dX7_fail_7 ?_
  refine lv_topi (fun x_2 ex_2 => ?_)
  have ex_2 : (st 3 0 2) = x_2 := Eq.symm (ex_2.trans ((congrFun (congrFun (congrFun est_1 3) 0) 2).trans (gU_other (by decide))))
  subst ex_2
  refine gs_put (C := RX7) (T := TX7) (N := 6) (ty := .int) (val := .int (st 3 0 2)) hx hb hts inX7 tyX7 tyX7_ok nmX7 hown hK hI hm hM hS 3 0 5 (by decide) rfl rfl (by decide) (hts _ gm_59) (fun _ h9 => h9) rfl ((st 3 0 2) : Int32) rfl (by decide +kernel) rfl rfl (Nat.le_of_ble_eq_true rfl) dX7_fail_10 (fun st_3 H locs est_3 hM hS => ?_)
  refine lv_iconst (v := 0) hx hb dX7_fail_13 (by decide) ?_
  exact gs_iret hx hb hr hlocks hM hS (by decide) ⟨(by rw [est_3]; exact gN.up (by rw [est_1]; exact gN.up gN.rf (by decide)) (by decide)), rfl⟩ (by exact Nat.le_refl _) (by exact Nat.le_refl _) dX7_fail_14

set_option maxHeartbeats 4000000 in
set_option maxRecDepth 100000 in
/-- WellCourt$Reader.cannotCome -/
theorem s_X7_cannotCome (l : Launch) (G : va_G) (cy : Nat → ClassId) (sK sV : Nat → Nat) (ad : Nat → Nat → Nat) (sz : Nat) (st : gS)       : gsMi l yX7_cannotCome cX7_cannotCome 1 (some .boolean) ({ frames := 1, cells := 0, slots := 0, locals := 21 } : Room) G cy sK sV (shX cy ad) cnX ad sz [.ref (ad 3 0)] st (fun (r : Int32) (u : gS) => gN [3] st u ∧ (r = 0)) := by
  refine gs_start (fun A => gsQi G (shX cy ad) cnX ad _ A) (by decide) (Nat.le_of_ble_eq_true rfl) ?_
  intro p e s m below meth c A ls H hx hb hr hml hlocks hown hts hK hov hE hI hM hm hS hA hl
  have hl : lv_has ls 1 [(0, .ref (ad 3 0))] := hl
  refine lv_aload_n hx hb dX7_cannotCome_0 rfl (lv_at hl 0 rfl) ?_
  refine lv_aload_n hx hb dX7_cannotCome_1 rfl (lv_at hl 0 rfl) ?_
  refine gs_get (C := RX7) (T := TX7) (N := 6) hx hb hts inX7 hown hK hM 3 0 1 (by decide) rfl rfl (by decide) (hts _ gm_54) (fun _ h9 => h9) rfl dX7_cannotCome_2 ?_
  refine lv_iconst (v := 1) hx hb dX7_cannotCome_5 (by decide) ?_
  refine lv_icmp_ne (tgt := 13) hx hb dX7_cannotCome_6 (by decide) (fun c_1 => ?_) (fun c_1 => ?_)
  · have ic_1 := gz_ne (rfl : (st 3 0 1).toInt = (st 3 0 1).toInt) (by decide : (1 : Int32).toInt = 1) c_1
    refine lv_iconst (v := 2) hx hb dX7_cannotCome_13 (by decide) ?_
    refine gs_calli (va_runV (As := [.int 2]) (rest := []) ⟨hx, hb, hml, hown, hts⟩ (s_X7_fail l G cy sK sV ad H.size st (2 : Int32) ) ⟨(gz_cb (n := 1) hts gm_456 gm_3 gm_459 ⟨by decide +kernel, by decide +kernel, by decide +kernel⟩ ⟨Nat.le_of_ble_eq_true rfl, Nat.le_of_ble_eq_true rfl⟩), hts _ gm_458, hts _ gs_5⟩ (gs_preV hK hov hE hI hM hm hS hA 3 0 (by decide) rfl rfl) rfl rfl hl.1 rfl (lv_room (Nat.le_of_ble_eq_true rfl)) dX7_cannotCome_14 ⟨Nat.le_of_ble_eq_true rfl, Nat.le_of_ble_eq_true rfl⟩) hm hS hA (fun r_2 st_2 H locs hw_2 hM hS => ?_)
    obtain ⟨n_2, hw_2⟩ := hw_2
    obtain rfl := hw_2
    exact gs_iret hx hb hr hlocks hM hS (by decide) ⟨(gN.trans gN.rf (gN.wide n_2 (by decide))), rfl⟩ (by exact Nat.le_refl _) (by exact Nat.le_refl _) dX7_cannotCome_17
  · have ic_1 := gz_eqn (rfl : (st 3 0 1).toInt = (st 3 0 1).toInt) (by decide : (1 : Int32).toInt = 1) c_1
    refine lv_iconst (v := 1) hx hb dX7_cannotCome_9 (by decide) ?_
    refine lv_goto (tgt := 14) hx hb dX7_cannotCome_10 (by decide) ?_
    refine gs_calli (va_runV (As := [.int 1]) (rest := []) ⟨hx, hb, hml, hown, hts⟩ (s_X7_fail l G cy sK sV ad H.size st (1 : Int32) ) ⟨(gz_cb (n := 1) hts gm_456 gm_3 gm_459 ⟨by decide +kernel, by decide +kernel, by decide +kernel⟩ ⟨Nat.le_of_ble_eq_true rfl, Nat.le_of_ble_eq_true rfl⟩), hts _ gm_458, hts _ gs_5⟩ (gs_preV hK hov hE hI hM hm hS hA 3 0 (by decide) rfl rfl) rfl rfl hl.1 rfl (lv_room (Nat.le_of_ble_eq_true rfl)) dX7_cannotCome_14 ⟨Nat.le_of_ble_eq_true rfl, Nat.le_of_ble_eq_true rfl⟩) hm hS hA (fun r_3 st_3 H locs hw_3 hM hS => ?_)
    obtain ⟨n_3, hw_3⟩ := hw_3
    obtain rfl := hw_3
    exact gs_iret hx hb hr hlocks hM hS (by decide) ⟨(gN.trans gN.rf (gN.wide n_3 (by decide))), rfl⟩ (by exact Nat.le_refl _) (by exact Nat.le_refl _) dX7_cannotCome_17

set_option maxHeartbeats 4000000 in
set_option maxRecDepth 100000 in
/-- WellCourt$Reader.isSign -/
theorem s_X7_isSign (l : Launch) (G : va_G) (cy : Nat → ClassId) (sK sV : Nat → Nat) (ad : Nat → Nat → Nat) (sz : Nat) (st : gS)  (x : Int32)    (ht : (st 1 0 1).toInt ≤ 800) : gsMi l yX7_isSign cX7_isSign 2 (some .boolean) ({ frames := 1, cells := 0, slots := 0, locals := 21 } : Room) G cy sK sV (shX cy ad) cnX ad sz [.ref (ad 3 0), .int x] st (fun (r : Int32) (u : gS) => gN [] st u ∧ ((r = 1) ∨ (r = 0))) := by
  refine gs_start (fun A => gsQi G (shX cy ad) cnX ad _ A) (by decide) (Nat.le_of_ble_eq_true rfl) ?_
  intro p e s m below meth c A ls H hx hb hr hml hlocks hown hts hK hov hE hI hM hm hS hA hl
  have hl : lv_has ls 2 [(0, .ref (ad 3 0)), (1, .int x)] := hl
  refine lv_aload_n hx hb dX7_isSign_0 rfl (lv_at hl 0 rfl) ?_
  refine gs_get (C := RX7) (T := TX7) (N := 6) hx hb hts inX7 hown hK hM 3 0 1 (by decide) rfl rfl (by decide) (hts _ gm_54) (fun _ h9 => h9) rfl dX7_isSign_1 ?_
  refine lv_iconst (v := 4) hx hb dX7_isSign_4 (by decide) ?_
  refine lv_icmp_ne (tgt := 27) hx hb dX7_isSign_5 (by decide) (fun c_1 => ?_) (fun c_1 => ?_)
  · have ic_1 := gz_ne (rfl : (st 3 0 1).toInt = (st 3 0 1).toInt) (by decide : (4 : Int32).toInt = 4) c_1
    refine lv_iconst (v := 0) hx hb dX7_isSign_27 (by decide) ?_
    exact gs_iret hx hb hr hlocks hM hS (by decide) ⟨gN.rf, (Or.inr (rfl))⟩ (by exact Nat.le_refl _) (by exact Nat.le_refl _) dX7_isSign_28
  · have ic_1 := gz_eqn (rfl : (st 3 0 1).toInt = (st 3 0 1).toInt) (by decide : (4 : Int32).toInt = 4) c_1
    refine lv_aload_n hx hb dX7_isSign_8 rfl (lv_at hl 0 rfl) ?_
    refine gs_get (C := RX7) (T := TX7) (N := 6) hx hb hts inX7 hown hK hM 3 0 0 (by decide) rfl rfl (by decide) (hts _ gm_53) (fun _ h9 => h9) rfl dX7_isSign_9 ?_
    refine lv_aload_n hx hb dX7_isSign_12 rfl (lv_at hl 0 rfl) ?_
    refine gs_get (C := RX7) (T := TX7) (N := 6) hx hb hts inX7 hown hK hM 3 0 2 (by decide) rfl rfl (by decide) (hts _ gm_55) (fun _ h9 => h9) rfl dX7_isSign_13 ?_
    refine gs_calli (va_runV (As := [.int (st 3 0 2)]) (rest := []) ⟨hx, hb, hml, hown, hts⟩ (s_X8_byteAt l G cy sK sV ad H.size st (st 3 0 2) ((st 3 0 2).toInt) rfl (by omega)) ⟨(gz_cb (n := 1) hts gm_371 gm_2 gm_374 ⟨by decide +kernel, by decide +kernel, by decide +kernel⟩ ⟨Nat.le_of_ble_eq_true rfl, Nat.le_of_ble_eq_true rfl⟩), hts _ gm_372, hts _ gm_373⟩ (gs_preV hK hov hE hI hM hm hS hA 1 0 (by decide) rfl rfl) rfl rfl hl.1 rfl (lv_room (Nat.le_of_ble_eq_true rfl)) dX7_isSign_16 ⟨Nat.le_of_ble_eq_true rfl, Nat.le_of_ble_eq_true rfl⟩) hm hS hA (fun r_2 st_2 H locs hw_2 hM hS => ?_)
    obtain ⟨n_2, hw_2⟩ := hw_2
    have n_2 := gN0 n_2
    subst n_2
    have hw_2_0 := hw_2
    refine lv_iload_n hx hb dX7_isSign_19 rfl (lv_at hl 1 rfl) ?_
    refine lv_icmp_ne (tgt := 27) hx hb dX7_isSign_20 (by decide) (fun c_3 => ?_) (fun c_3 => ?_)
    · have ic_3 := gz_ne (rfl : r_2.toInt = r_2.toInt) (rfl : x.toInt = x.toInt) c_3
      refine lv_iconst (v := 0) hx hb dX7_isSign_27 (by decide) ?_
      exact gs_iret hx hb hr hlocks hM hS (by decide) ⟨gN.rf, (Or.inr (rfl))⟩ (by exact Nat.le_refl _) (by exact Nat.le_refl _) dX7_isSign_28
    · have ic_3 := gz_eqn (rfl : r_2.toInt = r_2.toInt) (rfl : x.toInt = x.toInt) c_3
      refine lv_iconst (v := 1) hx hb dX7_isSign_23 (by decide) ?_
      refine lv_goto (tgt := 28) hx hb dX7_isSign_24 (by decide) ?_
      exact gs_iret hx hb hr hlocks hM hS (by decide) ⟨gN.rf, (Or.inl rfl)⟩ (by exact Nat.le_refl _) (by exact Nat.le_refl _) dX7_isSign_28

set_option maxHeartbeats 4000000 in
set_option maxRecDepth 100000 in
/-- WellCourt$Reader.readRun -/
theorem s_X7_readRun (l : Launch) (G : va_G) (cy : Nat → ClassId) (sK sV : Nat → Nat) (ad : Nat → Nat → Nat) (sz : Nat) (st : gS)      (ht : (st 1 0 1).toInt ≤ 800) : gsMv l yX7_readRun cX7_readRun 4 ({ frames := 1, cells := 0, slots := 0, locals := 21 } : Room) G cy sK sV (shX cy ad) cnX ad sz [.ref (ad 3 0)] st (fun (u : gS) => gN [3] st u ∧ (True)) := by
  refine gs_start (fun A => gsQv G (shX cy ad) cnX ad _ A) (by decide) (Nat.le_of_ble_eq_true rfl) ?_
  intro p e s m below meth c A ls H hx hb hr hml hlocks hown hts hK hov hE hI hM hm hS hA hl
  have hl : lv_has ls 4 [(0, .ref (ad 3 0))] := hl
  generalize hQe : MQ below _ _ s _ _ A = Q
  refine lv_iconst (v := 0) hx hb dX7_readRun_0 (by decide) ?_
  refine lv_istore_n (lv' := [(1, .int 0), (0, .ref (ad 3 0))]) hx hb dX7_readRun_1 rfl hl (by decide) rfl (fun ls hl => ?_)
  refine lv_iconst (v := 0) hx hb dX7_readRun_2 (by decide) ?_
  refine lv_istore_n (lv' := [(2, .int 0), (1, .int 0), (0, .ref (ad 3 0))]) hx hb dX7_readRun_3 rfl hl (by decide) rfl (fun ls hl => ?_)
  refine lv_aload_n hx hb dX7_readRun_4 rfl (lv_at hl 2 rfl) ?_
  refine lv_aload_n hx hb dX7_readRun_5 rfl (lv_at hl 2 rfl) ?_
  refine gs_get (C := RX7) (T := TX7) (N := 6) hx hb hts inX7 hown hK hM 3 0 2 (by decide) rfl rfl (by decide) (hts _ gm_55) (fun _ h9 => h9) rfl dX7_readRun_6 ?_
  refine gs_put (C := RX7) (T := TX7) (N := 6) (ty := .int) (val := .int (st 3 0 2)) hx hb hts inX7 tyX7 tyX7_ok nmX7 hown hK hI hm hM hS 3 0 3 (by decide) rfl rfl (by decide) (hts _ gm_56) (fun _ h9 => h9) rfl ((st 3 0 2) : Int32) rfl (by decide +kernel) rfl rfl (Nat.le_of_ble_eq_true rfl) dX7_readRun_9 (fun st_1 H locs est_1 hM hS => ?_)
  have lp2 : ∀ (n2 : Nat) (sv2 : gS) (y2_0 : Int32) (y2_1 : Int32) (H : Heap) (locs : List Loc) (ls : Array Slot), (800 - (sv2 3 0 3).toInt).toNat < n2 → gN [3] st_1 sv2 →  gM G (shX cy ad) cnX ad sv2 H → va_S A s.heap H locs → lv_has ls 4 [(2, .int y2_1), (1, .int y2_0), (0, .ref (ad 3 0))] → W p l e ({ frames := 1, cells := 0, slots := 0, locals := 21 } : Room) s m [.ref (ad 3 0)].toArray below meth c H locs 0 0 Q (F0 m 12 ls []) := by
    intro n2
    induction n2 with
    | zero => intro sv2 y2_0 y2_1 H locs ls h9; exact absurd h9 (Nat.not_lt_zero _)
    | succ n2 ih_2 =>
      intro sv2 y2_0 y2_1 H locs ls hme2 hn2  hM hS hl
      refine lv_aload_n hx hb dX7_readRun_12 rfl (lv_at hl 2 rfl) ?_
      refine gs_get (C := RX7) (T := TX7) (N := 6) hx hb hts inX7 hown hK hM 3 0 3 (by decide) rfl rfl (by decide) (hts _ gm_56) (fun _ h9 => h9) rfl dX7_readRun_13 ?_
      refine lv_sipush (v := 800) hx hb dX7_readRun_16 (by decide) ?_
      refine lv_icmp_ge (tgt := 94) hx hb dX7_readRun_19 (by decide) (fun c_3 => ?_) (fun c_3 => ?_)
      · have ic_3 := gz_le (by decide : (800 : Int32).toInt = 800) (rfl : (sv2 3 0 3).toInt = (sv2 3 0 3).toInt) c_3
        refine lv_aload_n hx hb dX7_readRun_94 rfl (lv_at hl 2 rfl) ?_
        refine gs_get (C := RX7) (T := TX7) (N := 6) hx hb hts inX7 hown hK hM 3 0 3 (by decide) rfl rfl (by decide) (hts _ gm_56) (fun _ h9 => h9) rfl dX7_readRun_95 ?_
        refine lv_aload_n hx hb dX7_readRun_98 rfl (lv_at hl 2 rfl) ?_
        refine gs_get (C := RX7) (T := TX7) (N := 6) hx hb hts inX7 hown hK hM 3 0 2 (by decide) rfl rfl (by decide) (hts _ gm_55) (fun _ h9 => h9) rfl dX7_readRun_99 ?_
        refine lv_isub hx hb dX7_readRun_102 ?_
        refine lv_topi (fun x_4 ex_4 => ?_)
        refine lv_istore_n (lv' := [(3, .int x_4), (2, .int y2_1), (1, .int y2_0), (0, .ref (ad 3 0))]) hx hb dX7_readRun_103 rfl hl (by decide) rfl (fun ls hl => ?_)
        refine lv_iload_n hx hb dX7_readRun_104 rfl (lv_at hl 1 rfl) ?_
        refine lv_iload_n hx hb dX7_readRun_105 rfl (lv_at hl 0 rfl) ?_
        refine lv_icmp_ne (tgt := 117) hx hb dX7_readRun_106 (by decide) (fun c_5 => ?_) (fun c_5 => ?_)
        · have ic_5 := gz_ne (rfl : y2_1.toInt = y2_1.toInt) (rfl : x_4.toInt = x_4.toInt) c_5
          refine lv_aload_n hx hb dX7_readRun_117 rfl (lv_at hl 3 rfl) ?_
          refine lv_iload_n hx hb dX7_readRun_118 rfl (lv_at hl 2 rfl) ?_
          refine lv_iload_n hx hb dX7_readRun_119 rfl (lv_at hl 0 rfl) ?_
          refine lv_icmp_ne (tgt := 132) hx hb dX7_readRun_120 (by decide) (fun c_6 => ?_) (fun c_6 => ?_)
          · have ic_6 := gz_ne (rfl : y2_0.toInt = y2_0.toInt) (rfl : x_4.toInt = x_4.toInt) c_6
            refine lv_iconst (v := 1) hx hb dX7_readRun_132 (by decide) ?_
            refine gs_put (C := RX7) (T := TX7) (N := 6) (ty := .int) (val := .int 1) hx hb hts inX7 tyX7 tyX7_ok nmX7 hown hK hI hm hM hS 3 0 1 (by decide) rfl rfl (by decide) (hts _ gm_54) (fun _ h9 => h9) rfl (1 : Int32) rfl (by decide +kernel) rfl rfl (Nat.le_of_ble_eq_true rfl) dX7_readRun_133 (fun st_7 H locs est_7 hM hS => ?_)
            rw [← hQe]
            exact gs_vret hx hb hr hlocks hM hS ⟨(by rw [est_7]; exact gN.up (gN.trans (by rw [est_1]; exact gN.up gN.rf (by decide)) (gN.wide hn2 (by decide))) (by decide)), trivial⟩ (by exact Nat.le_refl _) (by exact Nat.le_refl _) dX7_readRun_136
          · have ic_6 := gz_eqn (rfl : y2_0.toInt = y2_0.toInt) (rfl : x_4.toInt = x_4.toInt) c_6
            refine lv_iload_n hx hb dX7_readRun_123 rfl (lv_at hl 0 rfl) ?_
            refine lv_iconst (v := 4) hx hb dX7_readRun_124 (by decide) ?_
            refine lv_icmp_gt (tgt := 132) hx hb dX7_readRun_125 (by decide) (fun c_8 => ?_) (fun c_8 => ?_)
            · have ic_8 := gz_lt (by decide : (4 : Int32).toInt = 4) (rfl : x_4.toInt = x_4.toInt) c_8
              refine lv_iconst (v := 1) hx hb dX7_readRun_132 (by decide) ?_
              refine gs_put (C := RX7) (T := TX7) (N := 6) (ty := .int) (val := .int 1) hx hb hts inX7 tyX7 tyX7_ok nmX7 hown hK hI hm hM hS 3 0 1 (by decide) rfl rfl (by decide) (hts _ gm_54) (fun _ h9 => h9) rfl (1 : Int32) rfl (by decide +kernel) rfl rfl (Nat.le_of_ble_eq_true rfl) dX7_readRun_133 (fun st_9 H locs est_9 hM hS => ?_)
              rw [← hQe]
              exact gs_vret hx hb hr hlocks hM hS ⟨(by rw [est_9]; exact gN.up (gN.trans (by rw [est_1]; exact gN.up gN.rf (by decide)) (gN.wide hn2 (by decide))) (by decide)), trivial⟩ (by exact Nat.le_refl _) (by exact Nat.le_refl _) dX7_readRun_136
            · have ic_8 := gz_nlt (by decide : (4 : Int32).toInt = 4) (rfl : x_4.toInt = x_4.toInt) c_8
              refine lv_iconst (v := 3) hx hb dX7_readRun_128 (by decide) ?_
              refine lv_goto (tgt := 133) hx hb dX7_readRun_129 (by decide) ?_
              refine gs_put (C := RX7) (T := TX7) (N := 6) (ty := .int) (val := .int 3) hx hb hts inX7 tyX7 tyX7_ok nmX7 hown hK hI hm hM hS 3 0 1 (by decide) rfl rfl (by decide) (hts _ gm_54) (fun _ h9 => h9) rfl (3 : Int32) rfl (by decide +kernel) rfl rfl (Nat.le_of_ble_eq_true rfl) dX7_readRun_133 (fun st_10 H locs est_10 hM hS => ?_)
              rw [← hQe]
              exact gs_vret hx hb hr hlocks hM hS ⟨(by rw [est_10]; exact gN.up (gN.trans (by rw [est_1]; exact gN.up gN.rf (by decide)) (gN.wide hn2 (by decide))) (by decide)), trivial⟩ (by exact Nat.le_refl _) (by exact Nat.le_refl _) dX7_readRun_136
        · have ic_5 := gz_eqn (rfl : y2_1.toInt = y2_1.toInt) (rfl : x_4.toInt = x_4.toInt) c_5
          refine lv_aload_n hx hb dX7_readRun_109 rfl (lv_at hl 3 rfl) ?_
          refine lv_iconst (v := 2) hx hb dX7_readRun_110 (by decide) ?_
          refine gs_put (C := RX7) (T := TX7) (N := 6) (ty := .int) (val := .int 2) hx hb hts inX7 tyX7 tyX7_ok nmX7 hown hK hI hm hM hS 3 0 1 (by decide) rfl rfl (by decide) (hts _ gm_54) (fun _ h9 => h9) rfl (2 : Int32) rfl (by decide +kernel) rfl rfl (Nat.le_of_ble_eq_true rfl) dX7_readRun_111 (fun st_11 H locs est_11 hM hS => ?_)
          refine lv_goto (tgt := 136) hx hb dX7_readRun_114 (by decide) ?_
          rw [← hQe]
          exact gs_vret hx hb hr hlocks hM hS ⟨(by rw [est_11]; exact gN.up (gN.trans (by rw [est_1]; exact gN.up gN.rf (by decide)) (gN.wide hn2 (by decide))) (by decide)), trivial⟩ (by exact Nat.le_refl _) (by exact Nat.le_refl _) dX7_readRun_136
      · have ic_3 := gz_nle (by decide : (800 : Int32).toInt = 800) (rfl : (sv2 3 0 3).toInt = (sv2 3 0 3).toInt) c_3
        refine lv_aload_n hx hb dX7_readRun_22 rfl (lv_at hl 2 rfl) ?_
        refine gs_get (C := RX7) (T := TX7) (N := 6) hx hb hts inX7 hown hK hM 3 0 0 (by decide) rfl rfl (by decide) (hts _ gm_53) (fun _ h9 => h9) rfl dX7_readRun_23 ?_
        refine lv_aload_n hx hb dX7_readRun_26 rfl (lv_at hl 2 rfl) ?_
        refine gs_get (C := RX7) (T := TX7) (N := 6) hx hb hts inX7 hown hK hM 3 0 3 (by decide) rfl rfl (by decide) (hts _ gm_56) (fun _ h9 => h9) rfl dX7_readRun_27 ?_
        refine gs_calli (va_runV (As := [.int (sv2 3 0 3)]) (rest := []) ⟨hx, hb, hml, hown, hts⟩ (s_X8_byteAt l G cy sK sV ad H.size sv2 (sv2 3 0 3) ((sv2 3 0 3).toInt) rfl (by have hq0 : sv2 1 0 1 = (st 1 0 1) := ((congrFun (congrFun (hn2 1 (by decide)) 0) 1).trans ((congrFun (congrFun (congrFun est_1 1) 0) 1).trans (congrFun (congrFun (gU_k (by decide)) 0) 1))); rw [hq0]; omega)) ⟨(gz_cb (n := 1) hts gm_371 gm_2 gm_374 ⟨by decide +kernel, by decide +kernel, by decide +kernel⟩ ⟨Nat.le_of_ble_eq_true rfl, Nat.le_of_ble_eq_true rfl⟩), hts _ gm_372, hts _ gm_373⟩ (gs_preV hK hov hE hI hM hm hS hA 1 0 (by decide) rfl rfl) rfl rfl hl.1 rfl (lv_room (Nat.le_of_ble_eq_true rfl)) dX7_readRun_30 ⟨Nat.le_of_ble_eq_true rfl, Nat.le_of_ble_eq_true rfl⟩) hm hS hA (fun r_12 st_12 H locs hw_12 hM hS => ?_)
        obtain ⟨n_12, hw_12⟩ := hw_12
        have n_12 := gN0 n_12
        subst n_12
        have hw_12_0 := hw_12
        refine lv_istore_n (lv' := [(3, .int r_12), (2, .int y2_1), (1, .int y2_0), (0, .ref (ad 3 0))]) hx hb dX7_readRun_33 rfl hl (by decide) rfl (fun ls hl => ?_)
        refine lv_iload_n hx hb dX7_readRun_34 rfl (lv_at hl 0 rfl) ?_
        refine gs_calli (va_runS (As := [.int r_12]) (rest := []) ⟨hx, hb, hml, hown, hts⟩ (s_X7_isDigit l G cy sK sV ad H.size sv2 r_12 r_12.toInt rfl ) ⟨(gz_cb (n := 1) hts gm_378 gm_3 gm_380 ⟨by decide +kernel, by decide +kernel, by decide +kernel⟩ ⟨Nat.le_of_ble_eq_true rfl, Nat.le_of_ble_eq_true rfl⟩), hts _ gm_379⟩ (gs_preS hK hov hE hI hM hm hS hA) rfl rfl hl.1 rfl (lv_room (Nat.le_of_ble_eq_true rfl)) dX7_readRun_35 ⟨Nat.le_of_ble_eq_true rfl, Nat.le_of_ble_eq_true rfl⟩) hm hS hA (fun r_13 st_13 H locs hw_13 hM hS => ?_)
        obtain ⟨n_13, hw_13⟩ := hw_13
        have n_13 := gN0 n_13
        subst n_13
        rcases hw_13 with ⟨rfl, hw_13_0, hw_13_1⟩ | ⟨rfl, hw_13_0⟩
        · skip
          refine lv_if_ne (tgt := 51) hx hb dX7_readRun_38 (by decide) (fun _ => ?_) (fun h9 => absurd h9 (by decide))
          refine lv_iload_n hx hb dX7_readRun_51 rfl (lv_at hl 2 rfl) ?_
          refine lv_iload_n hx hb dX7_readRun_52 rfl (lv_at hl 0 rfl) ?_
          refine gs_calli (va_runS (As := [.int r_12]) (rest := [.int y2_0]) ⟨hx, hb, hml, hown, hts⟩ (s_X7_isDigit l G cy sK sV ad H.size sv2 r_12 r_12.toInt rfl ) ⟨(gz_cb (n := 1) hts gm_378 gm_3 gm_380 ⟨by decide +kernel, by decide +kernel, by decide +kernel⟩ ⟨Nat.le_of_ble_eq_true rfl, Nat.le_of_ble_eq_true rfl⟩), hts _ gm_379⟩ (gs_preS hK hov hE hI hM hm hS hA) rfl rfl hl.1 rfl (lv_room (Nat.le_of_ble_eq_true rfl)) dX7_readRun_53 ⟨Nat.le_of_ble_eq_true rfl, Nat.le_of_ble_eq_true rfl⟩) hm hS hA (fun r_14 st_14 H locs hw_14 hM hS => ?_)
          obtain ⟨n_14, hw_14⟩ := hw_14
          have n_14 := gN0 n_14
          subst n_14
          rcases hw_14 with ⟨rfl, hw_14_0, hw_14_1⟩ | ⟨rfl, hw_14_0⟩
          · skip
            refine lv_if_eq (tgt := 63) hx hb dX7_readRun_56 (by decide) (fun h9 => absurd h9 (by decide)) (fun _ => ?_)
            refine lv_iconst (v := 1) hx hb dX7_readRun_59 (by decide) ?_
            refine lv_goto (tgt := 64) hx hb dX7_readRun_60 (by decide) ?_
            refine lv_iadd hx hb dX7_readRun_64 ?_
            refine lv_topi (fun x_15 ex_15 => ?_)
            refine lv_istore_n (lv' := [(1, .int x_15), (3, .int r_12), (2, .int y2_1), (0, .ref (ad 3 0))]) hx hb dX7_readRun_65 rfl hl (by decide) rfl (fun ls hl => ?_)
            refine lv_iload_n hx hb dX7_readRun_66 rfl (lv_at hl 2 rfl) ?_
            refine lv_iload_n hx hb dX7_readRun_67 rfl (lv_at hl 1 rfl) ?_
            refine gs_calli (va_runS (As := [.int r_12]) (rest := [.int y2_1]) ⟨hx, hb, hml, hown, hts⟩ (s_X7_isSmall l G cy sK sV ad H.size sv2 r_12 r_12.toInt rfl ) ⟨(gz_cb (n := 1) hts gm_388 gm_3 gm_390 ⟨by decide +kernel, by decide +kernel, by decide +kernel⟩ ⟨Nat.le_of_ble_eq_true rfl, Nat.le_of_ble_eq_true rfl⟩), hts _ gm_389⟩ (gs_preS hK hov hE hI hM hm hS hA) rfl rfl hl.1 rfl (lv_room (Nat.le_of_ble_eq_true rfl)) dX7_readRun_68 ⟨Nat.le_of_ble_eq_true rfl, Nat.le_of_ble_eq_true rfl⟩) hm hS hA (fun r_16 st_16 H locs hw_16 hM hS => ?_)
            obtain ⟨n_16, hw_16⟩ := hw_16
            have n_16 := gN0 n_16
            subst n_16
            rcases hw_16 with ⟨rfl, hw_16_0, hw_16_1⟩ | ⟨rfl, hw_16_0⟩
            · skip
              refine lv_if_eq (tgt := 78) hx hb dX7_readRun_71 (by decide) (fun h9 => absurd h9 (by decide)) (fun _ => ?_)
              refine lv_iconst (v := 1) hx hb dX7_readRun_74 (by decide) ?_
              refine lv_goto (tgt := 79) hx hb dX7_readRun_75 (by decide) ?_
              refine lv_iadd hx hb dX7_readRun_79 ?_
              refine lv_topi (fun x_17 ex_17 => ?_)
              refine lv_istore_n (lv' := [(2, .int x_17), (1, .int x_15), (3, .int r_12), (0, .ref (ad 3 0))]) hx hb dX7_readRun_80 rfl hl (by decide) rfl (fun ls hl => ?_)
              refine lv_aload_n hx hb dX7_readRun_81 rfl (lv_at hl 3 rfl) ?_
              refine lv_dup hx hb dX7_readRun_82 rfl ?_
              refine gs_get (C := RX7) (T := TX7) (N := 6) hx hb hts inX7 hown hK hM 3 0 3 (by decide) rfl rfl (by decide) (hts _ gm_56) (fun _ h9 => h9) rfl dX7_readRun_83 ?_
              refine lv_iconst (v := 1) hx hb dX7_readRun_86 (by decide) ?_
              refine lv_iadd hx hb dX7_readRun_87 ?_
              refine lv_topi (fun x_18 ex_18 => ?_)
              have tx_18 : x_18.toInt = (sv2 3 0 3).toInt + 1 := by rw [ex_18]; exact gz_addP rfl (by decide) (by omega) (by omega)
              refine gs_put (C := RX7) (T := TX7) (N := 6) (ty := .int) (val := .int x_18) hx hb hts inX7 tyX7 tyX7_ok nmX7 hown hK hI hm hM hS 3 0 3 (by decide) rfl rfl (by decide) (hts _ gm_56) (fun _ h9 => h9) rfl (x_18 : Int32) rfl (by decide +kernel) rfl rfl (Nat.le_of_ble_eq_true rfl) dX7_readRun_88 (fun st_19 H locs est_19 hM hS => ?_)
              refine lv_goto (tgt := 12) hx hb dX7_readRun_91 (by decide) ?_
              exact ih_2 st_19 (x_15 : Int32) (x_17 : Int32) H _ ls (by have hq0 : st_19 3 0 3 = x_18 := ((congrFun (congrFun (congrFun est_19 3) 0) 3).trans (gU_same _ _ _ _ _)); rw [hq0]; omega) (by rw [est_19]; exact gN.up (gN.trans gN.rf (gN.wide hn2 (by decide))) (by decide))  hM hS (lv_sub hl [0, 1, 3] rfl)
            · skip
              refine lv_if_eq (tgt := 78) hx hb dX7_readRun_71 (by decide) (fun _ => ?_) (fun h9 => absurd (by decide) h9)
              refine lv_iconst (v := 0) hx hb dX7_readRun_78 (by decide) ?_
              refine lv_iadd hx hb dX7_readRun_79 ?_
              refine lv_topi (fun x_20 ex_20 => ?_)
              refine lv_istore_n (lv' := [(2, .int x_20), (1, .int x_15), (3, .int r_12), (0, .ref (ad 3 0))]) hx hb dX7_readRun_80 rfl hl (by decide) rfl (fun ls hl => ?_)
              refine lv_aload_n hx hb dX7_readRun_81 rfl (lv_at hl 3 rfl) ?_
              refine lv_dup hx hb dX7_readRun_82 rfl ?_
              refine gs_get (C := RX7) (T := TX7) (N := 6) hx hb hts inX7 hown hK hM 3 0 3 (by decide) rfl rfl (by decide) (hts _ gm_56) (fun _ h9 => h9) rfl dX7_readRun_83 ?_
              refine lv_iconst (v := 1) hx hb dX7_readRun_86 (by decide) ?_
              refine lv_iadd hx hb dX7_readRun_87 ?_
              refine lv_topi (fun x_21 ex_21 => ?_)
              have tx_21 : x_21.toInt = (sv2 3 0 3).toInt + 1 := by rw [ex_21]; exact gz_addP rfl (by decide) (by omega) (by omega)
              refine gs_put (C := RX7) (T := TX7) (N := 6) (ty := .int) (val := .int x_21) hx hb hts inX7 tyX7 tyX7_ok nmX7 hown hK hI hm hM hS 3 0 3 (by decide) rfl rfl (by decide) (hts _ gm_56) (fun _ h9 => h9) rfl (x_21 : Int32) rfl (by decide +kernel) rfl rfl (Nat.le_of_ble_eq_true rfl) dX7_readRun_88 (fun st_22 H locs est_22 hM hS => ?_)
              refine lv_goto (tgt := 12) hx hb dX7_readRun_91 (by decide) ?_
              exact ih_2 st_22 (x_15 : Int32) (x_20 : Int32) H _ ls (by have hq0 : st_22 3 0 3 = x_21 := ((congrFun (congrFun (congrFun est_22 3) 0) 3).trans (gU_same _ _ _ _ _)); rw [hq0]; omega) (by rw [est_22]; exact gN.up (gN.trans gN.rf (gN.wide hn2 (by decide))) (by decide))  hM hS (lv_sub hl [0, 1, 3] rfl)
          · skip
            refine lv_if_eq (tgt := 63) hx hb dX7_readRun_56 (by decide) (fun _ => ?_) (fun h9 => absurd (by decide) h9)
            refine lv_iconst (v := 0) hx hb dX7_readRun_63 (by decide) ?_
            refine lv_iadd hx hb dX7_readRun_64 ?_
            refine lv_topi (fun x_23 ex_23 => ?_)
            refine lv_istore_n (lv' := [(1, .int x_23), (3, .int r_12), (2, .int y2_1), (0, .ref (ad 3 0))]) hx hb dX7_readRun_65 rfl hl (by decide) rfl (fun ls hl => ?_)
            refine lv_iload_n hx hb dX7_readRun_66 rfl (lv_at hl 2 rfl) ?_
            refine lv_iload_n hx hb dX7_readRun_67 rfl (lv_at hl 1 rfl) ?_
            refine gs_calli (va_runS (As := [.int r_12]) (rest := [.int y2_1]) ⟨hx, hb, hml, hown, hts⟩ (s_X7_isSmall l G cy sK sV ad H.size sv2 r_12 r_12.toInt rfl ) ⟨(gz_cb (n := 1) hts gm_388 gm_3 gm_390 ⟨by decide +kernel, by decide +kernel, by decide +kernel⟩ ⟨Nat.le_of_ble_eq_true rfl, Nat.le_of_ble_eq_true rfl⟩), hts _ gm_389⟩ (gs_preS hK hov hE hI hM hm hS hA) rfl rfl hl.1 rfl (lv_room (Nat.le_of_ble_eq_true rfl)) dX7_readRun_68 ⟨Nat.le_of_ble_eq_true rfl, Nat.le_of_ble_eq_true rfl⟩) hm hS hA (fun r_24 st_24 H locs hw_24 hM hS => ?_)
            obtain ⟨n_24, hw_24⟩ := hw_24
            have n_24 := gN0 n_24
            subst n_24
            rcases hw_24 with ⟨rfl, hw_24_0, hw_24_1⟩ | ⟨rfl, hw_24_0⟩
            · skip
              refine lv_if_eq (tgt := 78) hx hb dX7_readRun_71 (by decide) (fun h9 => absurd h9 (by decide)) (fun _ => ?_)
              refine lv_iconst (v := 1) hx hb dX7_readRun_74 (by decide) ?_
              refine lv_goto (tgt := 79) hx hb dX7_readRun_75 (by decide) ?_
              refine lv_iadd hx hb dX7_readRun_79 ?_
              refine lv_topi (fun x_25 ex_25 => ?_)
              refine lv_istore_n (lv' := [(2, .int x_25), (1, .int x_23), (3, .int r_12), (0, .ref (ad 3 0))]) hx hb dX7_readRun_80 rfl hl (by decide) rfl (fun ls hl => ?_)
              refine lv_aload_n hx hb dX7_readRun_81 rfl (lv_at hl 3 rfl) ?_
              refine lv_dup hx hb dX7_readRun_82 rfl ?_
              refine gs_get (C := RX7) (T := TX7) (N := 6) hx hb hts inX7 hown hK hM 3 0 3 (by decide) rfl rfl (by decide) (hts _ gm_56) (fun _ h9 => h9) rfl dX7_readRun_83 ?_
              refine lv_iconst (v := 1) hx hb dX7_readRun_86 (by decide) ?_
              refine lv_iadd hx hb dX7_readRun_87 ?_
              refine lv_topi (fun x_26 ex_26 => ?_)
              have tx_26 : x_26.toInt = (sv2 3 0 3).toInt + 1 := by rw [ex_26]; exact gz_addP rfl (by decide) (by omega) (by omega)
              refine gs_put (C := RX7) (T := TX7) (N := 6) (ty := .int) (val := .int x_26) hx hb hts inX7 tyX7 tyX7_ok nmX7 hown hK hI hm hM hS 3 0 3 (by decide) rfl rfl (by decide) (hts _ gm_56) (fun _ h9 => h9) rfl (x_26 : Int32) rfl (by decide +kernel) rfl rfl (Nat.le_of_ble_eq_true rfl) dX7_readRun_88 (fun st_27 H locs est_27 hM hS => ?_)
              refine lv_goto (tgt := 12) hx hb dX7_readRun_91 (by decide) ?_
              exact ih_2 st_27 (x_23 : Int32) (x_25 : Int32) H _ ls (by have hq0 : st_27 3 0 3 = x_26 := ((congrFun (congrFun (congrFun est_27 3) 0) 3).trans (gU_same _ _ _ _ _)); rw [hq0]; omega) (by rw [est_27]; exact gN.up (gN.trans gN.rf (gN.wide hn2 (by decide))) (by decide))  hM hS (lv_sub hl [0, 1, 3] rfl)
            · skip
              refine lv_if_eq (tgt := 78) hx hb dX7_readRun_71 (by decide) (fun _ => ?_) (fun h9 => absurd (by decide) h9)
              refine lv_iconst (v := 0) hx hb dX7_readRun_78 (by decide) ?_
              refine lv_iadd hx hb dX7_readRun_79 ?_
              refine lv_topi (fun x_28 ex_28 => ?_)
              refine lv_istore_n (lv' := [(2, .int x_28), (1, .int x_23), (3, .int r_12), (0, .ref (ad 3 0))]) hx hb dX7_readRun_80 rfl hl (by decide) rfl (fun ls hl => ?_)
              refine lv_aload_n hx hb dX7_readRun_81 rfl (lv_at hl 3 rfl) ?_
              refine lv_dup hx hb dX7_readRun_82 rfl ?_
              refine gs_get (C := RX7) (T := TX7) (N := 6) hx hb hts inX7 hown hK hM 3 0 3 (by decide) rfl rfl (by decide) (hts _ gm_56) (fun _ h9 => h9) rfl dX7_readRun_83 ?_
              refine lv_iconst (v := 1) hx hb dX7_readRun_86 (by decide) ?_
              refine lv_iadd hx hb dX7_readRun_87 ?_
              refine lv_topi (fun x_29 ex_29 => ?_)
              have tx_29 : x_29.toInt = (sv2 3 0 3).toInt + 1 := by rw [ex_29]; exact gz_addP rfl (by decide) (by omega) (by omega)
              refine gs_put (C := RX7) (T := TX7) (N := 6) (ty := .int) (val := .int x_29) hx hb hts inX7 tyX7 tyX7_ok nmX7 hown hK hI hm hM hS 3 0 3 (by decide) rfl rfl (by decide) (hts _ gm_56) (fun _ h9 => h9) rfl (x_29 : Int32) rfl (by decide +kernel) rfl rfl (Nat.le_of_ble_eq_true rfl) dX7_readRun_88 (fun st_30 H locs est_30 hM hS => ?_)
              refine lv_goto (tgt := 12) hx hb dX7_readRun_91 (by decide) ?_
              exact ih_2 st_30 (x_23 : Int32) (x_28 : Int32) H _ ls (by have hq0 : st_30 3 0 3 = x_29 := ((congrFun (congrFun (congrFun est_30 3) 0) 3).trans (gU_same _ _ _ _ _)); rw [hq0]; omega) (by rw [est_30]; exact gN.up (gN.trans gN.rf (gN.wide hn2 (by decide))) (by decide))  hM hS (lv_sub hl [0, 1, 3] rfl)
        · skip
          refine lv_if_ne (tgt := 51) hx hb dX7_readRun_38 (by decide) (fun h9 => absurd (by decide) h9) (fun _ => ?_)
          refine lv_iload_n hx hb dX7_readRun_41 rfl (lv_at hl 0 rfl) ?_
          refine gs_calli (va_runS (As := [.int r_12]) (rest := []) ⟨hx, hb, hml, hown, hts⟩ (s_X7_isLetter l G cy sK sV ad H.size sv2 r_12 r_12.toInt rfl ) ⟨(gz_cb (n := 1) hts gm_381 gm_3 gm_383 ⟨by decide +kernel, by decide +kernel, by decide +kernel⟩ ⟨Nat.le_of_ble_eq_true rfl, Nat.le_of_ble_eq_true rfl⟩), hts _ gm_382⟩ (gs_preS hK hov hE hI hM hm hS hA) rfl rfl hl.1 rfl (lv_room (Nat.le_of_ble_eq_true rfl)) dX7_readRun_42 ⟨Nat.le_of_ble_eq_true rfl, Nat.le_of_ble_eq_true rfl⟩) hm hS hA (fun r_31 st_31 H locs hw_31 hM hS => ?_)
          obtain ⟨n_31, hw_31⟩ := hw_31
          have n_31 := gN0 n_31
          subst n_31
          rcases hw_31 with ⟨rfl, hw_31_0⟩ | ⟨rfl, hw_31_0⟩
          · skip
            refine lv_if_ne (tgt := 51) hx hb dX7_readRun_45 (by decide) (fun _ => ?_) (fun h9 => absurd h9 (by decide))
            refine lv_iload_n hx hb dX7_readRun_51 rfl (lv_at hl 2 rfl) ?_
            refine lv_iload_n hx hb dX7_readRun_52 rfl (lv_at hl 0 rfl) ?_
            refine gs_calli (va_runS (As := [.int r_12]) (rest := [.int y2_0]) ⟨hx, hb, hml, hown, hts⟩ (s_X7_isDigit l G cy sK sV ad H.size sv2 r_12 r_12.toInt rfl ) ⟨(gz_cb (n := 1) hts gm_378 gm_3 gm_380 ⟨by decide +kernel, by decide +kernel, by decide +kernel⟩ ⟨Nat.le_of_ble_eq_true rfl, Nat.le_of_ble_eq_true rfl⟩), hts _ gm_379⟩ (gs_preS hK hov hE hI hM hm hS hA) rfl rfl hl.1 rfl (lv_room (Nat.le_of_ble_eq_true rfl)) dX7_readRun_53 ⟨Nat.le_of_ble_eq_true rfl, Nat.le_of_ble_eq_true rfl⟩) hm hS hA (fun r_32 st_32 H locs hw_32 hM hS => ?_)
            obtain ⟨n_32, hw_32⟩ := hw_32
            have n_32 := gN0 n_32
            subst n_32
            rcases hw_32 with ⟨rfl, hw_32_0, hw_32_1⟩ | ⟨rfl, hw_32_0⟩
            · skip
              refine lv_if_eq (tgt := 63) hx hb dX7_readRun_56 (by decide) (fun h9 => absurd h9 (by decide)) (fun _ => ?_)
              refine lv_iconst (v := 1) hx hb dX7_readRun_59 (by decide) ?_
              refine lv_goto (tgt := 64) hx hb dX7_readRun_60 (by decide) ?_
              refine lv_iadd hx hb dX7_readRun_64 ?_
              refine lv_topi (fun x_33 ex_33 => ?_)
              refine lv_istore_n (lv' := [(1, .int x_33), (3, .int r_12), (2, .int y2_1), (0, .ref (ad 3 0))]) hx hb dX7_readRun_65 rfl hl (by decide) rfl (fun ls hl => ?_)
              refine lv_iload_n hx hb dX7_readRun_66 rfl (lv_at hl 2 rfl) ?_
              refine lv_iload_n hx hb dX7_readRun_67 rfl (lv_at hl 1 rfl) ?_
              refine gs_calli (va_runS (As := [.int r_12]) (rest := [.int y2_1]) ⟨hx, hb, hml, hown, hts⟩ (s_X7_isSmall l G cy sK sV ad H.size sv2 r_12 r_12.toInt rfl ) ⟨(gz_cb (n := 1) hts gm_388 gm_3 gm_390 ⟨by decide +kernel, by decide +kernel, by decide +kernel⟩ ⟨Nat.le_of_ble_eq_true rfl, Nat.le_of_ble_eq_true rfl⟩), hts _ gm_389⟩ (gs_preS hK hov hE hI hM hm hS hA) rfl rfl hl.1 rfl (lv_room (Nat.le_of_ble_eq_true rfl)) dX7_readRun_68 ⟨Nat.le_of_ble_eq_true rfl, Nat.le_of_ble_eq_true rfl⟩) hm hS hA (fun r_34 st_34 H locs hw_34 hM hS => ?_)
              obtain ⟨n_34, hw_34⟩ := hw_34
              have n_34 := gN0 n_34
              subst n_34
              rcases hw_34 with ⟨rfl, hw_34_0, hw_34_1⟩ | ⟨rfl, hw_34_0⟩
              · skip
                refine lv_if_eq (tgt := 78) hx hb dX7_readRun_71 (by decide) (fun h9 => absurd h9 (by decide)) (fun _ => ?_)
                refine lv_iconst (v := 1) hx hb dX7_readRun_74 (by decide) ?_
                refine lv_goto (tgt := 79) hx hb dX7_readRun_75 (by decide) ?_
                refine lv_iadd hx hb dX7_readRun_79 ?_
                refine lv_topi (fun x_35 ex_35 => ?_)
                refine lv_istore_n (lv' := [(2, .int x_35), (1, .int x_33), (3, .int r_12), (0, .ref (ad 3 0))]) hx hb dX7_readRun_80 rfl hl (by decide) rfl (fun ls hl => ?_)
                refine lv_aload_n hx hb dX7_readRun_81 rfl (lv_at hl 3 rfl) ?_
                refine lv_dup hx hb dX7_readRun_82 rfl ?_
                refine gs_get (C := RX7) (T := TX7) (N := 6) hx hb hts inX7 hown hK hM 3 0 3 (by decide) rfl rfl (by decide) (hts _ gm_56) (fun _ h9 => h9) rfl dX7_readRun_83 ?_
                refine lv_iconst (v := 1) hx hb dX7_readRun_86 (by decide) ?_
                refine lv_iadd hx hb dX7_readRun_87 ?_
                refine lv_topi (fun x_36 ex_36 => ?_)
                have tx_36 : x_36.toInt = (sv2 3 0 3).toInt + 1 := by rw [ex_36]; exact gz_addP rfl (by decide) (by omega) (by omega)
                refine gs_put (C := RX7) (T := TX7) (N := 6) (ty := .int) (val := .int x_36) hx hb hts inX7 tyX7 tyX7_ok nmX7 hown hK hI hm hM hS 3 0 3 (by decide) rfl rfl (by decide) (hts _ gm_56) (fun _ h9 => h9) rfl (x_36 : Int32) rfl (by decide +kernel) rfl rfl (Nat.le_of_ble_eq_true rfl) dX7_readRun_88 (fun st_37 H locs est_37 hM hS => ?_)
                refine lv_goto (tgt := 12) hx hb dX7_readRun_91 (by decide) ?_
                exact ih_2 st_37 (x_33 : Int32) (x_35 : Int32) H _ ls (by have hq0 : st_37 3 0 3 = x_36 := ((congrFun (congrFun (congrFun est_37 3) 0) 3).trans (gU_same _ _ _ _ _)); rw [hq0]; omega) (by rw [est_37]; exact gN.up (gN.trans gN.rf (gN.wide hn2 (by decide))) (by decide))  hM hS (lv_sub hl [0, 1, 3] rfl)
              · skip
                refine lv_if_eq (tgt := 78) hx hb dX7_readRun_71 (by decide) (fun _ => ?_) (fun h9 => absurd (by decide) h9)
                refine lv_iconst (v := 0) hx hb dX7_readRun_78 (by decide) ?_
                refine lv_iadd hx hb dX7_readRun_79 ?_
                refine lv_topi (fun x_38 ex_38 => ?_)
                refine lv_istore_n (lv' := [(2, .int x_38), (1, .int x_33), (3, .int r_12), (0, .ref (ad 3 0))]) hx hb dX7_readRun_80 rfl hl (by decide) rfl (fun ls hl => ?_)
                refine lv_aload_n hx hb dX7_readRun_81 rfl (lv_at hl 3 rfl) ?_
                refine lv_dup hx hb dX7_readRun_82 rfl ?_
                refine gs_get (C := RX7) (T := TX7) (N := 6) hx hb hts inX7 hown hK hM 3 0 3 (by decide) rfl rfl (by decide) (hts _ gm_56) (fun _ h9 => h9) rfl dX7_readRun_83 ?_
                refine lv_iconst (v := 1) hx hb dX7_readRun_86 (by decide) ?_
                refine lv_iadd hx hb dX7_readRun_87 ?_
                refine lv_topi (fun x_39 ex_39 => ?_)
                have tx_39 : x_39.toInt = (sv2 3 0 3).toInt + 1 := by rw [ex_39]; exact gz_addP rfl (by decide) (by omega) (by omega)
                refine gs_put (C := RX7) (T := TX7) (N := 6) (ty := .int) (val := .int x_39) hx hb hts inX7 tyX7 tyX7_ok nmX7 hown hK hI hm hM hS 3 0 3 (by decide) rfl rfl (by decide) (hts _ gm_56) (fun _ h9 => h9) rfl (x_39 : Int32) rfl (by decide +kernel) rfl rfl (Nat.le_of_ble_eq_true rfl) dX7_readRun_88 (fun st_40 H locs est_40 hM hS => ?_)
                refine lv_goto (tgt := 12) hx hb dX7_readRun_91 (by decide) ?_
                exact ih_2 st_40 (x_33 : Int32) (x_38 : Int32) H _ ls (by have hq0 : st_40 3 0 3 = x_39 := ((congrFun (congrFun (congrFun est_40 3) 0) 3).trans (gU_same _ _ _ _ _)); rw [hq0]; omega) (by rw [est_40]; exact gN.up (gN.trans gN.rf (gN.wide hn2 (by decide))) (by decide))  hM hS (lv_sub hl [0, 1, 3] rfl)
            · skip
              refine lv_if_eq (tgt := 63) hx hb dX7_readRun_56 (by decide) (fun _ => ?_) (fun h9 => absurd (by decide) h9)
              refine lv_iconst (v := 0) hx hb dX7_readRun_63 (by decide) ?_
              refine lv_iadd hx hb dX7_readRun_64 ?_
              refine lv_topi (fun x_41 ex_41 => ?_)
              refine lv_istore_n (lv' := [(1, .int x_41), (3, .int r_12), (2, .int y2_1), (0, .ref (ad 3 0))]) hx hb dX7_readRun_65 rfl hl (by decide) rfl (fun ls hl => ?_)
              refine lv_iload_n hx hb dX7_readRun_66 rfl (lv_at hl 2 rfl) ?_
              refine lv_iload_n hx hb dX7_readRun_67 rfl (lv_at hl 1 rfl) ?_
              refine gs_calli (va_runS (As := [.int r_12]) (rest := [.int y2_1]) ⟨hx, hb, hml, hown, hts⟩ (s_X7_isSmall l G cy sK sV ad H.size sv2 r_12 r_12.toInt rfl ) ⟨(gz_cb (n := 1) hts gm_388 gm_3 gm_390 ⟨by decide +kernel, by decide +kernel, by decide +kernel⟩ ⟨Nat.le_of_ble_eq_true rfl, Nat.le_of_ble_eq_true rfl⟩), hts _ gm_389⟩ (gs_preS hK hov hE hI hM hm hS hA) rfl rfl hl.1 rfl (lv_room (Nat.le_of_ble_eq_true rfl)) dX7_readRun_68 ⟨Nat.le_of_ble_eq_true rfl, Nat.le_of_ble_eq_true rfl⟩) hm hS hA (fun r_42 st_42 H locs hw_42 hM hS => ?_)
              obtain ⟨n_42, hw_42⟩ := hw_42
              have n_42 := gN0 n_42
              subst n_42
              rcases hw_42 with ⟨rfl, hw_42_0, hw_42_1⟩ | ⟨rfl, hw_42_0⟩
              · skip
                refine lv_if_eq (tgt := 78) hx hb dX7_readRun_71 (by decide) (fun h9 => absurd h9 (by decide)) (fun _ => ?_)
                refine lv_iconst (v := 1) hx hb dX7_readRun_74 (by decide) ?_
                refine lv_goto (tgt := 79) hx hb dX7_readRun_75 (by decide) ?_
                refine lv_iadd hx hb dX7_readRun_79 ?_
                refine lv_topi (fun x_43 ex_43 => ?_)
                refine lv_istore_n (lv' := [(2, .int x_43), (1, .int x_41), (3, .int r_12), (0, .ref (ad 3 0))]) hx hb dX7_readRun_80 rfl hl (by decide) rfl (fun ls hl => ?_)
                refine lv_aload_n hx hb dX7_readRun_81 rfl (lv_at hl 3 rfl) ?_
                refine lv_dup hx hb dX7_readRun_82 rfl ?_
                refine gs_get (C := RX7) (T := TX7) (N := 6) hx hb hts inX7 hown hK hM 3 0 3 (by decide) rfl rfl (by decide) (hts _ gm_56) (fun _ h9 => h9) rfl dX7_readRun_83 ?_
                refine lv_iconst (v := 1) hx hb dX7_readRun_86 (by decide) ?_
                refine lv_iadd hx hb dX7_readRun_87 ?_
                refine lv_topi (fun x_44 ex_44 => ?_)
                have tx_44 : x_44.toInt = (sv2 3 0 3).toInt + 1 := by rw [ex_44]; exact gz_addP rfl (by decide) (by omega) (by omega)
                refine gs_put (C := RX7) (T := TX7) (N := 6) (ty := .int) (val := .int x_44) hx hb hts inX7 tyX7 tyX7_ok nmX7 hown hK hI hm hM hS 3 0 3 (by decide) rfl rfl (by decide) (hts _ gm_56) (fun _ h9 => h9) rfl (x_44 : Int32) rfl (by decide +kernel) rfl rfl (Nat.le_of_ble_eq_true rfl) dX7_readRun_88 (fun st_45 H locs est_45 hM hS => ?_)
                refine lv_goto (tgt := 12) hx hb dX7_readRun_91 (by decide) ?_
                exact ih_2 st_45 (x_41 : Int32) (x_43 : Int32) H _ ls (by have hq0 : st_45 3 0 3 = x_44 := ((congrFun (congrFun (congrFun est_45 3) 0) 3).trans (gU_same _ _ _ _ _)); rw [hq0]; omega) (by rw [est_45]; exact gN.up (gN.trans gN.rf (gN.wide hn2 (by decide))) (by decide))  hM hS (lv_sub hl [0, 1, 3] rfl)
              · skip
                refine lv_if_eq (tgt := 78) hx hb dX7_readRun_71 (by decide) (fun _ => ?_) (fun h9 => absurd (by decide) h9)
                refine lv_iconst (v := 0) hx hb dX7_readRun_78 (by decide) ?_
                refine lv_iadd hx hb dX7_readRun_79 ?_
                refine lv_topi (fun x_46 ex_46 => ?_)
                refine lv_istore_n (lv' := [(2, .int x_46), (1, .int x_41), (3, .int r_12), (0, .ref (ad 3 0))]) hx hb dX7_readRun_80 rfl hl (by decide) rfl (fun ls hl => ?_)
                refine lv_aload_n hx hb dX7_readRun_81 rfl (lv_at hl 3 rfl) ?_
                refine lv_dup hx hb dX7_readRun_82 rfl ?_
                refine gs_get (C := RX7) (T := TX7) (N := 6) hx hb hts inX7 hown hK hM 3 0 3 (by decide) rfl rfl (by decide) (hts _ gm_56) (fun _ h9 => h9) rfl dX7_readRun_83 ?_
                refine lv_iconst (v := 1) hx hb dX7_readRun_86 (by decide) ?_
                refine lv_iadd hx hb dX7_readRun_87 ?_
                refine lv_topi (fun x_47 ex_47 => ?_)
                have tx_47 : x_47.toInt = (sv2 3 0 3).toInt + 1 := by rw [ex_47]; exact gz_addP rfl (by decide) (by omega) (by omega)
                refine gs_put (C := RX7) (T := TX7) (N := 6) (ty := .int) (val := .int x_47) hx hb hts inX7 tyX7 tyX7_ok nmX7 hown hK hI hm hM hS 3 0 3 (by decide) rfl rfl (by decide) (hts _ gm_56) (fun _ h9 => h9) rfl (x_47 : Int32) rfl (by decide +kernel) rfl rfl (Nat.le_of_ble_eq_true rfl) dX7_readRun_88 (fun st_48 H locs est_48 hM hS => ?_)
                refine lv_goto (tgt := 12) hx hb dX7_readRun_91 (by decide) ?_
                exact ih_2 st_48 (x_41 : Int32) (x_46 : Int32) H _ ls (by have hq0 : st_48 3 0 3 = x_47 := ((congrFun (congrFun (congrFun est_48 3) 0) 3).trans (gU_same _ _ _ _ _)); rw [hq0]; omega) (by rw [est_48]; exact gN.up (gN.trans gN.rf (gN.wide hn2 (by decide))) (by decide))  hM hS (lv_sub hl [0, 1, 3] rfl)
          · skip
            refine lv_if_ne (tgt := 51) hx hb dX7_readRun_45 (by decide) (fun h9 => absurd (by decide) h9) (fun _ => ?_)
            refine lv_goto (tgt := 94) hx hb dX7_readRun_48 (by decide) ?_
            refine lv_aload_n hx hb dX7_readRun_94 rfl (lv_at hl 3 rfl) ?_
            refine gs_get (C := RX7) (T := TX7) (N := 6) hx hb hts inX7 hown hK hM 3 0 3 (by decide) rfl rfl (by decide) (hts _ gm_56) (fun _ h9 => h9) rfl dX7_readRun_95 ?_
            refine lv_aload_n hx hb dX7_readRun_98 rfl (lv_at hl 3 rfl) ?_
            refine gs_get (C := RX7) (T := TX7) (N := 6) hx hb hts inX7 hown hK hM 3 0 2 (by decide) rfl rfl (by decide) (hts _ gm_55) (fun _ h9 => h9) rfl dX7_readRun_99 ?_
            refine lv_isub hx hb dX7_readRun_102 ?_
            refine lv_topi (fun x_49 ex_49 => ?_)
            refine lv_istore_n (lv' := [(3, .int x_49), (2, .int y2_1), (1, .int y2_0), (0, .ref (ad 3 0))]) hx hb dX7_readRun_103 rfl hl (by decide) rfl (fun ls hl => ?_)
            refine lv_iload_n hx hb dX7_readRun_104 rfl (lv_at hl 1 rfl) ?_
            refine lv_iload_n hx hb dX7_readRun_105 rfl (lv_at hl 0 rfl) ?_
            refine lv_icmp_ne (tgt := 117) hx hb dX7_readRun_106 (by decide) (fun c_50 => ?_) (fun c_50 => ?_)
            · have ic_50 := gz_ne (rfl : y2_1.toInt = y2_1.toInt) (rfl : x_49.toInt = x_49.toInt) c_50
              refine lv_aload_n hx hb dX7_readRun_117 rfl (lv_at hl 3 rfl) ?_
              refine lv_iload_n hx hb dX7_readRun_118 rfl (lv_at hl 2 rfl) ?_
              refine lv_iload_n hx hb dX7_readRun_119 rfl (lv_at hl 0 rfl) ?_
              refine lv_icmp_ne (tgt := 132) hx hb dX7_readRun_120 (by decide) (fun c_51 => ?_) (fun c_51 => ?_)
              · have ic_51 := gz_ne (rfl : y2_0.toInt = y2_0.toInt) (rfl : x_49.toInt = x_49.toInt) c_51
                refine lv_iconst (v := 1) hx hb dX7_readRun_132 (by decide) ?_
                refine gs_put (C := RX7) (T := TX7) (N := 6) (ty := .int) (val := .int 1) hx hb hts inX7 tyX7 tyX7_ok nmX7 hown hK hI hm hM hS 3 0 1 (by decide) rfl rfl (by decide) (hts _ gm_54) (fun _ h9 => h9) rfl (1 : Int32) rfl (by decide +kernel) rfl rfl (Nat.le_of_ble_eq_true rfl) dX7_readRun_133 (fun st_52 H locs est_52 hM hS => ?_)
                rw [← hQe]
                exact gs_vret hx hb hr hlocks hM hS ⟨(by rw [est_52]; exact gN.up (gN.trans (by rw [est_1]; exact gN.up gN.rf (by decide)) (gN.wide hn2 (by decide))) (by decide)), trivial⟩ (by exact Nat.le_refl _) (by exact Nat.le_refl _) dX7_readRun_136
              · have ic_51 := gz_eqn (rfl : y2_0.toInt = y2_0.toInt) (rfl : x_49.toInt = x_49.toInt) c_51
                refine lv_iload_n hx hb dX7_readRun_123 rfl (lv_at hl 0 rfl) ?_
                refine lv_iconst (v := 4) hx hb dX7_readRun_124 (by decide) ?_
                refine lv_icmp_gt (tgt := 132) hx hb dX7_readRun_125 (by decide) (fun c_53 => ?_) (fun c_53 => ?_)
                · have ic_53 := gz_lt (by decide : (4 : Int32).toInt = 4) (rfl : x_49.toInt = x_49.toInt) c_53
                  refine lv_iconst (v := 1) hx hb dX7_readRun_132 (by decide) ?_
                  refine gs_put (C := RX7) (T := TX7) (N := 6) (ty := .int) (val := .int 1) hx hb hts inX7 tyX7 tyX7_ok nmX7 hown hK hI hm hM hS 3 0 1 (by decide) rfl rfl (by decide) (hts _ gm_54) (fun _ h9 => h9) rfl (1 : Int32) rfl (by decide +kernel) rfl rfl (Nat.le_of_ble_eq_true rfl) dX7_readRun_133 (fun st_54 H locs est_54 hM hS => ?_)
                  rw [← hQe]
                  exact gs_vret hx hb hr hlocks hM hS ⟨(by rw [est_54]; exact gN.up (gN.trans (by rw [est_1]; exact gN.up gN.rf (by decide)) (gN.wide hn2 (by decide))) (by decide)), trivial⟩ (by exact Nat.le_refl _) (by exact Nat.le_refl _) dX7_readRun_136
                · have ic_53 := gz_nlt (by decide : (4 : Int32).toInt = 4) (rfl : x_49.toInt = x_49.toInt) c_53
                  refine lv_iconst (v := 3) hx hb dX7_readRun_128 (by decide) ?_
                  refine lv_goto (tgt := 133) hx hb dX7_readRun_129 (by decide) ?_
                  refine gs_put (C := RX7) (T := TX7) (N := 6) (ty := .int) (val := .int 3) hx hb hts inX7 tyX7 tyX7_ok nmX7 hown hK hI hm hM hS 3 0 1 (by decide) rfl rfl (by decide) (hts _ gm_54) (fun _ h9 => h9) rfl (3 : Int32) rfl (by decide +kernel) rfl rfl (Nat.le_of_ble_eq_true rfl) dX7_readRun_133 (fun st_55 H locs est_55 hM hS => ?_)
                  rw [← hQe]
                  exact gs_vret hx hb hr hlocks hM hS ⟨(by rw [est_55]; exact gN.up (gN.trans (by rw [est_1]; exact gN.up gN.rf (by decide)) (gN.wide hn2 (by decide))) (by decide)), trivial⟩ (by exact Nat.le_refl _) (by exact Nat.le_refl _) dX7_readRun_136
            · have ic_50 := gz_eqn (rfl : y2_1.toInt = y2_1.toInt) (rfl : x_49.toInt = x_49.toInt) c_50
              refine lv_aload_n hx hb dX7_readRun_109 rfl (lv_at hl 3 rfl) ?_
              refine lv_iconst (v := 2) hx hb dX7_readRun_110 (by decide) ?_
              refine gs_put (C := RX7) (T := TX7) (N := 6) (ty := .int) (val := .int 2) hx hb hts inX7 tyX7 tyX7_ok nmX7 hown hK hI hm hM hS 3 0 1 (by decide) rfl rfl (by decide) (hts _ gm_54) (fun _ h9 => h9) rfl (2 : Int32) rfl (by decide +kernel) rfl rfl (Nat.le_of_ble_eq_true rfl) dX7_readRun_111 (fun st_56 H locs est_56 hM hS => ?_)
              refine lv_goto (tgt := 136) hx hb dX7_readRun_114 (by decide) ?_
              rw [← hQe]
              exact gs_vret hx hb hr hlocks hM hS ⟨(by rw [est_56]; exact gN.up (gN.trans (by rw [est_1]; exact gN.up gN.rf (by decide)) (gN.wide hn2 (by decide))) (by decide)), trivial⟩ (by exact Nat.le_refl _) (by exact Nat.le_refl _) dX7_readRun_136
  exact lp2 ((800 - (st_1 3 0 3).toInt).toNat + 1) st_1 (0 : Int32) (0 : Int32) H _ ls (Nat.lt_succ_self _) gN.rf  hM hS hl

set_option maxHeartbeats 4000000 in
set_option maxRecDepth 100000 in
/-- WellCourt$Reader.advance -/
theorem s_X7_advance (l : Launch) (G : va_G) (cy : Nat → ClassId) (sK sV : Nat → Nat) (ad : Nat → Nat → Nat) (sz : Nat) (st : gS)      (ht : (st 1 0 1).toInt ≤ 800) : gsMv l yX7_advance cX7_advance 2 ({ frames := 2, cells := 0, slots := 0, locals := 44 } : Room) G cy sK sV (shX cy ad) cnX ad sz [.ref (ad 3 0)] st (fun (u : gS) => gN [3] st u ∧ (True)) := by
  refine gs_start (fun A => gsQv G (shX cy ad) cnX ad _ A) (by decide) (Nat.le_of_ble_eq_true rfl) ?_
  intro p e s m below meth c A ls H hx hb hr hml hlocks hown hts hK hov hE hI hM hm hS hA hl
  have hl : lv_has ls 2 [(0, .ref (ad 3 0))] := hl
  generalize hQe : MQ below _ _ s _ _ A = Q
  refine lv_aload_n hx hb dX7_advance_0 rfl (lv_at hl 0 rfl) ?_
  refine lv_aload_n hx hb dX7_advance_1 rfl (lv_at hl 0 rfl) ?_
  refine gs_get (C := RX7) (T := TX7) (N := 6) hx hb hts inX7 hown hK hM 3 0 3 (by decide) rfl rfl (by decide) (hts _ gm_56) (fun _ h9 => h9) rfl dX7_advance_2 ?_
  refine gs_put (C := RX7) (T := TX7) (N := 6) (ty := .int) (val := .int (st 3 0 3)) hx hb hts inX7 tyX7 tyX7_ok nmX7 hown hK hI hm hM hS 3 0 2 (by decide) rfl rfl (by decide) (hts _ gm_55) (fun _ h9 => h9) rfl ((st 3 0 3) : Int32) rfl (by decide +kernel) rfl rfl (Nat.le_of_ble_eq_true rfl) dX7_advance_5 (fun st_1 H locs est_1 hM hS => ?_)
  have lp2 : ∀ (n2 : Nat) (sv2 : gS)  (H : Heap) (locs : List Loc) (ls : Array Slot), (800 - (sv2 3 0 2).toInt).toNat < n2 → gN [3] st_1 sv2 →  gM G (shX cy ad) cnX ad sv2 H → va_S A s.heap H locs → lv_has ls 2 [(0, .ref (ad 3 0))] → W p l e ({ frames := 2, cells := 0, slots := 0, locals := 44 } : Room) s m [.ref (ad 3 0)].toArray below meth c H locs 0 0 Q (F0 m 8 ls []) := by
    intro n2
    induction n2 with
    | zero => intro sv2  H locs ls h9; exact absurd h9 (Nat.not_lt_zero _)
    | succ n2 ih_2 =>
      intro sv2  H locs ls hme2 hn2  hM hS hl
      refine lv_aload_n hx hb dX7_advance_8 rfl (lv_at hl 0 rfl) ?_
      refine gs_get (C := RX7) (T := TX7) (N := 6) hx hb hts inX7 hown hK hM 3 0 2 (by decide) rfl rfl (by decide) (hts _ gm_55) (fun _ h9 => h9) rfl dX7_advance_9 ?_
      refine lv_sipush (v := 800) hx hb dX7_advance_12 (by decide) ?_
      refine lv_icmp_ge (tgt := 48) hx hb dX7_advance_15 (by decide) (fun c_3 => ?_) (fun c_3 => ?_)
      · have ic_3 := gz_le (by decide : (800 : Int32).toInt = 800) (rfl : (sv2 3 0 2).toInt = (sv2 3 0 2).toInt) c_3
        refine lv_aload_n hx hb dX7_advance_48 rfl (lv_at hl 0 rfl) ?_
        refine gs_get (C := RX7) (T := TX7) (N := 6) hx hb hts inX7 hown hK hM 3 0 0 (by decide) rfl rfl (by decide) (hts _ gm_53) (fun _ h9 => h9) rfl dX7_advance_49 ?_
        refine lv_aload_n hx hb dX7_advance_52 rfl (lv_at hl 0 rfl) ?_
        refine gs_get (C := RX7) (T := TX7) (N := 6) hx hb hts inX7 hown hK hM 3 0 2 (by decide) rfl rfl (by decide) (hts _ gm_55) (fun _ h9 => h9) rfl dX7_advance_53 ?_
        refine gs_calli (va_runV (As := [.int (sv2 3 0 2)]) (rest := []) ⟨hx, hb, hml, hown, hts⟩ (s_X8_byteAt l G cy sK sV ad H.size sv2 (sv2 3 0 2) ((sv2 3 0 2).toInt) rfl (by have hq0 : sv2 1 0 1 = (st 1 0 1) := ((congrFun (congrFun (hn2 1 (by decide)) 0) 1).trans ((congrFun (congrFun (congrFun est_1 1) 0) 1).trans (congrFun (congrFun (gU_k (by decide)) 0) 1))); rw [hq0]; omega)) ⟨(gz_cb (n := 1) hts gm_371 gm_2 gm_374 ⟨by decide +kernel, by decide +kernel, by decide +kernel⟩ ⟨Nat.le_of_ble_eq_true rfl, Nat.le_of_ble_eq_true rfl⟩), hts _ gm_372, hts _ gm_373⟩ (gs_preV hK hov hE hI hM hm hS hA 1 0 (by decide) rfl rfl) rfl rfl hl.1 rfl (lv_room (Nat.le_of_ble_eq_true rfl)) dX7_advance_56 ⟨Nat.le_of_ble_eq_true rfl, Nat.le_of_ble_eq_true rfl⟩) hm hS hA (fun r_4 st_4 H locs hw_4 hM hS => ?_)
        obtain ⟨n_4, hw_4⟩ := hw_4
        have n_4 := gN0 n_4
        subst n_4
        have hw_4_0 := hw_4
        refine lv_istore_n (lv' := [(1, .int r_4), (0, .ref (ad 3 0))]) hx hb dX7_advance_59 rfl hl (by decide) rfl (fun ls hl => ?_)
        refine lv_aload_n hx hb dX7_advance_60 rfl (lv_at hl 1 rfl) ?_
        refine lv_aload_n hx hb dX7_advance_61 rfl (lv_at hl 1 rfl) ?_
        refine gs_get (C := RX7) (T := TX7) (N := 6) hx hb hts inX7 hown hK hM 3 0 2 (by decide) rfl rfl (by decide) (hts _ gm_55) (fun _ h9 => h9) rfl dX7_advance_62 ?_
        refine lv_iconst (v := 1) hx hb dX7_advance_65 (by decide) ?_
        refine lv_iadd hx hb dX7_advance_66 ?_
        refine lv_topi (fun x_5 ex_5 => ?_)
        refine gs_put (C := RX7) (T := TX7) (N := 6) (ty := .int) (val := .int x_5) hx hb hts inX7 tyX7 tyX7_ok nmX7 hown hK hI hm hM hS 3 0 3 (by decide) rfl rfl (by decide) (hts _ gm_56) (fun _ h9 => h9) rfl (x_5 : Int32) rfl (by decide +kernel) rfl rfl (Nat.le_of_ble_eq_true rfl) dX7_advance_67 (fun st_6 H locs est_6 hM hS => ?_)
        refine lv_iload_n hx hb dX7_advance_70 rfl (lv_at hl 0 rfl) ?_
        refine lv_iconst (v := (-1)) hx hb dX7_advance_71 (by decide) ?_
        refine lv_icmp_ne (tgt := 91) hx hb dX7_advance_72 (by decide) (fun c_7 => ?_) (fun c_7 => ?_)
        · have ic_7 := gz_ne (rfl : r_4.toInt = r_4.toInt) (by decide : ((-1) : Int32).toInt = -1) c_7
          refine lv_iload_n hx hb dX7_advance_91 rfl (lv_at hl 0 rfl) ?_
          refine lv_bipush (v := 58) hx hb dX7_advance_92 (by decide) ?_
          refine lv_icmp_eq (tgt := 109) hx hb dX7_advance_94 (by decide) (fun c_8 => ?_) (fun c_8 => ?_)
          · have ic_8 := gz_eq (rfl : r_4.toInt = r_4.toInt) (by decide : (58 : Int32).toInt = 58) c_8
            refine lv_aload_n hx hb dX7_advance_109 rfl (lv_at hl 1 rfl) ?_
            refine lv_iconst (v := 4) hx hb dX7_advance_110 (by decide) ?_
            refine gs_put (C := RX7) (T := TX7) (N := 6) (ty := .int) (val := .int 4) hx hb hts inX7 tyX7 tyX7_ok nmX7 hown hK hI hm hM hS 3 0 1 (by decide) rfl rfl (by decide) (hts _ gm_54) (fun _ h9 => h9) rfl (4 : Int32) rfl (by decide +kernel) rfl rfl (Nat.le_of_ble_eq_true rfl) dX7_advance_111 (fun st_9 H locs est_9 hM hS => ?_)
            refine lv_goto (tgt := 143) hx hb dX7_advance_114 (by decide) ?_
            rw [← hQe]
            exact gs_vret hx hb hr hlocks hM hS ⟨(by rw [est_9]; exact gN.up (by rw [est_6]; exact gN.up (gN.trans (by rw [est_1]; exact gN.up gN.rf (by decide)) (gN.wide hn2 (by decide))) (by decide)) (by decide)), trivial⟩ (by exact Nat.le_refl _) (by exact Nat.le_refl _) dX7_advance_143
          · have ic_8 := gz_ne (rfl : r_4.toInt = r_4.toInt) (by decide : (58 : Int32).toInt = 58) c_8
            refine lv_iload_n hx hb dX7_advance_97 rfl (lv_at hl 0 rfl) ?_
            refine lv_bipush (v := 44) hx hb dX7_advance_98 (by decide) ?_
            refine lv_icmp_eq (tgt := 109) hx hb dX7_advance_100 (by decide) (fun c_10 => ?_) (fun c_10 => ?_)
            · have ic_10 := gz_eq (rfl : r_4.toInt = r_4.toInt) (by decide : (44 : Int32).toInt = 44) c_10
              refine lv_aload_n hx hb dX7_advance_109 rfl (lv_at hl 1 rfl) ?_
              refine lv_iconst (v := 4) hx hb dX7_advance_110 (by decide) ?_
              refine gs_put (C := RX7) (T := TX7) (N := 6) (ty := .int) (val := .int 4) hx hb hts inX7 tyX7 tyX7_ok nmX7 hown hK hI hm hM hS 3 0 1 (by decide) rfl rfl (by decide) (hts _ gm_54) (fun _ h9 => h9) rfl (4 : Int32) rfl (by decide +kernel) rfl rfl (Nat.le_of_ble_eq_true rfl) dX7_advance_111 (fun st_11 H locs est_11 hM hS => ?_)
              refine lv_goto (tgt := 143) hx hb dX7_advance_114 (by decide) ?_
              rw [← hQe]
              exact gs_vret hx hb hr hlocks hM hS ⟨(by rw [est_11]; exact gN.up (by rw [est_6]; exact gN.up (gN.trans (by rw [est_1]; exact gN.up gN.rf (by decide)) (gN.wide hn2 (by decide))) (by decide)) (by decide)), trivial⟩ (by exact Nat.le_refl _) (by exact Nat.le_refl _) dX7_advance_143
            · have ic_10 := gz_ne (rfl : r_4.toInt = r_4.toInt) (by decide : (44 : Int32).toInt = 44) c_10
              refine lv_iload_n hx hb dX7_advance_103 rfl (lv_at hl 0 rfl) ?_
              refine lv_bipush (v := 59) hx hb dX7_advance_104 (by decide) ?_
              refine lv_icmp_ne (tgt := 117) hx hb dX7_advance_106 (by decide) (fun c_12 => ?_) (fun c_12 => ?_)
              · have ic_12 := gz_ne (rfl : r_4.toInt = r_4.toInt) (by decide : (59 : Int32).toInt = 59) c_12
                refine lv_iload_n hx hb dX7_advance_117 rfl (lv_at hl 0 rfl) ?_
                refine gs_calli (va_runS (As := [.int r_4]) (rest := []) ⟨hx, hb, hml, hown, hts⟩ (s_X7_isDigit l G cy sK sV ad H.size st_6 r_4 r_4.toInt rfl ) ⟨(gz_cb (n := 1) hts gm_378 gm_3 gm_380 ⟨by decide +kernel, by decide +kernel, by decide +kernel⟩ ⟨Nat.le_of_ble_eq_true rfl, Nat.le_of_ble_eq_true rfl⟩), hts _ gm_379⟩ (gs_preS hK hov hE hI hM hm hS hA) rfl rfl hl.1 rfl (lv_room (Nat.le_of_ble_eq_true rfl)) dX7_advance_118 ⟨Nat.le_of_ble_eq_true rfl, Nat.le_of_ble_eq_true rfl⟩) hm hS hA (fun r_13 st_13 H locs hw_13 hM hS => ?_)
                obtain ⟨n_13, hw_13⟩ := hw_13
                have n_13 := gN0 n_13
                subst n_13
                rcases hw_13 with ⟨rfl, hw_13_0, hw_13_1⟩ | ⟨rfl, hw_13_0⟩
                · skip
                  refine lv_if_ne (tgt := 131) hx hb dX7_advance_121 (by decide) (fun _ => ?_) (fun h9 => absurd h9 (by decide))
                  refine lv_aload_n hx hb dX7_advance_131 rfl (lv_at hl 1 rfl) ?_
                  refine gs_callv (va_runV (As := []) (rest := []) ⟨hx, hb, hml, hown, hts⟩ (s_X7_readRun l G cy sK sV ad H.size st_6  (by have hq0 : st_6 1 0 1 = (st 1 0 1) := (((congrFun (congrFun (congrFun est_6 1) 0) 1).trans (congrFun (congrFun (gU_k (by decide)) 0) 1)).trans ((congrFun (congrFun (hn2 1 (by decide)) 0) 1).trans ((congrFun (congrFun (congrFun est_1 1) 0) 1).trans (congrFun (congrFun (gU_k (by decide)) 0) 1)))); rw [hq0]; omega)) ⟨(gz_cb (n := 0) hts gm_384 gm_3 gm_387 ⟨by decide +kernel, by decide +kernel, by decide +kernel⟩ ⟨Nat.le_of_ble_eq_true rfl, Nat.le_of_ble_eq_true rfl⟩), hts _ gm_386, hts _ gs_1⟩ (gs_preV hK hov hE hI hM hm hS hA 3 0 (by decide) rfl rfl) rfl rfl hl.1 rfl (lv_room (Nat.le_of_ble_eq_true rfl)) dX7_advance_132 ⟨Nat.le_of_ble_eq_true rfl, Nat.le_of_ble_eq_true rfl⟩) hm hS hA (fun st_14 H locs hw_14 hM hS => ?_)
                  obtain ⟨n_14, hw_14⟩ := hw_14
                  refine lv_goto (tgt := 143) hx hb dX7_advance_135 (by decide) ?_
                  rw [← hQe]
                  exact gs_vret hx hb hr hlocks hM hS ⟨(gN.trans (by rw [est_6]; exact gN.up (gN.trans (by rw [est_1]; exact gN.up gN.rf (by decide)) (gN.wide hn2 (by decide))) (by decide)) (gN.wide n_14 (by decide))), trivial⟩ (by exact Nat.le_refl _) (by exact Nat.le_refl _) dX7_advance_143
                · skip
                  refine lv_if_ne (tgt := 131) hx hb dX7_advance_121 (by decide) (fun h9 => absurd (by decide) h9) (fun _ => ?_)
                  refine lv_iload_n hx hb dX7_advance_124 rfl (lv_at hl 0 rfl) ?_
                  refine gs_calli (va_runS (As := [.int r_4]) (rest := []) ⟨hx, hb, hml, hown, hts⟩ (s_X7_isLetter l G cy sK sV ad H.size st_6 r_4 r_4.toInt rfl ) ⟨(gz_cb (n := 1) hts gm_381 gm_3 gm_383 ⟨by decide +kernel, by decide +kernel, by decide +kernel⟩ ⟨Nat.le_of_ble_eq_true rfl, Nat.le_of_ble_eq_true rfl⟩), hts _ gm_382⟩ (gs_preS hK hov hE hI hM hm hS hA) rfl rfl hl.1 rfl (lv_room (Nat.le_of_ble_eq_true rfl)) dX7_advance_125 ⟨Nat.le_of_ble_eq_true rfl, Nat.le_of_ble_eq_true rfl⟩) hm hS hA (fun r_15 st_15 H locs hw_15 hM hS => ?_)
                  obtain ⟨n_15, hw_15⟩ := hw_15
                  have n_15 := gN0 n_15
                  subst n_15
                  rcases hw_15 with ⟨rfl, hw_15_0⟩ | ⟨rfl, hw_15_0⟩
                  · skip
                    refine lv_if_eq (tgt := 138) hx hb dX7_advance_128 (by decide) (fun h9 => absurd h9 (by decide)) (fun _ => ?_)
                    refine lv_aload_n hx hb dX7_advance_131 rfl (lv_at hl 1 rfl) ?_
                    refine gs_callv (va_runV (As := []) (rest := []) ⟨hx, hb, hml, hown, hts⟩ (s_X7_readRun l G cy sK sV ad H.size st_6  (by have hq0 : st_6 1 0 1 = (st 1 0 1) := (((congrFun (congrFun (congrFun est_6 1) 0) 1).trans (congrFun (congrFun (gU_k (by decide)) 0) 1)).trans ((congrFun (congrFun (hn2 1 (by decide)) 0) 1).trans ((congrFun (congrFun (congrFun est_1 1) 0) 1).trans (congrFun (congrFun (gU_k (by decide)) 0) 1)))); rw [hq0]; omega)) ⟨(gz_cb (n := 0) hts gm_384 gm_3 gm_387 ⟨by decide +kernel, by decide +kernel, by decide +kernel⟩ ⟨Nat.le_of_ble_eq_true rfl, Nat.le_of_ble_eq_true rfl⟩), hts _ gm_386, hts _ gs_1⟩ (gs_preV hK hov hE hI hM hm hS hA 3 0 (by decide) rfl rfl) rfl rfl hl.1 rfl (lv_room (Nat.le_of_ble_eq_true rfl)) dX7_advance_132 ⟨Nat.le_of_ble_eq_true rfl, Nat.le_of_ble_eq_true rfl⟩) hm hS hA (fun st_16 H locs hw_16 hM hS => ?_)
                    obtain ⟨n_16, hw_16⟩ := hw_16
                    refine lv_goto (tgt := 143) hx hb dX7_advance_135 (by decide) ?_
                    rw [← hQe]
                    exact gs_vret hx hb hr hlocks hM hS ⟨(gN.trans (by rw [est_6]; exact gN.up (gN.trans (by rw [est_1]; exact gN.up gN.rf (by decide)) (gN.wide hn2 (by decide))) (by decide)) (gN.wide n_16 (by decide))), trivial⟩ (by exact Nat.le_refl _) (by exact Nat.le_refl _) dX7_advance_143
                  · skip
                    refine lv_if_eq (tgt := 138) hx hb dX7_advance_128 (by decide) (fun _ => ?_) (fun h9 => absurd (by decide) h9)
                    refine lv_aload_n hx hb dX7_advance_138 rfl (lv_at hl 1 rfl) ?_
                    refine lv_iconst (v := 1) hx hb dX7_advance_139 (by decide) ?_
                    refine gs_put (C := RX7) (T := TX7) (N := 6) (ty := .int) (val := .int 1) hx hb hts inX7 tyX7 tyX7_ok nmX7 hown hK hI hm hM hS 3 0 1 (by decide) rfl rfl (by decide) (hts _ gm_54) (fun _ h9 => h9) rfl (1 : Int32) rfl (by decide +kernel) rfl rfl (Nat.le_of_ble_eq_true rfl) dX7_advance_140 (fun st_17 H locs est_17 hM hS => ?_)
                    rw [← hQe]
                    exact gs_vret hx hb hr hlocks hM hS ⟨(by rw [est_17]; exact gN.up (by rw [est_6]; exact gN.up (gN.trans (by rw [est_1]; exact gN.up gN.rf (by decide)) (gN.wide hn2 (by decide))) (by decide)) (by decide)), trivial⟩ (by exact Nat.le_refl _) (by exact Nat.le_refl _) dX7_advance_143
              · have ic_12 := gz_eqn (rfl : r_4.toInt = r_4.toInt) (by decide : (59 : Int32).toInt = 59) c_12
                refine lv_aload_n hx hb dX7_advance_109 rfl (lv_at hl 1 rfl) ?_
                refine lv_iconst (v := 4) hx hb dX7_advance_110 (by decide) ?_
                refine gs_put (C := RX7) (T := TX7) (N := 6) (ty := .int) (val := .int 4) hx hb hts inX7 tyX7 tyX7_ok nmX7 hown hK hI hm hM hS 3 0 1 (by decide) rfl rfl (by decide) (hts _ gm_54) (fun _ h9 => h9) rfl (4 : Int32) rfl (by decide +kernel) rfl rfl (Nat.le_of_ble_eq_true rfl) dX7_advance_111 (fun st_18 H locs est_18 hM hS => ?_)
                refine lv_goto (tgt := 143) hx hb dX7_advance_114 (by decide) ?_
                rw [← hQe]
                exact gs_vret hx hb hr hlocks hM hS ⟨(by rw [est_18]; exact gN.up (by rw [est_6]; exact gN.up (gN.trans (by rw [est_1]; exact gN.up gN.rf (by decide)) (gN.wide hn2 (by decide))) (by decide)) (by decide)), trivial⟩ (by exact Nat.le_refl _) (by exact Nat.le_refl _) dX7_advance_143
        · have ic_7 := gz_eqn (rfl : r_4.toInt = r_4.toInt) (by decide : ((-1) : Int32).toInt = -1) c_7
          refine lv_aload_n hx hb dX7_advance_75 rfl (lv_at hl 1 rfl) ?_
          refine lv_iconst (v := 0) hx hb dX7_advance_76 (by decide) ?_
          refine gs_put (C := RX7) (T := TX7) (N := 6) (ty := .int) (val := .int 0) hx hb hts inX7 tyX7 tyX7_ok nmX7 hown hK hI hm hM hS 3 0 1 (by decide) rfl rfl (by decide) (hts _ gm_54) (fun _ h9 => h9) rfl (0 : Int32) rfl (by decide +kernel) rfl rfl (Nat.le_of_ble_eq_true rfl) dX7_advance_77 (fun st_19 H locs est_19 hM hS => ?_)
          refine lv_aload_n hx hb dX7_advance_80 rfl (lv_at hl 1 rfl) ?_
          refine lv_aload_n hx hb dX7_advance_81 rfl (lv_at hl 1 rfl) ?_
          refine gs_get (C := RX7) (T := TX7) (N := 6) hx hb hts inX7 hown hK hM 3 0 2 (by decide) rfl rfl (by decide) (hts _ gm_55) (fun _ h9 => h9) rfl dX7_advance_82 ?_
          refine lv_topi (fun x_20 ex_20 => ?_)
          have ex_20 : (sv2 3 0 2) = x_20 := Eq.symm (ex_20.trans (((congrFun (congrFun (congrFun est_19 3) 0) 2).trans (gU_other (by decide))).trans ((congrFun (congrFun (congrFun est_6 3) 0) 2).trans (gU_other (by decide)))))
          subst ex_20
          refine gs_put (C := RX7) (T := TX7) (N := 6) (ty := .int) (val := .int (sv2 3 0 2)) hx hb hts inX7 tyX7 tyX7_ok nmX7 hown hK hI hm hM hS 3 0 3 (by decide) rfl rfl (by decide) (hts _ gm_56) (fun _ h9 => h9) rfl ((sv2 3 0 2) : Int32) rfl (by decide +kernel) rfl rfl (Nat.le_of_ble_eq_true rfl) dX7_advance_85 (fun st_21 H locs est_21 hM hS => ?_)
          refine lv_goto (tgt := 143) hx hb dX7_advance_88 (by decide) ?_
          rw [← hQe]
          exact gs_vret hx hb hr hlocks hM hS ⟨(by rw [est_21]; exact gN.up (by rw [est_19]; exact gN.up (by rw [est_6]; exact gN.up (gN.trans (by rw [est_1]; exact gN.up gN.rf (by decide)) (gN.wide hn2 (by decide))) (by decide)) (by decide)) (by decide)), trivial⟩ (by exact Nat.le_refl _) (by exact Nat.le_refl _) dX7_advance_143
      · have ic_3 := gz_nle (by decide : (800 : Int32).toInt = 800) (rfl : (sv2 3 0 2).toInt = (sv2 3 0 2).toInt) c_3
        refine lv_aload_n hx hb dX7_advance_18 rfl (lv_at hl 0 rfl) ?_
        refine gs_get (C := RX7) (T := TX7) (N := 6) hx hb hts inX7 hown hK hM 3 0 0 (by decide) rfl rfl (by decide) (hts _ gm_53) (fun _ h9 => h9) rfl dX7_advance_19 ?_
        refine lv_aload_n hx hb dX7_advance_22 rfl (lv_at hl 0 rfl) ?_
        refine gs_get (C := RX7) (T := TX7) (N := 6) hx hb hts inX7 hown hK hM 3 0 2 (by decide) rfl rfl (by decide) (hts _ gm_55) (fun _ h9 => h9) rfl dX7_advance_23 ?_
        refine gs_calli (va_runV (As := [.int (sv2 3 0 2)]) (rest := []) ⟨hx, hb, hml, hown, hts⟩ (s_X8_byteAt l G cy sK sV ad H.size sv2 (sv2 3 0 2) ((sv2 3 0 2).toInt) rfl (by have hq0 : sv2 1 0 1 = (st 1 0 1) := ((congrFun (congrFun (hn2 1 (by decide)) 0) 1).trans ((congrFun (congrFun (congrFun est_1 1) 0) 1).trans (congrFun (congrFun (gU_k (by decide)) 0) 1))); rw [hq0]; omega)) ⟨(gz_cb (n := 1) hts gm_371 gm_2 gm_374 ⟨by decide +kernel, by decide +kernel, by decide +kernel⟩ ⟨Nat.le_of_ble_eq_true rfl, Nat.le_of_ble_eq_true rfl⟩), hts _ gm_372, hts _ gm_373⟩ (gs_preV hK hov hE hI hM hm hS hA 1 0 (by decide) rfl rfl) rfl rfl hl.1 rfl (lv_room (Nat.le_of_ble_eq_true rfl)) dX7_advance_26 ⟨Nat.le_of_ble_eq_true rfl, Nat.le_of_ble_eq_true rfl⟩) hm hS hA (fun r_22 st_22 H locs hw_22 hM hS => ?_)
        obtain ⟨n_22, hw_22⟩ := hw_22
        have n_22 := gN0 n_22
        subst n_22
        have hw_22_0 := hw_22
        refine gs_calli (va_runS (As := [.int r_22]) (rest := []) ⟨hx, hb, hml, hown, hts⟩ (s_X7_isBlank l G cy sK sV ad H.size sv2 r_22 r_22.toInt rfl ) ⟨(gz_cb (n := 1) hts gm_375 gm_3 gm_377 ⟨by decide +kernel, by decide +kernel, by decide +kernel⟩ ⟨Nat.le_of_ble_eq_true rfl, Nat.le_of_ble_eq_true rfl⟩), hts _ gm_376⟩ (gs_preS hK hov hE hI hM hm hS hA) rfl rfl hl.1 rfl (lv_room (Nat.le_of_ble_eq_true rfl)) dX7_advance_29 ⟨Nat.le_of_ble_eq_true rfl, Nat.le_of_ble_eq_true rfl⟩) hm hS hA (fun r_23 st_23 H locs hw_23 hM hS => ?_)
        obtain ⟨n_23, hw_23⟩ := hw_23
        have n_23 := gN0 n_23
        subst n_23
        rcases hw_23 with ⟨rfl, hw_23_0⟩ | ⟨rfl, hw_23_0, hw_23_1⟩
        · skip
          refine lv_if_eq (tgt := 48) hx hb dX7_advance_32 (by decide) (fun h9 => absurd h9 (by decide)) (fun _ => ?_)
          refine lv_aload_n hx hb dX7_advance_35 rfl (lv_at hl 0 rfl) ?_
          refine lv_dup hx hb dX7_advance_36 rfl ?_
          refine gs_get (C := RX7) (T := TX7) (N := 6) hx hb hts inX7 hown hK hM 3 0 2 (by decide) rfl rfl (by decide) (hts _ gm_55) (fun _ h9 => h9) rfl dX7_advance_37 ?_
          refine lv_iconst (v := 1) hx hb dX7_advance_40 (by decide) ?_
          refine lv_iadd hx hb dX7_advance_41 ?_
          refine lv_topi (fun x_24 ex_24 => ?_)
          have tx_24 : x_24.toInt = (sv2 3 0 2).toInt + 1 := by rw [ex_24]; exact gz_addP rfl (by decide) (by omega) (by omega)
          refine gs_put (C := RX7) (T := TX7) (N := 6) (ty := .int) (val := .int x_24) hx hb hts inX7 tyX7 tyX7_ok nmX7 hown hK hI hm hM hS 3 0 2 (by decide) rfl rfl (by decide) (hts _ gm_55) (fun _ h9 => h9) rfl (x_24 : Int32) rfl (by decide +kernel) rfl rfl (Nat.le_of_ble_eq_true rfl) dX7_advance_42 (fun st_25 H locs est_25 hM hS => ?_)
          refine lv_goto (tgt := 8) hx hb dX7_advance_45 (by decide) ?_
          exact ih_2 st_25  H _ ls (by have hq0 : st_25 3 0 2 = x_24 := ((congrFun (congrFun (congrFun est_25 3) 0) 2).trans (gU_same _ _ _ _ _)); rw [hq0]; omega) (by rw [est_25]; exact gN.up (gN.trans gN.rf (gN.wide hn2 (by decide))) (by decide))  hM hS (lv_sub hl [0] rfl)
        · skip
          refine lv_if_eq (tgt := 48) hx hb dX7_advance_32 (by decide) (fun _ => ?_) (fun h9 => absurd (by decide) h9)
          refine lv_aload_n hx hb dX7_advance_48 rfl (lv_at hl 0 rfl) ?_
          refine gs_get (C := RX7) (T := TX7) (N := 6) hx hb hts inX7 hown hK hM 3 0 0 (by decide) rfl rfl (by decide) (hts _ gm_53) (fun _ h9 => h9) rfl dX7_advance_49 ?_
          refine lv_aload_n hx hb dX7_advance_52 rfl (lv_at hl 0 rfl) ?_
          refine gs_get (C := RX7) (T := TX7) (N := 6) hx hb hts inX7 hown hK hM 3 0 2 (by decide) rfl rfl (by decide) (hts _ gm_55) (fun _ h9 => h9) rfl dX7_advance_53 ?_
          refine gs_calli (va_runV (As := [.int (sv2 3 0 2)]) (rest := []) ⟨hx, hb, hml, hown, hts⟩ (s_X8_byteAt l G cy sK sV ad H.size sv2 (sv2 3 0 2) ((sv2 3 0 2).toInt) rfl (by have hq0 : sv2 1 0 1 = (st 1 0 1) := ((congrFun (congrFun (hn2 1 (by decide)) 0) 1).trans ((congrFun (congrFun (congrFun est_1 1) 0) 1).trans (congrFun (congrFun (gU_k (by decide)) 0) 1))); rw [hq0]; omega)) ⟨(gz_cb (n := 1) hts gm_371 gm_2 gm_374 ⟨by decide +kernel, by decide +kernel, by decide +kernel⟩ ⟨Nat.le_of_ble_eq_true rfl, Nat.le_of_ble_eq_true rfl⟩), hts _ gm_372, hts _ gm_373⟩ (gs_preV hK hov hE hI hM hm hS hA 1 0 (by decide) rfl rfl) rfl rfl hl.1 rfl (lv_room (Nat.le_of_ble_eq_true rfl)) dX7_advance_56 ⟨Nat.le_of_ble_eq_true rfl, Nat.le_of_ble_eq_true rfl⟩) hm hS hA (fun r_26 st_26 H locs hw_26 hM hS => ?_)
          obtain ⟨n_26, hw_26⟩ := hw_26
          have n_26 := gN0 n_26
          subst n_26
          have hw_26_0 := hw_26
          refine lv_istore_n (lv' := [(1, .int r_26), (0, .ref (ad 3 0))]) hx hb dX7_advance_59 rfl hl (by decide) rfl (fun ls hl => ?_)
          refine lv_aload_n hx hb dX7_advance_60 rfl (lv_at hl 1 rfl) ?_
          refine lv_aload_n hx hb dX7_advance_61 rfl (lv_at hl 1 rfl) ?_
          refine gs_get (C := RX7) (T := TX7) (N := 6) hx hb hts inX7 hown hK hM 3 0 2 (by decide) rfl rfl (by decide) (hts _ gm_55) (fun _ h9 => h9) rfl dX7_advance_62 ?_
          refine lv_iconst (v := 1) hx hb dX7_advance_65 (by decide) ?_
          refine lv_iadd hx hb dX7_advance_66 ?_
          refine lv_topi (fun x_27 ex_27 => ?_)
          refine gs_put (C := RX7) (T := TX7) (N := 6) (ty := .int) (val := .int x_27) hx hb hts inX7 tyX7 tyX7_ok nmX7 hown hK hI hm hM hS 3 0 3 (by decide) rfl rfl (by decide) (hts _ gm_56) (fun _ h9 => h9) rfl (x_27 : Int32) rfl (by decide +kernel) rfl rfl (Nat.le_of_ble_eq_true rfl) dX7_advance_67 (fun st_28 H locs est_28 hM hS => ?_)
          refine lv_iload_n hx hb dX7_advance_70 rfl (lv_at hl 0 rfl) ?_
          refine lv_iconst (v := (-1)) hx hb dX7_advance_71 (by decide) ?_
          refine lv_icmp_ne (tgt := 91) hx hb dX7_advance_72 (by decide) (fun c_29 => ?_) (fun c_29 => ?_)
          · have ic_29 := gz_ne (rfl : r_26.toInt = r_26.toInt) (by decide : ((-1) : Int32).toInt = -1) c_29
            refine lv_iload_n hx hb dX7_advance_91 rfl (lv_at hl 0 rfl) ?_
            refine lv_bipush (v := 58) hx hb dX7_advance_92 (by decide) ?_
            refine lv_icmp_eq (tgt := 109) hx hb dX7_advance_94 (by decide) (fun c_30 => ?_) (fun c_30 => ?_)
            · have ic_30 := gz_eq (rfl : r_26.toInt = r_26.toInt) (by decide : (58 : Int32).toInt = 58) c_30
              refine lv_aload_n hx hb dX7_advance_109 rfl (lv_at hl 1 rfl) ?_
              refine lv_iconst (v := 4) hx hb dX7_advance_110 (by decide) ?_
              refine gs_put (C := RX7) (T := TX7) (N := 6) (ty := .int) (val := .int 4) hx hb hts inX7 tyX7 tyX7_ok nmX7 hown hK hI hm hM hS 3 0 1 (by decide) rfl rfl (by decide) (hts _ gm_54) (fun _ h9 => h9) rfl (4 : Int32) rfl (by decide +kernel) rfl rfl (Nat.le_of_ble_eq_true rfl) dX7_advance_111 (fun st_31 H locs est_31 hM hS => ?_)
              refine lv_goto (tgt := 143) hx hb dX7_advance_114 (by decide) ?_
              rw [← hQe]
              exact gs_vret hx hb hr hlocks hM hS ⟨(by rw [est_31]; exact gN.up (by rw [est_28]; exact gN.up (gN.trans (by rw [est_1]; exact gN.up gN.rf (by decide)) (gN.wide hn2 (by decide))) (by decide)) (by decide)), trivial⟩ (by exact Nat.le_refl _) (by exact Nat.le_refl _) dX7_advance_143
            · have ic_30 := gz_ne (rfl : r_26.toInt = r_26.toInt) (by decide : (58 : Int32).toInt = 58) c_30
              refine lv_iload_n hx hb dX7_advance_97 rfl (lv_at hl 0 rfl) ?_
              refine lv_bipush (v := 44) hx hb dX7_advance_98 (by decide) ?_
              refine lv_icmp_eq (tgt := 109) hx hb dX7_advance_100 (by decide) (fun c_32 => ?_) (fun c_32 => ?_)
              · have ic_32 := gz_eq (rfl : r_26.toInt = r_26.toInt) (by decide : (44 : Int32).toInt = 44) c_32
                refine lv_aload_n hx hb dX7_advance_109 rfl (lv_at hl 1 rfl) ?_
                refine lv_iconst (v := 4) hx hb dX7_advance_110 (by decide) ?_
                refine gs_put (C := RX7) (T := TX7) (N := 6) (ty := .int) (val := .int 4) hx hb hts inX7 tyX7 tyX7_ok nmX7 hown hK hI hm hM hS 3 0 1 (by decide) rfl rfl (by decide) (hts _ gm_54) (fun _ h9 => h9) rfl (4 : Int32) rfl (by decide +kernel) rfl rfl (Nat.le_of_ble_eq_true rfl) dX7_advance_111 (fun st_33 H locs est_33 hM hS => ?_)
                refine lv_goto (tgt := 143) hx hb dX7_advance_114 (by decide) ?_
                rw [← hQe]
                exact gs_vret hx hb hr hlocks hM hS ⟨(by rw [est_33]; exact gN.up (by rw [est_28]; exact gN.up (gN.trans (by rw [est_1]; exact gN.up gN.rf (by decide)) (gN.wide hn2 (by decide))) (by decide)) (by decide)), trivial⟩ (by exact Nat.le_refl _) (by exact Nat.le_refl _) dX7_advance_143
              · have ic_32 := gz_ne (rfl : r_26.toInt = r_26.toInt) (by decide : (44 : Int32).toInt = 44) c_32
                refine lv_iload_n hx hb dX7_advance_103 rfl (lv_at hl 0 rfl) ?_
                refine lv_bipush (v := 59) hx hb dX7_advance_104 (by decide) ?_
                refine lv_icmp_ne (tgt := 117) hx hb dX7_advance_106 (by decide) (fun c_34 => ?_) (fun c_34 => ?_)
                · have ic_34 := gz_ne (rfl : r_26.toInt = r_26.toInt) (by decide : (59 : Int32).toInt = 59) c_34
                  refine lv_iload_n hx hb dX7_advance_117 rfl (lv_at hl 0 rfl) ?_
                  refine gs_calli (va_runS (As := [.int r_26]) (rest := []) ⟨hx, hb, hml, hown, hts⟩ (s_X7_isDigit l G cy sK sV ad H.size st_28 r_26 r_26.toInt rfl ) ⟨(gz_cb (n := 1) hts gm_378 gm_3 gm_380 ⟨by decide +kernel, by decide +kernel, by decide +kernel⟩ ⟨Nat.le_of_ble_eq_true rfl, Nat.le_of_ble_eq_true rfl⟩), hts _ gm_379⟩ (gs_preS hK hov hE hI hM hm hS hA) rfl rfl hl.1 rfl (lv_room (Nat.le_of_ble_eq_true rfl)) dX7_advance_118 ⟨Nat.le_of_ble_eq_true rfl, Nat.le_of_ble_eq_true rfl⟩) hm hS hA (fun r_35 st_35 H locs hw_35 hM hS => ?_)
                  obtain ⟨n_35, hw_35⟩ := hw_35
                  have n_35 := gN0 n_35
                  subst n_35
                  rcases hw_35 with ⟨rfl, hw_35_0, hw_35_1⟩ | ⟨rfl, hw_35_0⟩
                  · skip
                    refine lv_if_ne (tgt := 131) hx hb dX7_advance_121 (by decide) (fun _ => ?_) (fun h9 => absurd h9 (by decide))
                    refine lv_aload_n hx hb dX7_advance_131 rfl (lv_at hl 1 rfl) ?_
                    refine gs_callv (va_runV (As := []) (rest := []) ⟨hx, hb, hml, hown, hts⟩ (s_X7_readRun l G cy sK sV ad H.size st_28  (by have hq0 : st_28 1 0 1 = (st 1 0 1) := (((congrFun (congrFun (congrFun est_28 1) 0) 1).trans (congrFun (congrFun (gU_k (by decide)) 0) 1)).trans ((congrFun (congrFun (hn2 1 (by decide)) 0) 1).trans ((congrFun (congrFun (congrFun est_1 1) 0) 1).trans (congrFun (congrFun (gU_k (by decide)) 0) 1)))); rw [hq0]; omega)) ⟨(gz_cb (n := 0) hts gm_384 gm_3 gm_387 ⟨by decide +kernel, by decide +kernel, by decide +kernel⟩ ⟨Nat.le_of_ble_eq_true rfl, Nat.le_of_ble_eq_true rfl⟩), hts _ gm_386, hts _ gs_1⟩ (gs_preV hK hov hE hI hM hm hS hA 3 0 (by decide) rfl rfl) rfl rfl hl.1 rfl (lv_room (Nat.le_of_ble_eq_true rfl)) dX7_advance_132 ⟨Nat.le_of_ble_eq_true rfl, Nat.le_of_ble_eq_true rfl⟩) hm hS hA (fun st_36 H locs hw_36 hM hS => ?_)
                    obtain ⟨n_36, hw_36⟩ := hw_36
                    refine lv_goto (tgt := 143) hx hb dX7_advance_135 (by decide) ?_
                    rw [← hQe]
                    exact gs_vret hx hb hr hlocks hM hS ⟨(gN.trans (by rw [est_28]; exact gN.up (gN.trans (by rw [est_1]; exact gN.up gN.rf (by decide)) (gN.wide hn2 (by decide))) (by decide)) (gN.wide n_36 (by decide))), trivial⟩ (by exact Nat.le_refl _) (by exact Nat.le_refl _) dX7_advance_143
                  · skip
                    refine lv_if_ne (tgt := 131) hx hb dX7_advance_121 (by decide) (fun h9 => absurd (by decide) h9) (fun _ => ?_)
                    refine lv_iload_n hx hb dX7_advance_124 rfl (lv_at hl 0 rfl) ?_
                    refine gs_calli (va_runS (As := [.int r_26]) (rest := []) ⟨hx, hb, hml, hown, hts⟩ (s_X7_isLetter l G cy sK sV ad H.size st_28 r_26 r_26.toInt rfl ) ⟨(gz_cb (n := 1) hts gm_381 gm_3 gm_383 ⟨by decide +kernel, by decide +kernel, by decide +kernel⟩ ⟨Nat.le_of_ble_eq_true rfl, Nat.le_of_ble_eq_true rfl⟩), hts _ gm_382⟩ (gs_preS hK hov hE hI hM hm hS hA) rfl rfl hl.1 rfl (lv_room (Nat.le_of_ble_eq_true rfl)) dX7_advance_125 ⟨Nat.le_of_ble_eq_true rfl, Nat.le_of_ble_eq_true rfl⟩) hm hS hA (fun r_37 st_37 H locs hw_37 hM hS => ?_)
                    obtain ⟨n_37, hw_37⟩ := hw_37
                    have n_37 := gN0 n_37
                    subst n_37
                    rcases hw_37 with ⟨rfl, hw_37_0⟩ | ⟨rfl, hw_37_0⟩
                    · skip
                      refine lv_if_eq (tgt := 138) hx hb dX7_advance_128 (by decide) (fun h9 => absurd h9 (by decide)) (fun _ => ?_)
                      refine lv_aload_n hx hb dX7_advance_131 rfl (lv_at hl 1 rfl) ?_
                      refine gs_callv (va_runV (As := []) (rest := []) ⟨hx, hb, hml, hown, hts⟩ (s_X7_readRun l G cy sK sV ad H.size st_28  (by have hq0 : st_28 1 0 1 = (st 1 0 1) := (((congrFun (congrFun (congrFun est_28 1) 0) 1).trans (congrFun (congrFun (gU_k (by decide)) 0) 1)).trans ((congrFun (congrFun (hn2 1 (by decide)) 0) 1).trans ((congrFun (congrFun (congrFun est_1 1) 0) 1).trans (congrFun (congrFun (gU_k (by decide)) 0) 1)))); rw [hq0]; omega)) ⟨(gz_cb (n := 0) hts gm_384 gm_3 gm_387 ⟨by decide +kernel, by decide +kernel, by decide +kernel⟩ ⟨Nat.le_of_ble_eq_true rfl, Nat.le_of_ble_eq_true rfl⟩), hts _ gm_386, hts _ gs_1⟩ (gs_preV hK hov hE hI hM hm hS hA 3 0 (by decide) rfl rfl) rfl rfl hl.1 rfl (lv_room (Nat.le_of_ble_eq_true rfl)) dX7_advance_132 ⟨Nat.le_of_ble_eq_true rfl, Nat.le_of_ble_eq_true rfl⟩) hm hS hA (fun st_38 H locs hw_38 hM hS => ?_)
                      obtain ⟨n_38, hw_38⟩ := hw_38
                      refine lv_goto (tgt := 143) hx hb dX7_advance_135 (by decide) ?_
                      rw [← hQe]
                      exact gs_vret hx hb hr hlocks hM hS ⟨(gN.trans (by rw [est_28]; exact gN.up (gN.trans (by rw [est_1]; exact gN.up gN.rf (by decide)) (gN.wide hn2 (by decide))) (by decide)) (gN.wide n_38 (by decide))), trivial⟩ (by exact Nat.le_refl _) (by exact Nat.le_refl _) dX7_advance_143
                    · skip
                      refine lv_if_eq (tgt := 138) hx hb dX7_advance_128 (by decide) (fun _ => ?_) (fun h9 => absurd (by decide) h9)
                      refine lv_aload_n hx hb dX7_advance_138 rfl (lv_at hl 1 rfl) ?_
                      refine lv_iconst (v := 1) hx hb dX7_advance_139 (by decide) ?_
                      refine gs_put (C := RX7) (T := TX7) (N := 6) (ty := .int) (val := .int 1) hx hb hts inX7 tyX7 tyX7_ok nmX7 hown hK hI hm hM hS 3 0 1 (by decide) rfl rfl (by decide) (hts _ gm_54) (fun _ h9 => h9) rfl (1 : Int32) rfl (by decide +kernel) rfl rfl (Nat.le_of_ble_eq_true rfl) dX7_advance_140 (fun st_39 H locs est_39 hM hS => ?_)
                      rw [← hQe]
                      exact gs_vret hx hb hr hlocks hM hS ⟨(by rw [est_39]; exact gN.up (by rw [est_28]; exact gN.up (gN.trans (by rw [est_1]; exact gN.up gN.rf (by decide)) (gN.wide hn2 (by decide))) (by decide)) (by decide)), trivial⟩ (by exact Nat.le_refl _) (by exact Nat.le_refl _) dX7_advance_143
                · have ic_34 := gz_eqn (rfl : r_26.toInt = r_26.toInt) (by decide : (59 : Int32).toInt = 59) c_34
                  refine lv_aload_n hx hb dX7_advance_109 rfl (lv_at hl 1 rfl) ?_
                  refine lv_iconst (v := 4) hx hb dX7_advance_110 (by decide) ?_
                  refine gs_put (C := RX7) (T := TX7) (N := 6) (ty := .int) (val := .int 4) hx hb hts inX7 tyX7 tyX7_ok nmX7 hown hK hI hm hM hS 3 0 1 (by decide) rfl rfl (by decide) (hts _ gm_54) (fun _ h9 => h9) rfl (4 : Int32) rfl (by decide +kernel) rfl rfl (Nat.le_of_ble_eq_true rfl) dX7_advance_111 (fun st_40 H locs est_40 hM hS => ?_)
                  refine lv_goto (tgt := 143) hx hb dX7_advance_114 (by decide) ?_
                  rw [← hQe]
                  exact gs_vret hx hb hr hlocks hM hS ⟨(by rw [est_40]; exact gN.up (by rw [est_28]; exact gN.up (gN.trans (by rw [est_1]; exact gN.up gN.rf (by decide)) (gN.wide hn2 (by decide))) (by decide)) (by decide)), trivial⟩ (by exact Nat.le_refl _) (by exact Nat.le_refl _) dX7_advance_143
          · have ic_29 := gz_eqn (rfl : r_26.toInt = r_26.toInt) (by decide : ((-1) : Int32).toInt = -1) c_29
            refine lv_aload_n hx hb dX7_advance_75 rfl (lv_at hl 1 rfl) ?_
            refine lv_iconst (v := 0) hx hb dX7_advance_76 (by decide) ?_
            refine gs_put (C := RX7) (T := TX7) (N := 6) (ty := .int) (val := .int 0) hx hb hts inX7 tyX7 tyX7_ok nmX7 hown hK hI hm hM hS 3 0 1 (by decide) rfl rfl (by decide) (hts _ gm_54) (fun _ h9 => h9) rfl (0 : Int32) rfl (by decide +kernel) rfl rfl (Nat.le_of_ble_eq_true rfl) dX7_advance_77 (fun st_41 H locs est_41 hM hS => ?_)
            refine lv_aload_n hx hb dX7_advance_80 rfl (lv_at hl 1 rfl) ?_
            refine lv_aload_n hx hb dX7_advance_81 rfl (lv_at hl 1 rfl) ?_
            refine gs_get (C := RX7) (T := TX7) (N := 6) hx hb hts inX7 hown hK hM 3 0 2 (by decide) rfl rfl (by decide) (hts _ gm_55) (fun _ h9 => h9) rfl dX7_advance_82 ?_
            refine lv_topi (fun x_42 ex_42 => ?_)
            have ex_42 : (sv2 3 0 2) = x_42 := Eq.symm (ex_42.trans (((congrFun (congrFun (congrFun est_41 3) 0) 2).trans (gU_other (by decide))).trans ((congrFun (congrFun (congrFun est_28 3) 0) 2).trans (gU_other (by decide)))))
            subst ex_42
            refine gs_put (C := RX7) (T := TX7) (N := 6) (ty := .int) (val := .int (sv2 3 0 2)) hx hb hts inX7 tyX7 tyX7_ok nmX7 hown hK hI hm hM hS 3 0 3 (by decide) rfl rfl (by decide) (hts _ gm_56) (fun _ h9 => h9) rfl ((sv2 3 0 2) : Int32) rfl (by decide +kernel) rfl rfl (Nat.le_of_ble_eq_true rfl) dX7_advance_85 (fun st_43 H locs est_43 hM hS => ?_)
            refine lv_goto (tgt := 143) hx hb dX7_advance_88 (by decide) ?_
            rw [← hQe]
            exact gs_vret hx hb hr hlocks hM hS ⟨(by rw [est_43]; exact gN.up (by rw [est_41]; exact gN.up (by rw [est_28]; exact gN.up (gN.trans (by rw [est_1]; exact gN.up gN.rf (by decide)) (gN.wide hn2 (by decide))) (by decide)) (by decide)) (by decide)), trivial⟩ (by exact Nat.le_refl _) (by exact Nat.le_refl _) dX7_advance_143
  exact lp2 ((800 - (st_1 3 0 2).toInt).toNat + 1) st_1  H _ ls (Nat.lt_succ_self _) gN.rf  hM hS hl
