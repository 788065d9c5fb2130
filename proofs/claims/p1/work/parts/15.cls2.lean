theorem gm_17 : (Jvm.Cond.initialized "java/lang/Math") ∈ gz_T := gz_at 17 (by decide +kernel) rfl
theorem gm_367 : (Jvm.Cond.methodLink "WellCourt$Reader" (31 : Nat) ({ cls := "WellCourt$Reader", name := "advance", desc := "()V" } : Jvm.MethodName)) ∈ gz_T := gz_at 367 (by decide +kernel) rfl
theorem gm_369 : (Jvm.Cond.instanceMethod ({ cls := "WellCourt$Reader", name := "advance", desc := "()V" } : Jvm.MethodName)) ∈ gz_T := gz_at 369 (by decide +kernel) rfl
theorem gm_370 : (Jvm.Cond.code ({ cls := "WellCourt$Reader", name := "advance", desc := "()V" } : Jvm.MethodName) prog_9_method_17_code (2 : Nat) (Option.none : Option Jvm.ClassFile.FieldType)) ∈ gz_T := gz_at 370 (by decide +kernel) rfl
theorem gm_371 : (Jvm.Cond.methodLink "WellCourt$Reader" (127 : Nat) ({ cls := "WellCourt$Tape", name := "byteAt", desc := "(I)I" } : Jvm.MethodName)) ∈ gz_T := gz_at 371 (by decide +kernel) rfl
theorem gm_372 : (Jvm.Cond.instanceMethod ({ cls := "WellCourt$Tape", name := "byteAt", desc := "(I)I" } : Jvm.MethodName)) ∈ gz_T := gz_at 372 (by decide +kernel) rfl
theorem gm_373 : (Jvm.Cond.selects "WellCourt$Tape" ({ cls := "WellCourt$Tape", name := "byteAt", desc := "(I)I" } : Jvm.MethodName) ({ cls := "WellCourt$Tape", name := "byteAt", desc := "(I)I" } : Jvm.MethodName)) ∈ gz_T := gz_at 373 (by decide +kernel) rfl
theorem gm_374 : (Jvm.Cond.code ({ cls := "WellCourt$Tape", name := "byteAt", desc := "(I)I" } : Jvm.MethodName) prog_10_method_3_code (2 : Nat) (Option.some Jvm.ClassFile.FieldType.int)) ∈ gz_T := gz_at 374 (by decide +kernel) rfl
theorem gm_375 : (Jvm.Cond.methodLink "WellCourt$Reader" (149 : Nat) ({ cls := "WellCourt$Reader", name := "isBlank", desc := "(I)Z" } : Jvm.MethodName)) ∈ gz_T := gz_at 375 (by decide +kernel) rfl
theorem gm_376 : (Jvm.Cond.static ({ cls := "WellCourt$Reader", name := "isBlank", desc := "(I)Z" } : Jvm.MethodName)) ∈ gz_T := gz_at 376 (by decide +kernel) rfl
theorem gm_377 : (Jvm.Cond.code ({ cls := "WellCourt$Reader", name := "isBlank", desc := "(I)Z" } : Jvm.MethodName) prog_9_method_19_code (1 : Nat) (Option.some Jvm.ClassFile.FieldType.boolean)) ∈ gz_T := gz_at 377 (by decide +kernel) rfl
theorem gm_536 : (Jvm.Cond.methodLink "WellCourt$Calendar" (29 : Nat) ({ cls := "java/lang/Math", name := "max", desc := "(II)I" } : Jvm.MethodName)) ∈ gz_T := gz_at 536 (by decide +kernel) rfl
theorem gm_537 : (Jvm.Cond.static ({ cls := "java/lang/Math", name := "max", desc := "(II)I" } : Jvm.MethodName)) ∈ gz_T := gz_at 537 (by decide +kernel) rfl
theorem gm_538 : (Jvm.Cond.code ({ cls := "java/lang/Math", name := "max", desc := "(II)I" } : Jvm.MethodName) prog_15_method_65_code (2 : Nat) (Option.some Jvm.ClassFile.FieldType.int)) ∈ gz_T := gz_at 538 (by decide +kernel) rfl
theorem gm_539 : (Jvm.Cond.methodLink "WellCourt$Calendar" (35 : Nat) ({ cls := "WellCourt$Law", name := "turnOn", desc := "(II)I" } : Jvm.MethodName)) ∈ gz_T := gz_at 539 (by decide +kernel) rfl
theorem gm_540 : (Jvm.Cond.instanceMethod ({ cls := "WellCourt$Law", name := "turnOn", desc := "(II)I" } : Jvm.MethodName)) ∈ gz_T := gz_at 540 (by decide +kernel) rfl
theorem gm_541 : (Jvm.Cond.selects "WellCourt$Law" ({ cls := "WellCourt$Law", name := "turnOn", desc := "(II)I" } : Jvm.MethodName) ({ cls := "WellCourt$Law", name := "turnOn", desc := "(II)I" } : Jvm.MethodName)) ∈ gz_T := gz_at 541 (by decide +kernel) rfl
theorem gm_542 : (Jvm.Cond.code ({ cls := "WellCourt$Law", name := "turnOn", desc := "(II)I" } : Jvm.MethodName) prog_6_method_9_code (4 : Nat) (Option.some Jvm.ClassFile.FieldType.int)) ∈ gz_T := gz_at 542 (by decide +kernel) rfl
theorem gm_547 : (Jvm.Cond.methodLink "WellCourt" (250 : Nat) ({ cls := "WellCourt$Day", name := "settle", desc := "(LWellCourt$Law;LWellCourt$Calendar;I)V" } : Jvm.MethodName)) ∈ gz_T := gz_at 547 (by decide +kernel) rfl
theorem gm_548 : (Jvm.Cond.instanceMethod ({ cls := "WellCourt$Day", name := "settle", desc := "(LWellCourt$Law;LWellCourt$Calendar;I)V" } : Jvm.MethodName)) ∈ gz_T := gz_at 548 (by decide +kernel) rfl
theorem gm_549 : (Jvm.Cond.selects "WellCourt$Day" ({ cls := "WellCourt$Day", name := "settle", desc := "(LWellCourt$Law;LWellCourt$Calendar;I)V" } : Jvm.MethodName) ({ cls := "WellCourt$Day", name := "settle", desc := "(LWellCourt$Law;LWellCourt$Calendar;I)V" } : Jvm.MethodName)) ∈ gz_T := gz_at 549 (by decide +kernel) rfl
theorem gm_550 : (Jvm.Cond.code ({ cls := "WellCourt$Day", name := "settle", desc := "(LWellCourt$Law;LWellCourt$Calendar;I)V" } : Jvm.MethodName) prog_3_method_4_code (6 : Nat) (Option.none : Option Jvm.ClassFile.FieldType)) ∈ gz_T := gz_at 550 (by decide +kernel) rfl
theorem gm_551 : (Jvm.Cond.methodLink "WellCourt$Day" (51 : Nat) ({ cls := "WellCourt$Law", name := "droughtOwner", desc := "(II)I" } : Jvm.MethodName)) ∈ gz_T := gz_at 551 (by decide +kernel) rfl
theorem gm_552 : (Jvm.Cond.instanceMethod ({ cls := "WellCourt$Law", name := "droughtOwner", desc := "(II)I" } : Jvm.MethodName)) ∈ gz_T := gz_at 552 (by decide +kernel) rfl
theorem gm_553 : (Jvm.Cond.selects "WellCourt$Law" ({ cls := "WellCourt$Law", name := "droughtOwner", desc := "(II)I" } : Jvm.MethodName) ({ cls := "WellCourt$Law", name := "droughtOwner", desc := "(II)I" } : Jvm.MethodName)) ∈ gz_T := gz_at 553 (by decide +kernel) rfl
theorem gm_554 : (Jvm.Cond.code ({ cls := "WellCourt$Law", name := "droughtOwner", desc := "(II)I" } : Jvm.MethodName) prog_6_method_12_code (4 : Nat) (Option.some Jvm.ClassFile.FieldType.int)) ∈ gz_T := gz_at 554 (by decide +kernel) rfl
theorem gm_555 : (Jvm.Cond.methodLink "WellCourt$Day" (56 : Nat) ({ cls := "WellCourt$Calendar", name := "ownerOn", desc := "(II)I" } : Jvm.MethodName)) ∈ gz_T := gz_at 555 (by decide +kernel) rfl
theorem gm_556 : (Jvm.Cond.instanceMethod ({ cls := "WellCourt$Calendar", name := "ownerOn", desc := "(II)I" } : Jvm.MethodName)) ∈ gz_T := gz_at 556 (by decide +kernel) rfl
theorem gm_557 : (Jvm.Cond.selects "WellCourt$Calendar" ({ cls := "WellCourt$Calendar", name := "ownerOn", desc := "(II)I" } : Jvm.MethodName) ({ cls := "WellCourt$Calendar", name := "ownerOn", desc := "(II)I" } : Jvm.MethodName)) ∈ gz_T := gz_at 557 (by decide +kernel) rfl
theorem gm_558 : (Jvm.Cond.code ({ cls := "WellCourt$Calendar", name := "ownerOn", desc := "(II)I" } : Jvm.MethodName) prog_2_method_2_code (3 : Nat) (Option.some Jvm.ClassFile.FieldType.int)) ∈ gz_T := gz_at 558 (by decide +kernel) rfl
theorem gm_563 : (Jvm.Cond.methodLink "WellCourt" (254 : Nat) ({ cls := "WellCourt$Calendar", name := "keep", desc := "(LWellCourt$Day;I)V" } : Jvm.MethodName)) ∈ gz_T := gz_at 563 (by decide +kernel) rfl
theorem gm_564 : (Jvm.Cond.instanceMethod ({ cls := "WellCourt$Calendar", name := "keep", desc := "(LWellCourt$Day;I)V" } : Jvm.MethodName)) ∈ gz_T := gz_at 564 (by decide +kernel) rfl
theorem gm_565 : (Jvm.Cond.selects "WellCourt$Calendar" ({ cls := "WellCourt$Calendar", name := "keep", desc := "(LWellCourt$Day;I)V" } : Jvm.MethodName) ({ cls := "WellCourt$Calendar", name := "keep", desc := "(LWellCourt$Day;I)V" } : Jvm.MethodName)) ∈ gz_T := gz_at 565 (by decide +kernel) rfl
theorem gm_566 : (Jvm.Cond.code ({ cls := "WellCourt$Calendar", name := "keep", desc := "(LWellCourt$Day;I)V" } : Jvm.MethodName) prog_2_method_4_code (4 : Nat) (Option.none : Option Jvm.ClassFile.FieldType)) ∈ gz_T := gz_at 566 (by decide +kernel) rfl
theorem gm_579 : (Jvm.Cond.methodLink "WellCourt$Day" (33 : Nat) ({ cls := "WellCourt$Land", name := "isThere", desc := "(I)Z" } : Jvm.MethodName)) ∈ gz_T := gz_at 579 (by decide +kernel) rfl
theorem gm_634 : (Jvm.Cond.methodLink "WellCourt$Calendar" (46 : Nat) ({ cls := "WellCourt$Calendar", name := "ownerOn", desc := "(II)I" } : Jvm.MethodName)) ∈ gz_T := gz_at 634 (by decide +kernel) rfl
theorem gm_694 : (Jvm.Cond.static ({ cls := "WellCourt", name := "isHerd", desc := "(I)Z" } : Jvm.MethodName)) ∈ gz_T := gz_at 694 (by decide +kernel) rfl
theorem gm_695 : (Jvm.Cond.code ({ cls := "WellCourt", name := "isHerd", desc := "(I)Z" } : Jvm.MethodName) prog_1_method_32_code (1 : Nat) (Option.some Jvm.ClassFile.FieldType.boolean)) ∈ gz_T := gz_at 695 (by decide +kernel) rfl
theorem gn_126 : (Jvm.Cond.fieldLinkNest "WellCourt$Calendar" (40 : Nat) "WellCourt$Day" "owner" "[I" "WellCourt") ∈ gzN := gz_nest 126 (by decide +kernel) rfl
theorem gn_189 : (Jvm.Cond.fieldLinkNest "WellCourt$Reader" (34 : Nat) "WellCourt$Law" "rules" "I" "WellCourt") ∈ gzN := gz_nest 189 (by decide +kernel) rfl
theorem gn_720 : (Jvm.Cond.methodLinkNest "WellCourt$Planner" (110 : Nat) ({ cls := "WellCourt", name := "isHerd", desc := "(I)Z" } : Jvm.MethodName) "WellCourt") ∈ gzN := gz_nest 720 (by decide +kernel) rfl
theorem gs_0 : (Jvm.Cond.selects "WellCourt$Reader" ({ cls := "WellCourt$Reader", name := "advance", desc := "()V" } : Jvm.MethodName) ({ cls := "WellCourt$Reader", name := "advance", desc := "()V" } : Jvm.MethodName)) ∈ gz_T := gz_sel 0 (by decide +kernel) rfl
theorem dX0_exchange_0 : decode cX0_exchange 0 = .ok (.aload_n 0, 1) := by decide +kernel
theorem dX0_exchange_1 : decode cX0_exchange 1 = .ok (.iload_n 1, 1) := by decide +kernel
theorem dX0_exchange_2 : decode cX0_exchange 2 = .ok (.iload_n 2, 1) := by decide +kernel
theorem dX0_exchange_3 : decode cX0_exchange 3 = .ok (.invokevirtual 46, 3) := by decide +kernel
theorem dX0_exchange_6 : decode cX0_exchange 6 = .ok (.istore 4, 2) := by decide +kernel
theorem dX0_exchange_8 : decode cX0_exchange 8 = .ok (.iload 4, 2) := by decide +kernel
theorem dX0_exchange_10 : decode cX0_exchange 10 = .ok (.iconst (-1), 1) := by decide +kernel
theorem dX0_exchange_11 : decode cX0_exchange 11 = .ok (.if_icmp .eq 9, 3) := by decide +kernel
theorem dX0_exchange_20 : decode cX0_exchange 20 = .ok (.iconst (-1), 1) := by decide +kernel
theorem dX0_exchange_21 : decode cX0_exchange 21 = .ok (.ireturn, 1) := by decide +kernel
theorem dX0_keep_0 : decode cX0_keep 0 = .ok (.iconst 0, 1) := by decide +kernel
theorem dX0_keep_1 : decode cX0_keep 1 = .ok (.istore_n 3, 1) := by decide +kernel
theorem dX0_keep_2 : decode cX0_keep 2 = .ok (.iload_n 3, 1) := by decide +kernel
theorem dX0_keep_3 : decode cX0_keep 3 = .ok (.bipush 6, 2) := by decide +kernel
theorem dX0_keep_5 : decode cX0_keep 5 = .ok (.if_icmp .ge 30, 3) := by decide +kernel
theorem dX0_keep_8 : decode cX0_keep 8 = .ok (.iload_n 2, 1) := by decide +kernel
theorem dX0_keep_9 : decode cX0_keep 9 = .ok (.invokestatic 26, 3) := by decide +kernel
theorem dX0_keep_12 : decode cX0_keep 12 = .ok (.ifCond .eq 23, 3) := by decide +kernel
theorem dX0_keep_15 : decode cX0_keep 15 = .ok (.aload_n 0, 1) := by decide +kernel
theorem dX0_keep_16 : decode cX0_keep 16 = .ok (.getfield 11, 3) := by decide +kernel
theorem dX0_keep_19 : decode cX0_keep 19 = .ok (.iload_n 3, 1) := by decide +kernel
theorem dX0_keep_20 : decode cX0_keep 20 = .ok (.aaload, 1) := by decide +kernel
theorem dX0_keep_21 : decode cX0_keep 21 = .ok (.iload_n 2, 1) := by decide +kernel
theorem dX0_keep_22 : decode cX0_keep 22 = .ok (.aload_n 1, 1) := by decide +kernel
theorem dX0_keep_23 : decode cX0_keep 23 = .ok (.getfield 40, 3) := by decide +kernel
theorem dX0_keep_26 : decode cX0_keep 26 = .ok (.iload_n 3, 1) := by decide +kernel
theorem dX0_keep_27 : decode cX0_keep 27 = .ok (.iaload, 1) := by decide +kernel
theorem dX0_keep_28 : decode cX0_keep 28 = .ok (.iastore, 1) := by decide +kernel
theorem dX0_keep_29 : decode cX0_keep 29 = .ok (.iinc 3 1, 3) := by decide +kernel
theorem dX0_keep_32 : decode cX0_keep 32 = .ok (.goto (-30), 3) := by decide +kernel
theorem dX0_keep_35 : decode cX0_keep 35 = .ok (.return_, 1) := by decide +kernel
theorem dX0_tellTurns_0 : decode cX0_tellTurns 0 = .ok (.iconst 0, 1) := by decide +kernel
theorem dX0_tellTurns_1 : decode cX0_tellTurns 1 = .ok (.istore_n 3, 1) := by decide +kernel
theorem dX0_tellTurns_2 : decode cX0_tellTurns 2 = .ok (.iload_n 3, 1) := by decide +kernel
theorem dX0_tellTurns_3 : decode cX0_tellTurns 3 = .ok (.bipush 6, 2) := by decide +kernel
theorem dX0_tellTurns_5 : decode cX0_tellTurns 5 = .ok (.if_icmp .ge 46, 3) := by decide +kernel
theorem dX0_tellTurns_8 : decode cX0_tellTurns 8 = .ok (.iload_n 2, 1) := by decide +kernel
theorem dX0_tellTurns_9 : decode cX0_tellTurns 9 = .ok (.iconst 0, 1) := by decide +kernel
theorem dX0_tellTurns_10 : decode cX0_tellTurns 10 = .ok (.invokestatic 29, 3) := by decide +kernel
theorem dX0_tellTurns_13 : decode cX0_tellTurns 13 = .ok (.istore 4, 2) := by decide +kernel
theorem dX0_tellTurns_15 : decode cX0_tellTurns 15 = .ok (.iload 4, 2) := by decide +kernel
theorem dX0_tellTurns_17 : decode cX0_tellTurns 17 = .ok (.sipush 199, 3) := by decide +kernel
theorem dX0_tellTurns_20 : decode cX0_tellTurns 20 = .ok (.if_icmp .gt 25, 3) := by decide +kernel
theorem dX0_tellTurns_23 : decode cX0_tellTurns 23 = .ok (.aload_n 0, 1) := by decide +kernel
theorem dX0_tellTurns_24 : decode cX0_tellTurns 24 = .ok (.getfield 11, 3) := by decide +kernel
theorem dX0_tellTurns_27 : decode cX0_tellTurns 27 = .ok (.iload_n 3, 1) := by decide +kernel
theorem dX0_tellTurns_28 : decode cX0_tellTurns 28 = .ok (.aaload, 1) := by decide +kernel
theorem dX0_tellTurns_29 : decode cX0_tellTurns 29 = .ok (.iload 4, 2) := by decide +kernel
theorem dX0_tellTurns_31 : decode cX0_tellTurns 31 = .ok (.aload_n 1, 1) := by decide +kernel
theorem dX0_tellTurns_32 : decode cX0_tellTurns 32 = .ok (.iload_n 3, 1) := by decide +kernel
theorem dX0_tellTurns_33 : decode cX0_tellTurns 33 = .ok (.iload 4, 2) := by decide +kernel
theorem dX0_tellTurns_35 : decode cX0_tellTurns 35 = .ok (.invokevirtual 35, 3) := by decide +kernel
theorem dX0_tellTurns_38 : decode cX0_tellTurns 38 = .ok (.iastore, 1) := by decide +kernel
theorem dX0_tellTurns_39 : decode cX0_tellTurns 39 = .ok (.iinc 4 1, 3) := by decide +kernel
theorem dX0_tellTurns_42 : decode cX0_tellTurns 42 = .ok (.goto (-27), 3) := by decide +kernel
theorem dX0_tellTurns_45 : decode cX0_tellTurns 45 = .ok (.iinc 3 1, 3) := by decide +kernel
theorem dX0_tellTurns_48 : decode cX0_tellTurns 48 = .ok (.goto (-46), 3) := by decide +kernel
theorem dX0_tellTurns_51 : decode cX0_tellTurns 51 = .ok (.return_, 1) := by decide +kernel
theorem dX1_grow_0 : decode cX1_grow 0 = .ok (.iconst 0, 1) := by decide +kernel
theorem dX1_grow_1 : decode cX1_grow 1 = .ok (.istore_n 3, 1) := by decide +kernel
theorem dX1_grow_2 : decode cX1_grow 2 = .ok (.iload_n 3, 1) := by decide +kernel
theorem dX1_grow_3 : decode cX1_grow 3 = .ok (.bipush 6, 2) := by decide +kernel
theorem dX1_grow_5 : decode cX1_grow 5 = .ok (.if_icmp .ge 57, 3) := by decide +kernel
theorem dX1_grow_8 : decode cX1_grow 8 = .ok (.aload_n 2, 1) := by decide +kernel
theorem dX1_grow_9 : decode cX1_grow 9 = .ok (.iload_n 3, 1) := by decide +kernel
theorem dX1_grow_10 : decode cX1_grow 10 = .ok (.invokevirtual 33, 3) := by decide +kernel
theorem dX1_grow_13 : decode cX1_grow 13 = .ok (.ifCond .eq 43, 3) := by decide +kernel
theorem dX1_grow_56 : decode cX1_grow 56 = .ok (.iinc 3 1, 3) := by decide +kernel
theorem dX1_grow_59 : decode cX1_grow 59 = .ok (.goto (-57), 3) := by decide +kernel
theorem dX1_grow_62 : decode cX1_grow 62 = .ok (.return_, 1) := by decide +kernel
theorem dX1_settle_0 : decode cX1_settle 0 = .ok (.iconst 0, 1) := by decide +kernel
theorem dX1_settle_1 : decode cX1_settle 1 = .ok (.istore 4, 2) := by decide +kernel
theorem dX1_settle_3 : decode cX1_settle 3 = .ok (.iload 4, 2) := by decide +kernel
theorem dX1_settle_5 : decode cX1_settle 5 = .ok (.bipush 6, 2) := by decide +kernel
theorem dX1_settle_7 : decode cX1_settle 7 = .ok (.if_icmp .ge 49, 3) := by decide +kernel
theorem dX1_settle_10 : decode cX1_settle 10 = .ok (.aload_n 1, 1) := by decide +kernel
theorem dX1_settle_11 : decode cX1_settle 11 = .ok (.iload 4, 2) := by decide +kernel
theorem dX1_settle_13 : decode cX1_settle 13 = .ok (.aload_n 0, 1) := by decide +kernel
theorem dX1_settle_14 : decode cX1_settle 14 = .ok (.getfield 15, 3) := by decide +kernel
theorem dX1_settle_17 : decode cX1_settle 17 = .ok (.iload 4, 2) := by decide +kernel
theorem dX1_settle_19 : decode cX1_settle 19 = .ok (.iaload, 1) := by decide +kernel
theorem dX1_settle_20 : decode cX1_settle 20 = .ok (.invokevirtual 51, 3) := by decide +kernel
theorem dX1_settle_23 : decode cX1_settle 23 = .ok (.istore 5, 2) := by decide +kernel
theorem dX1_settle_25 : decode cX1_settle 25 = .ok (.aload_n 0, 1) := by decide +kernel
theorem dX1_settle_26 : decode cX1_settle 26 = .ok (.getfield 18, 3) := by decide +kernel
theorem dX1_settle_29 : decode cX1_settle 29 = .ok (.iload 4, 2) := by decide +kernel
theorem dX1_settle_31 : decode cX1_settle 31 = .ok (.iload 5, 2) := by decide +kernel
theorem dX1_settle_33 : decode cX1_settle 33 = .ok (.iconst (-1), 1) := by decide +kernel
theorem dX1_settle_34 : decode cX1_settle 34 = .ok (.if_icmp .ne 13, 3) := by decide +kernel
theorem dX1_settle_37 : decode cX1_settle 37 = .ok (.aload_n 2, 1) := by decide +kernel
theorem dX1_settle_38 : decode cX1_settle 38 = .ok (.iload 4, 2) := by decide +kernel
theorem dX1_settle_40 : decode cX1_settle 40 = .ok (.iload_n 3, 1) := by decide +kernel
theorem dX1_settle_41 : decode cX1_settle 41 = .ok (.invokevirtual 56, 3) := by decide +kernel
theorem dX1_settle_44 : decode cX1_settle 44 = .ok (.goto 5, 3) := by decide +kernel
theorem dX1_settle_49 : decode cX1_settle 49 = .ok (.iastore, 1) := by decide +kernel
theorem dX1_settle_50 : decode cX1_settle 50 = .ok (.iinc 4 1, 3) := by decide +kernel
theorem dX1_settle_53 : decode cX1_settle 53 = .ok (.goto (-50), 3) := by decide +kernel
theorem dX1_settle_56 : decode cX1_settle 56 = .ok (.return_, 1) := by decide +kernel
theorem dX5_sum_0 : decode cX5_sum 0 = .ok (.iconst 0, 1) := by decide +kernel
theorem dX5_sum_1 : decode cX5_sum 1 = .ok (.istore 5, 2) := by decide +kernel
theorem dX5_sum_3 : decode cX5_sum 3 = .ok (.iconst 0, 1) := by decide +kernel
theorem dX5_sum_4 : decode cX5_sum 4 = .ok (.istore 6, 2) := by decide +kernel
theorem dX5_sum_6 : decode cX5_sum 6 = .ok (.iload 6, 2) := by decide +kernel
theorem dX5_sum_8 : decode cX5_sum 8 = .ok (.aload_n 0, 1) := by decide +kernel
theorem dX5_sum_9 : decode cX5_sum 9 = .ok (.getfield 16, 3) := by decide +kernel
theorem dX5_sum_12 : decode cX5_sum 12 = .ok (.if_icmp .ge 52, 3) := by decide +kernel
theorem dX5_sum_64 : decode cX5_sum 64 = .ok (.iload 5, 2) := by decide +kernel
theorem dX5_sum_66 : decode cX5_sum 66 = .ok (.ireturn, 1) := by decide +kernel
theorem dX5_sumKnown_0 : decode cX5_sumKnown 0 = .ok (.iconst 0, 1) := by decide +kernel
theorem dX5_sumKnown_1 : decode cX5_sumKnown 1 = .ok (.istore 6, 2) := by decide +kernel
theorem dX5_sumKnown_3 : decode cX5_sumKnown 3 = .ok (.iconst 0, 1) := by decide +kernel
theorem dX5_sumKnown_4 : decode cX5_sumKnown 4 = .ok (.istore 7, 2) := by decide +kernel
theorem dX5_sumKnown_6 : decode cX5_sumKnown 6 = .ok (.iload 7, 2) := by decide +kernel
theorem dX5_sumKnown_8 : decode cX5_sumKnown 8 = .ok (.aload_n 0, 1) := by decide +kernel
theorem dX5_sumKnown_9 : decode cX5_sumKnown 9 = .ok (.getfield 16, 3) := by decide +kernel
theorem dX5_sumKnown_12 : decode cX5_sumKnown 12 = .ok (.if_icmp .ge 63, 3) := by decide +kernel
theorem dX5_sumKnown_75 : decode cX5_sumKnown 75 = .ok (.iload 6, 2) := by decide +kernel
theorem dX5_sumKnown_77 : decode cX5_sumKnown 77 = .ok (.ireturn, 1) := by decide +kernel
theorem dX6_actOf_0 : decode cX6_actOf 0 = .ok (.iload_n 1, 1) := by decide +kernel
theorem dX6_actOf_1 : decode cX6_actOf 1 = .ok (.invokestatic 110, 3) := by decide +kernel
theorem dX6_actOf_4 : decode cX6_actOf 4 = .ok (.ifCond .eq 24, 3) := by decide +kernel
theorem dX6_actOf_7 : decode cX6_actOf 7 = .ok (.iload_n 2, 1) := by decide +kernel
theorem dX6_actOf_8 : decode cX6_actOf 8 = .ok (.aload_n 0, 1) := by decide +kernel
theorem dX6_actOf_9 : decode cX6_actOf 9 = .ok (.getfield 45, 3) := by decide +kernel
theorem dX6_actOf_12 : decode cX6_actOf 12 = .ok (.if_icmp .le 16, 3) := by decide +kernel
theorem dX6_actOf_15 : decode cX6_actOf 15 = .ok (.iload_n 2, 1) := by decide +kernel
theorem dX6_actOf_16 : decode cX6_actOf 16 = .ok (.aload_n 0, 1) := by decide +kernel
theorem dX6_actOf_17 : decode cX6_actOf 17 = .ok (.getfield 45, 3) := by decide +kernel
theorem dX6_actOf_20 : decode cX6_actOf 20 = .ok (.aload_n 0, 1) := by decide +kernel
theorem dX6_actOf_21 : decode cX6_actOf 21 = .ok (.getfield 48, 3) := by decide +kernel
theorem dX6_actOf_24 : decode cX6_actOf 24 = .ok (.iadd, 1) := by decide +kernel
theorem dX6_actOf_25 : decode cX6_actOf 25 = .ok (.if_icmp .le 5, 3) := by decide +kernel
theorem dX6_actOf_28 : decode cX6_actOf 28 = .ok (.iconst (-1), 1) := by decide +kernel
theorem dX6_actOf_29 : decode cX6_actOf 29 = .ok (.ireturn, 1) := by decide +kernel
theorem dX6_actOf_30 : decode cX6_actOf 30 = .ok (.aload_n 0, 1) := by decide +kernel
theorem dX6_actOf_31 : decode cX6_actOf 31 = .ok (.getfield 42, 3) := by decide +kernel
theorem dX6_actOf_34 : decode cX6_actOf 34 = .ok (.iload_n 2, 1) := by decide +kernel
theorem dX6_actOf_35 : decode cX6_actOf 35 = .ok (.aload_n 0, 1) := by decide +kernel
theorem dX6_actOf_36 : decode cX6_actOf 36 = .ok (.getfield 45, 3) := by decide +kernel
theorem dX6_actOf_39 : decode cX6_actOf 39 = .ok (.isub, 1) := by decide +kernel
theorem dX6_actOf_40 : decode cX6_actOf 40 = .ok (.iconst 1, 1) := by decide +kernel
theorem dX6_actOf_41 : decode cX6_actOf 41 = .ok (.isub, 1) := by decide +kernel
theorem dX6_actOf_42 : decode cX6_actOf 42 = .ok (.iconst 4, 1) := by decide +kernel
theorem dX6_actOf_43 : decode cX6_actOf 43 = .ok (.imul, 1) := by decide +kernel
theorem dX6_actOf_44 : decode cX6_actOf 44 = .ok (.iload_n 1, 1) := by decide +kernel
theorem dX6_actOf_45 : decode cX6_actOf 45 = .ok (.iadd, 1) := by decide +kernel
theorem dX6_actOf_46 : decode cX6_actOf 46 = .ok (.iaload, 1) := by decide +kernel
theorem dX7_advance_0 : decode cX7_advance 0 = .ok (.aload_n 0, 1) := by decide +kernel
theorem dX7_advance_1 : decode cX7_advance 1 = .ok (.aload_n 0, 1) := by decide +kernel
theorem dX7_advance_2 : decode cX7_advance 2 = .ok (.getfield 18, 3) := by decide +kernel
theorem dX7_advance_5 : decode cX7_advance 5 = .ok (.putfield 15, 3) := by decide +kernel
theorem dX7_advance_8 : decode cX7_advance 8 = .ok (.aload_n 0, 1) := by decide +kernel
theorem dX7_advance_9 : decode cX7_advance 9 = .ok (.getfield 15, 3) := by decide +kernel
theorem dX7_advance_12 : decode cX7_advance 12 = .ok (.sipush 800, 3) := by decide +kernel
theorem dX7_advance_15 : decode cX7_advance 15 = .ok (.if_icmp .ge 33, 3) := by decide +kernel
theorem dX7_advance_18 : decode cX7_advance 18 = .ok (.aload_n 0, 1) := by decide +kernel
theorem dX7_advance_19 : decode cX7_advance 19 = .ok (.getfield 27, 3) := by decide +kernel
theorem dX7_advance_22 : decode cX7_advance 22 = .ok (.aload_n 0, 1) := by decide +kernel
theorem dX7_advance_23 : decode cX7_advance 23 = .ok (.getfield 15, 3) := by decide +kernel
theorem dX7_advance_26 : decode cX7_advance 26 = .ok (.invokevirtual 127, 3) := by decide +kernel
theorem dX7_advance_29 : decode cX7_advance 29 = .ok (.invokestatic 149, 3) := by decide +kernel
theorem dX7_advance_32 : decode cX7_advance 32 = .ok (.ifCond .eq 16, 3) := by decide +kernel
theorem dX7_advance_48 : decode cX7_advance 48 = .ok (.aload_n 0, 1) := by decide +kernel
theorem dX7_advance_49 : decode cX7_advance 49 = .ok (.getfield 27, 3) := by decide +kernel
theorem dX7_advance_52 : decode cX7_advance 52 = .ok (.aload_n 0, 1) := by decide +kernel
theorem dX7_advance_53 : decode cX7_advance 53 = .ok (.getfield 15, 3) := by decide +kernel
theorem dX7_advance_56 : decode cX7_advance 56 = .ok (.invokevirtual 127, 3) := by decide +kernel
theorem dX7_advance_59 : decode cX7_advance 59 = .ok (.istore_n 1, 1) := by decide +kernel
theorem dX7_advance_60 : decode cX7_advance 60 = .ok (.aload_n 0, 1) := by decide +kernel
theorem dX7_advance_61 : decode cX7_advance 61 = .ok (.aload_n 0, 1) := by decide +kernel
theorem dX7_advance_62 : decode cX7_advance 62 = .ok (.getfield 15, 3) := by decide +kernel
theorem dX7_advance_65 : decode cX7_advance 65 = .ok (.iconst 1, 1) := by decide +kernel
theorem dX7_advance_66 : decode cX7_advance 66 = .ok (.iadd, 1) := by decide +kernel
theorem dX7_advance_67 : decode cX7_advance 67 = .ok (.putfield 18, 3) := by decide +kernel
theorem dX7_advance_70 : decode cX7_advance 70 = .ok (.iload_n 1, 1) := by decide +kernel
theorem dX7_advance_71 : decode cX7_advance 71 = .ok (.iconst (-1), 1) := by decide +kernel
theorem dX7_advance_72 : decode cX7_advance 72 = .ok (.if_icmp .ne 19, 3) := by decide +kernel
theorem dX7_advance_75 : decode cX7_advance 75 = .ok (.aload_n 0, 1) := by decide +kernel
theorem dX7_advance_76 : decode cX7_advance 76 = .ok (.iconst 0, 1) := by decide +kernel
theorem dX7_advance_77 : decode cX7_advance 77 = .ok (.putfield 11, 3) := by decide +kernel
theorem dX7_advance_80 : decode cX7_advance 80 = .ok (.aload_n 0, 1) := by decide +kernel
theorem dX7_advance_81 : decode cX7_advance 81 = .ok (.aload_n 0, 1) := by decide +kernel
theorem dX7_advance_82 : decode cX7_advance 82 = .ok (.getfield 15, 3) := by decide +kernel
theorem dX7_advance_85 : decode cX7_advance 85 = .ok (.putfield 18, 3) := by decide +kernel
theorem dX7_advance_88 : decode cX7_advance 88 = .ok (.goto 55, 3) := by decide +kernel
theorem dX7_advance_143 : decode cX7_advance 143 = .ok (.return_, 1) := by decide +kernel
theorem dX7_readText_0 : decode cX7_readText 0 = .ok (.aload_n 0, 1) := by decide +kernel
theorem dX7_readText_1 : decode cX7_readText 1 = .ok (.iconst 0, 1) := by decide +kernel
theorem dX7_readText_2 : decode cX7_readText 2 = .ok (.putfield 18, 3) := by decide +kernel
theorem dX7_readText_5 : decode cX7_readText 5 = .ok (.aload_n 0, 1) := by decide +kernel
theorem dX7_readText_6 : decode cX7_readText 6 = .ok (.iconst 0, 1) := by decide +kernel
theorem dX7_readText_7 : decode cX7_readText 7 = .ok (.putfield 21, 3) := by decide +kernel
theorem dX7_readText_10 : decode cX7_readText 10 = .ok (.aload_n 0, 1) := by decide +kernel
theorem dX7_readText_11 : decode cX7_readText 11 = .ok (.iconst 0, 1) := by decide +kernel
theorem dX7_readText_12 : decode cX7_readText 12 = .ok (.putfield 24, 3) := by decide +kernel
theorem dX7_readText_15 : decode cX7_readText 15 = .ok (.iconst 0, 1) := by decide +kernel
theorem dX7_readText_16 : decode cX7_readText 16 = .ok (.istore_n 2, 1) := by decide +kernel
theorem dX7_readText_17 : decode cX7_readText 17 = .ok (.iload_n 2, 1) := by decide +kernel
theorem dX7_readText_18 : decode cX7_readText 18 = .ok (.bipush 20, 2) := by decide +kernel
theorem dX7_readText_20 : decode cX7_readText 20 = .ok (.if_icmp .gt 131, 3) := by decide +kernel
theorem dX7_readText_23 : decode cX7_readText 23 = .ok (.aload_n 0, 1) := by decide +kernel
theorem dX7_readText_24 : decode cX7_readText 24 = .ok (.invokevirtual 31, 3) := by decide +kernel
theorem dX7_readText_27 : decode cX7_readText 27 = .ok (.aload_n 0, 1) := by decide +kernel
theorem dX7_readText_28 : decode cX7_readText 28 = .ok (.getfield 11, 3) := by decide +kernel
theorem dX7_readText_31 : decode cX7_readText 31 = .ok (.ifCond .ne 10, 3) := by decide +kernel
theorem dX7_readText_34 : decode cX7_readText 34 = .ok (.aload_n 1, 1) := by decide +kernel
theorem dX7_readText_35 : decode cX7_readText 35 = .ok (.iload_n 2, 1) := by decide +kernel
theorem dX7_readText_36 : decode cX7_readText 36 = .ok (.putfield 34, 3) := by decide +kernel
theorem dX7_readText_39 : decode cX7_readText 39 = .ok (.iconst 1, 1) := by decide +kernel
theorem dX7_readText_40 : decode cX7_readText 40 = .ok (.ireturn, 1) := by decide +kernel
theorem dX9_settleToday_0 : decode cX9_settleToday 0 = .ok (.aload_n 0, 1) := by decide +kernel
theorem dX9_settleToday_1 : decode cX9_settleToday 1 = .ok (.getfield 42, 3) := by decide +kernel
theorem dX9_settleToday_4 : decode cX9_settleToday 4 = .ok (.aload_n 0, 1) := by decide +kernel
theorem dX9_settleToday_5 : decode cX9_settleToday 5 = .ok (.getfield 63, 3) := by decide +kernel
theorem dX9_settleToday_8 : decode cX9_settleToday 8 = .ok (.aload_n 0, 1) := by decide +kernel
theorem dX9_settleToday_9 : decode cX9_settleToday 9 = .ok (.getfield 35, 3) := by decide +kernel
theorem dX9_settleToday_12 : decode cX9_settleToday 12 = .ok (.aload_n 0, 1) := by decide +kernel
theorem dX9_settleToday_13 : decode cX9_settleToday 13 = .ok (.getfield 79, 3) := by decide +kernel
theorem dX9_settleToday_16 : decode cX9_settleToday 16 = .ok (.invokevirtual 250, 3) := by decide +kernel
theorem dX9_settleToday_19 : decode cX9_settleToday 19 = .ok (.aload_n 0, 1) := by decide +kernel
theorem dX9_settleToday_20 : decode cX9_settleToday 20 = .ok (.getfield 35, 3) := by decide +kernel
theorem dX9_settleToday_23 : decode cX9_settleToday 23 = .ok (.aload_n 0, 1) := by decide +kernel
theorem dX9_settleToday_24 : decode cX9_settleToday 24 = .ok (.getfield 42, 3) := by decide +kernel
theorem dX9_settleToday_27 : decode cX9_settleToday 27 = .ok (.aload_n 0, 1) := by decide +kernel
theorem dX9_settleToday_28 : decode cX9_settleToday 28 = .ok (.getfield 79, 3) := by decide +kernel
theorem dX9_settleToday_31 : decode cX9_settleToday 31 = .ok (.invokevirtual 254, 3) := by decide +kernel
theorem dX9_settleToday_34 : decode cX9_settleToday 34 = .ok (.return_, 1) := by decide +kernel
set_option maxHeartbeats 4000000 in
set_option maxRecDepth 100000 in
/-- WellCourt$Reader.advance -/
theorem c_X7_advance (l : Launch) (G : va_G) (cy : Nat → ClassId) (sz : Nat) (h0 : Nat) (g0 : Nat) (g10 : Nat)  : gMv l yX7_advance cX7_advance 2 ({ frames := 1, cells := 0, slots := 0, locals := 21 }) G cy sz [.ref h0] [(h0, .inr (7, [.ref g0, .int 0, .int 0, .int 0, .int 0, .int 0])), (g0, .inr (8, [.ref g10, .int 0]))] (fun (u : Unit) => True) (fun (u : Unit) => [(h0, .inr (7, [.ref g0, .int 0, .int 0, .int 0, .int 0, .int 0])), (g0, .inr (8, [.ref g10, .int 0]))]) := by
  refine gz_start (fun A => gQv G cy _ _ A) (by decide) (Nat.le_of_ble_eq_true rfl) ?_
  intro p e s m below meth c A ls H hx hb hr hml hlocks hin hown hts hK hov hsz hP hD hS hA hl
  have hl : lv_has ls 2 [(0, .ref h0)] := hl
  refine lv_aload_n hx hb dX7_advance_0 rfl (lv_at hl 0 rfl) ?_
  refine lv_aload_n hx hb dX7_advance_1 rfl (lv_at hl 0 rfl) ?_
  refine va_get (ci := 7) (v := .int 0) (C := RX7) (T := TX7) (N := 6) hx hb hts inX7 hown hK hP 0 rfl rfl 3 (by decide) (hts _ gm_56) (fun _ h9 => h9) rfl dX7_advance_2 ?_
  refine va_put (ci := 7) (v := .int 0) (ty := .int) (C := RX7) (T := TX7) (N := 6) hx hb hts inX7 tyX7 tyX7_ok nmX7 hown hK hP hD hS 0 rfl rfl 2 (by decide) (hts _ gm_55) (fun _ h9 => h9) rfl (by decide +kernel) rfl rfl (Nat.le_of_ble_eq_true rfl) dX7_advance_5 (fun H locs hP hD hS => ?_)
  have hP : va_P G vwCl [(h0, .inr (7, [.ref g0, .int 0, .int 0, .int 0, .int 0, .int 0])), (g0, .inr (8, [.ref g10, .int 0]))] H := hP
  have hD : va_D A [(h0, .inr (7, [.ref g0, .int 0, .int 0, .int 0, .int 0, .int 0])), (g0, .inr (8, [.ref g10, .int 0]))] := hD
  refine lv_aload_n hx hb dX7_advance_8 rfl (lv_at hl 0 rfl) ?_
  refine va_get (ci := 7) (v := .int 0) (C := RX7) (T := TX7) (N := 6) hx hb hts inX7 hown hK hP 0 rfl rfl 2 (by decide) (hts _ gm_55) (fun _ h9 => h9) rfl dX7_advance_9 ?_
  refine lv_sipush (v := 800) hx hb dX7_advance_12 (by decide) ?_
  refine lv_icmp_ge (tgt := 48) hx hb dX7_advance_15 (by decide) (fun h9 => absurd h9 (by decide)) (fun _ => ?_)
  refine lv_aload_n hx hb dX7_advance_18 rfl (lv_at hl 0 rfl) ?_
  refine va_get (ci := 7) (v := .ref g0) (C := RX7) (T := TX7) (N := 6) hx hb hts inX7 hown hK hP 0 rfl rfl 0 (by decide) (hts _ gm_53) (fun _ h9 => h9) rfl dX7_advance_19 ?_
  refine lv_aload_n hx hb dX7_advance_22 rfl (lv_at hl 0 rfl) ?_
  refine va_get (ci := 7) (v := .int 0) (C := RX7) (T := TX7) (N := 6) hx hb hts inX7 hown hK hP 0 rfl rfl 2 (by decide) (hts _ gm_55) (fun _ h9 => h9) rfl dX7_advance_23 ?_
  refine gz_afti (va_runV (As := [.int 0]) (rest := []) ⟨hx, hb, hml, hown, hts⟩ (c_X8_byteAt l G cy H.size g0 g10 0 0 (by decide)) ⟨(gz_cb (n := 1) hts gm_371 gm_2 gm_374 ⟨by decide +kernel, by decide +kernel, by decide +kernel⟩ ⟨Nat.le_of_ble_eq_true rfl, Nat.le_of_ble_eq_true rfl⟩), hts _ gm_372, hts _ gm_373⟩ (gz_preV (ci := 8) (q0 := 0) hK hov hP hD [1] (by decide) rfl rfl rfl) rfl rfl hl.1 rfl (lv_room (Nat.le_of_ble_eq_true rfl)) dX7_advance_26 ⟨Nat.le_of_ble_eq_true rfl, Nat.le_of_ble_eq_true rfl⟩) hP hD hS hA [1] [0] rfl rfl (by decide) (by decide) (fun r_1 u_1 H locs hw_1 hP hD hS => ?_)
  have hP : va_P G vwCl [(h0, .inr (7, [.ref g0, .int 0, .int 0, .int 0, .int 0, .int 0])), (g0, .inr (8, [.ref g10, .int 0]))] H := hP
  have hD : va_D A [(h0, .inr (7, [.ref g0, .int 0, .int 0, .int 0, .int 0, .int 0])), (g0, .inr (8, [.ref g10, .int 0]))] := hD
  obtain rfl := hw_1
  refine gz_afti (va_runS (As := [.int (-1)]) (rest := []) ⟨hx, hb, hml, hown, hts⟩ (c_X7_isBlank l G cy H.size (-1) (-1) (by decide)) ⟨(gz_cb (n := 1) hts gm_375 gm_3 gm_377 ⟨by decide +kernel, by decide +kernel, by decide +kernel⟩ ⟨Nat.le_of_ble_eq_true rfl, Nat.le_of_ble_eq_true rfl⟩), hts _ gm_376⟩ (gz_preS hK hov hP hD [] (by decide) rfl) rfl rfl hl.1 rfl (lv_room (Nat.le_of_ble_eq_true rfl)) dX7_advance_29 ⟨Nat.le_of_ble_eq_true rfl, Nat.le_of_ble_eq_true rfl⟩) hP hD hS hA [] [0, 1] rfl rfl (by decide) (by decide) (fun r_2 u_2 H locs hw_2 hP hD hS => ?_)
  have hP : va_P G vwCl [(h0, .inr (7, [.ref g0, .int 0, .int 0, .int 0, .int 0, .int 0])), (g0, .inr (8, [.ref g10, .int 0]))] H := hP
  have hD : va_D A [(h0, .inr (7, [.ref g0, .int 0, .int 0, .int 0, .int 0, .int 0])), (g0, .inr (8, [.ref g10, .int 0]))] := hD
  rcases hw_2 with ⟨rfl, hw_2_0⟩ | ⟨rfl, hw_2_0, hw_2_1⟩
  · exfalso; omega
  · skip
    refine lv_if_eq (tgt := 48) hx hb dX7_advance_32 (by decide) (fun _ => ?_) (fun h9 => absurd (by decide) h9)
    refine lv_aload_n hx hb dX7_advance_48 rfl (lv_at hl 0 rfl) ?_
    refine va_get (ci := 7) (v := .ref g0) (C := RX7) (T := TX7) (N := 6) hx hb hts inX7 hown hK hP 0 rfl rfl 0 (by decide) (hts _ gm_53) (fun _ h9 => h9) rfl dX7_advance_49 ?_
    refine lv_aload_n hx hb dX7_advance_52 rfl (lv_at hl 0 rfl) ?_
    refine va_get (ci := 7) (v := .int 0) (C := RX7) (T := TX7) (N := 6) hx hb hts inX7 hown hK hP 0 rfl rfl 2 (by decide) (hts _ gm_55) (fun _ h9 => h9) rfl dX7_advance_53 ?_
    refine gz_afti (va_runV (As := [.int 0]) (rest := []) ⟨hx, hb, hml, hown, hts⟩ (c_X8_byteAt l G cy H.size g0 g10 0 0 (by decide)) ⟨(gz_cb (n := 1) hts gm_371 gm_2 gm_374 ⟨by decide +kernel, by decide +kernel, by decide +kernel⟩ ⟨Nat.le_of_ble_eq_true rfl, Nat.le_of_ble_eq_true rfl⟩), hts _ gm_372, hts _ gm_373⟩ (gz_preV (ci := 8) (q0 := 0) hK hov hP hD [1] (by decide) rfl rfl rfl) rfl rfl hl.1 rfl (lv_room (Nat.le_of_ble_eq_true rfl)) dX7_advance_56 ⟨Nat.le_of_ble_eq_true rfl, Nat.le_of_ble_eq_true rfl⟩) hP hD hS hA [1] [0] rfl rfl (by decide) (by decide) (fun r_3 u_3 H locs hw_3 hP hD hS => ?_)
    have hP : va_P G vwCl [(h0, .inr (7, [.ref g0, .int 0, .int 0, .int 0, .int 0, .int 0])), (g0, .inr (8, [.ref g10, .int 0]))] H := hP
    have hD : va_D A [(h0, .inr (7, [.ref g0, .int 0, .int 0, .int 0, .int 0, .int 0])), (g0, .inr (8, [.ref g10, .int 0]))] := hD
    obtain rfl := hw_3
    refine lv_istore_n (lv' := [(1, .int (-1)), (0, .ref h0)]) hx hb dX7_advance_59 rfl hl (by decide) rfl (fun ls hl => ?_)
    refine lv_aload_n hx hb dX7_advance_60 rfl (lv_at hl 1 rfl) ?_
    refine lv_aload_n hx hb dX7_advance_61 rfl (lv_at hl 1 rfl) ?_
    refine va_get (ci := 7) (v := .int 0) (C := RX7) (T := TX7) (N := 6) hx hb hts inX7 hown hK hP 0 rfl rfl 2 (by decide) (hts _ gm_55) (fun _ h9 => h9) rfl dX7_advance_62 ?_
    refine lv_iconst (v := 1) hx hb dX7_advance_65 (by decide) ?_
    refine lv_iadd hx hb dX7_advance_66 ?_
    refine lv_topi (fun x_4 ex_4 => ?_)
    obtain rfl : x_4 = (1 : Int32) := ex_4.trans (by decide)
    refine va_put (ci := 7) (v := .int 1) (ty := .int) (C := RX7) (T := TX7) (N := 6) hx hb hts inX7 tyX7 tyX7_ok nmX7 hown hK hP hD hS 0 rfl rfl 3 (by decide) (hts _ gm_56) (fun _ h9 => h9) rfl (by decide +kernel) rfl rfl (Nat.le_of_ble_eq_true rfl) dX7_advance_67 (fun H locs hP hD hS => ?_)
    have hP : va_P G vwCl [(h0, .inr (7, [.ref g0, .int 0, .int 0, .int 1, .int 0, .int 0])), (g0, .inr (8, [.ref g10, .int 0]))] H := hP
    have hD : va_D A [(h0, .inr (7, [.ref g0, .int 0, .int 0, .int 1, .int 0, .int 0])), (g0, .inr (8, [.ref g10, .int 0]))] := hD
    refine lv_iload_n hx hb dX7_advance_70 rfl (lv_at hl 0 rfl) ?_
    refine lv_iconst (v := (-1)) hx hb dX7_advance_71 (by decide) ?_
    refine lv_icmp_ne (tgt := 91) hx hb dX7_advance_72 (by decide) (fun h9 => absurd (by decide) h9) (fun _ => ?_)
    refine lv_aload_n hx hb dX7_advance_75 rfl (lv_at hl 1 rfl) ?_
    refine lv_iconst (v := 0) hx hb dX7_advance_76 (by decide) ?_
    refine va_put (ci := 7) (v := .int 0) (ty := .int) (C := RX7) (T := TX7) (N := 6) hx hb hts inX7 tyX7 tyX7_ok nmX7 hown hK hP hD hS 0 rfl rfl 1 (by decide) (hts _ gm_54) (fun _ h9 => h9) rfl (by decide +kernel) rfl rfl (Nat.le_of_ble_eq_true rfl) dX7_advance_77 (fun H locs hP hD hS => ?_)
    have hP : va_P G vwCl [(h0, .inr (7, [.ref g0, .int 0, .int 0, .int 1, .int 0, .int 0])), (g0, .inr (8, [.ref g10, .int 0]))] H := hP
    have hD : va_D A [(h0, .inr (7, [.ref g0, .int 0, .int 0, .int 1, .int 0, .int 0])), (g0, .inr (8, [.ref g10, .int 0]))] := hD
    refine lv_aload_n hx hb dX7_advance_80 rfl (lv_at hl 1 rfl) ?_
    refine lv_aload_n hx hb dX7_advance_81 rfl (lv_at hl 1 rfl) ?_
    refine va_get (ci := 7) (v := .int 0) (C := RX7) (T := TX7) (N := 6) hx hb hts inX7 hown hK hP 0 rfl rfl 2 (by decide) (hts _ gm_55) (fun _ h9 => h9) rfl dX7_advance_82 ?_
    refine va_put (ci := 7) (v := .int 0) (ty := .int) (C := RX7) (T := TX7) (N := 6) hx hb hts inX7 tyX7 tyX7_ok nmX7 hown hK hP hD hS 0 rfl rfl 3 (by decide) (hts _ gm_56) (fun _ h9 => h9) rfl (by decide +kernel) rfl rfl (Nat.le_of_ble_eq_true rfl) dX7_advance_85 (fun H locs hP hD hS => ?_)
    have hP : va_P G vwCl [(h0, .inr (7, [.ref g0, .int 0, .int 0, .int 0, .int 0, .int 0])), (g0, .inr (8, [.ref g10, .int 0]))] H := hP
    have hD : va_D A [(h0, .inr (7, [.ref g0, .int 0, .int 0, .int 0, .int 0, .int 0])), (g0, .inr (8, [.ref g10, .int 0]))] := hD
    refine lv_goto (tgt := 143) hx hb dX7_advance_88 (by decide) ?_
    exact gz_vret (cf := (fun (u : Unit) => [(h0, .inr (7, [.ref g0, .int 0, .int 0, .int 0, .int 0, .int 0])), (g0, .inr (8, [.ref g10, .int 0]))])) (post := (fun (u : Unit) => True)) hx hb hr hlocks hK hP hD hS () [0, 1] trivial (by decide) rfl (Nat.le_of_ble_eq_true rfl) (Nat.le_of_ble_eq_true rfl) dX7_advance_143

set_option maxHeartbeats 4000000 in
set_option maxRecDepth 100000 in
/-- WellCourt$Reader.readText -/
theorem c_X7_readText (l : Launch) (G : va_G) (cy : Nat → ClassId) (sz : Nat) (h0 : Nat) (g0 : Nat) (g10 : Nat) (h1 : Nat) (a0 : Nat) (a1 : Nat) (a2 : Nat) (a3 : Nat) (a4 : Nat) (a5 : Nat) (a6 : Nat) (a7 : Nat) (a8 : Nat) (a9 : Nat) (a10 : Nat)  : gMi l yX7_readText cX7_readText 4 (some .boolean) ({ frames := 2, cells := 0, slots := 0, locals := 42 }) G cy sz [.ref h0, .ref h1] [(h0, .inr (7, [.ref g0, .int 0, .int 0, .int 0, .int 0, .int 0])), (g0, .inr (8, [.ref g10, .int 0])), (h1, .inr (4, [.int 0, .ref a0, .ref a1, .ref a2, .ref a3, .int 0, .ref a4, .ref a5, .ref a6, .int 0, .ref a7, .ref a8, .ref a9, .ref a10]))] (fun (r : Int32) (u : Unit) => r = 1) (fun (u : Unit) => [(h0, .inr (7, [.ref g0, .int 0, .int 0, .int 0, .int 0, .int 0])), (g0, .inr (8, [.ref g10, .int 0])), (h1, .inr (4, [.int 0, .ref a0, .ref a1, .ref a2, .ref a3, .int 0, .ref a4, .ref a5, .ref a6, .int 0, .ref a7, .ref a8, .ref a9, .ref a10]))]) := by
  refine gz_start (fun A => gQi G cy _ _ A) (by decide) (Nat.le_of_ble_eq_true rfl) ?_
  intro p e s m below meth c A ls H hx hb hr hml hlocks hin hown hts hK hov hsz hP hD hS hA hl
  have hl : lv_has ls 4 [(0, .ref h0), (1, .ref h1)] := hl
  refine lv_aload_n hx hb dX7_readText_0 rfl (lv_at hl 0 rfl) ?_
  refine lv_iconst (v := 0) hx hb dX7_readText_1 (by decide) ?_
  refine va_put (ci := 7) (v := .int 0) (ty := .int) (C := RX7) (T := TX7) (N := 6) hx hb hts inX7 tyX7 tyX7_ok nmX7 hown hK hP hD hS 0 rfl rfl 3 (by decide) (hts _ gm_56) (fun _ h9 => h9) rfl (by decide +kernel) rfl rfl (Nat.le_of_ble_eq_true rfl) dX7_readText_2 (fun H locs hP hD hS => ?_)
  have hP : va_P G vwCl [(h0, .inr (7, [.ref g0, .int 0, .int 0, .int 0, .int 0, .int 0])), (g0, .inr (8, [.ref g10, .int 0])), (h1, .inr (4, [.int 0, .ref a0, .ref a1, .ref a2, .ref a3, .int 0, .ref a4, .ref a5, .ref a6, .int 0, .ref a7, .ref a8, .ref a9, .ref a10]))] H := hP
  have hD : va_D A [(h0, .inr (7, [.ref g0, .int 0, .int 0, .int 0, .int 0, .int 0])), (g0, .inr (8, [.ref g10, .int 0])), (h1, .inr (4, [.int 0, .ref a0, .ref a1, .ref a2, .ref a3, .int 0, .ref a4, .ref a5, .ref a6, .int 0, .ref a7, .ref a8, .ref a9, .ref a10]))] := hD
  refine lv_aload_n hx hb dX7_readText_5 rfl (lv_at hl 0 rfl) ?_
  refine lv_iconst (v := 0) hx hb dX7_readText_6 (by decide) ?_
  refine va_put (ci := 7) (v := .int 0) (ty := .int) (C := RX7) (T := TX7) (N := 6) hx hb hts inX7 tyX7 tyX7_ok nmX7 hown hK hP hD hS 0 rfl rfl 4 (by decide) (hts _ gm_57) (fun _ h9 => h9) rfl (by decide +kernel) rfl rfl (Nat.le_of_ble_eq_true rfl) dX7_readText_7 (fun H locs hP hD hS => ?_)
  have hP : va_P G vwCl [(h0, .inr (7, [.ref g0, .int 0, .int 0, .int 0, .int 0, .int 0])), (g0, .inr (8, [.ref g10, .int 0])), (h1, .inr (4, [.int 0, .ref a0, .ref a1, .ref a2, .ref a3, .int 0, .ref a4, .ref a5, .ref a6, .int 0, .ref a7, .ref a8, .ref a9, .ref a10]))] H := hP
  have hD : va_D A [(h0, .inr (7, [.ref g0, .int 0, .int 0, .int 0, .int 0, .int 0])), (g0, .inr (8, [.ref g10, .int 0])), (h1, .inr (4, [.int 0, .ref a0, .ref a1, .ref a2, .ref a3, .int 0, .ref a4, .ref a5, .ref a6, .int 0, .ref a7, .ref a8, .ref a9, .ref a10]))] := hD
  refine lv_aload_n hx hb dX7_readText_10 rfl (lv_at hl 0 rfl) ?_
  refine lv_iconst (v := 0) hx hb dX7_readText_11 (by decide) ?_
  refine va_put (ci := 7) (v := .int 0) (ty := .int) (C := RX7) (T := TX7) (N := 6) hx hb hts inX7 tyX7 tyX7_ok nmX7 hown hK hP hD hS 0 rfl rfl 5 (by decide) (hts _ gm_59) (fun _ h9 => h9) rfl (by decide +kernel) rfl rfl (Nat.le_of_ble_eq_true rfl) dX7_readText_12 (fun H locs hP hD hS => ?_)
  have hP : va_P G vwCl [(h0, .inr (7, [.ref g0, .int 0, .int 0, .int 0, .int 0, .int 0])), (g0, .inr (8, [.ref g10, .int 0])), (h1, .inr (4, [.int 0, .ref a0, .ref a1, .ref a2, .ref a3, .int 0, .ref a4, .ref a5, .ref a6, .int 0, .ref a7, .ref a8, .ref a9, .ref a10]))] H := hP
  have hD : va_D A [(h0, .inr (7, [.ref g0, .int 0, .int 0, .int 0, .int 0, .int 0])), (g0, .inr (8, [.ref g10, .int 0])), (h1, .inr (4, [.int 0, .ref a0, .ref a1, .ref a2, .ref a3, .int 0, .ref a4, .ref a5, .ref a6, .int 0, .ref a7, .ref a8, .ref a9, .ref a10]))] := hD
  refine lv_iconst (v := 0) hx hb dX7_readText_15 (by decide) ?_
  refine lv_istore_n (lv' := [(2, .int 0), (0, .ref h0), (1, .ref h1)]) hx hb dX7_readText_16 rfl hl (by decide) rfl (fun ls hl => ?_)
  refine lv_iload_n hx hb dX7_readText_17 rfl (lv_at hl 0 rfl) ?_
  refine lv_bipush (v := 20) hx hb dX7_readText_18 (by decide) ?_
  refine lv_icmp_gt (tgt := 151) hx hb dX7_readText_20 (by decide) (fun h9 => absurd h9 (by decide)) (fun _ => ?_)
  refine lv_aload_n hx hb dX7_readText_23 rfl (lv_at hl 1 rfl) ?_
  refine gz_aftv (va_runV (As := []) (rest := []) ⟨hx, hb, hml, hown, hts⟩ (c_X7_advance l G cy H.size h0 g0 g10 ) ⟨(gz_cb (n := 0) hts gm_367 gm_3 gm_370 ⟨by decide +kernel, by decide +kernel, by decide +kernel⟩ ⟨Nat.le_of_ble_eq_true rfl, Nat.le_of_ble_eq_true rfl⟩), hts _ gm_369, hts _ gs_0⟩ (gz_preV (ci := 7) (q0 := 0) hK hov hP hD [0, 1] (by decide) rfl rfl rfl) rfl rfl hl.1 rfl (lv_room (Nat.le_of_ble_eq_true rfl)) dX7_readText_24 ⟨Nat.le_of_ble_eq_true rfl, Nat.le_of_ble_eq_true rfl⟩) hP hD hS hA [0, 1] [2] rfl rfl (by decide) (by decide) (fun u_1 H locs hw_1 hP hD hS => ?_)
  have hP : va_P G vwCl [(h1, .inr (4, [.int 0, .ref a0, .ref a1, .ref a2, .ref a3, .int 0, .ref a4, .ref a5, .ref a6, .int 0, .ref a7, .ref a8, .ref a9, .ref a10])), (h0, .inr (7, [.ref g0, .int 0, .int 0, .int 0, .int 0, .int 0])), (g0, .inr (8, [.ref g10, .int 0]))] H := hP
  have hD : va_D A [(h1, .inr (4, [.int 0, .ref a0, .ref a1, .ref a2, .ref a3, .int 0, .ref a4, .ref a5, .ref a6, .int 0, .ref a7, .ref a8, .ref a9, .ref a10])), (h0, .inr (7, [.ref g0, .int 0, .int 0, .int 0, .int 0, .int 0])), (g0, .inr (8, [.ref g10, .int 0]))] := hD
  refine lv_aload_n hx hb dX7_readText_27 rfl (lv_at hl 1 rfl) ?_
  refine va_get (ci := 7) (v := .int 0) (C := RX7) (T := TX7) (N := 6) hx hb hts inX7 hown hK hP 1 rfl rfl 1 (by decide) (hts _ gm_54) (fun _ h9 => h9) rfl dX7_readText_28 ?_
  refine lv_if_ne (tgt := 41) hx hb dX7_readText_31 (by decide) (fun h9 => absurd (by decide) h9) (fun _ => ?_)
  refine lv_aload_n hx hb dX7_readText_34 rfl (lv_at hl 2 rfl) ?_
  refine lv_iload_n hx hb dX7_readText_35 rfl (lv_at hl 0 rfl) ?_
  refine va_putN (host := "WellCourt") (ci := 4) (v := .int 0) (ty := .int) (C := RX4) (T := TX4) (N := 14) hx hb hts inX4 tyX4 tyX4_ok nmX4 hown hK hP hD hS 0 rfl rfl 0 (by decide) (va_Nw.use rfl (hov.2.2 _ gn_189)) (fun _ h9 => h9) rfl (by decide +kernel) rfl rfl (Nat.le_of_ble_eq_true rfl) dX7_readText_36 (fun H locs hP hD hS => ?_)
  have hP : va_P G vwCl [(h1, .inr (4, [.int 0, .ref a0, .ref a1, .ref a2, .ref a3, .int 0, .ref a4, .ref a5, .ref a6, .int 0, .ref a7, .ref a8, .ref a9, .ref a10])), (h0, .inr (7, [.ref g0, .int 0, .int 0, .int 0, .int 0, .int 0])), (g0, .inr (8, [.ref g10, .int 0]))] H := hP
  have hD : va_D A [(h1, .inr (4, [.int 0, .ref a0, .ref a1, .ref a2, .ref a3, .int 0, .ref a4, .ref a5, .ref a6, .int 0, .ref a7, .ref a8, .ref a9, .ref a10])), (h0, .inr (7, [.ref g0, .int 0, .int 0, .int 0, .int 0, .int 0])), (g0, .inr (8, [.ref g10, .int 0]))] := hD
  refine lv_iconst (v := 1) hx hb dX7_readText_39 (by decide) ?_
  exact gz_iret (cf := (fun (u : Unit) => [(h0, .inr (7, [.ref g0, .int 0, .int 0, .int 0, .int 0, .int 0])), (g0, .inr (8, [.ref g10, .int 0])), (h1, .inr (4, [.int 0, .ref a0, .ref a1, .ref a2, .ref a3, .int 0, .ref a4, .ref a5, .ref a6, .int 0, .ref a7, .ref a8, .ref a9, .ref a10]))])) (post := (fun (r : Int32) (u : Unit) => r = 1)) hx hb hr hlocks hK hP hD hS () [1, 2, 0] (by decide) rfl (by decide) rfl (Nat.le_of_ble_eq_true rfl) (Nat.le_of_ble_eq_true rfl) dX7_readText_40

set_option maxHeartbeats 4000000 in
set_option maxRecDepth 100000 in
/-- WellCourt$Calendar.tellTurns -/
theorem c_X0_tellTurns (l : Launch) (G : va_G) (cy : Nat → ClassId) (sz : Nat) (h0 : Nat) (a0 : Nat) (rr : Nat → Nat) (h1 : Nat) (b0 : Nat) (b1 : Nat) (b2 : Nat) (b3 : Nat) (b4 : Nat) (b5 : Nat) (b6 : Nat) (b7 : Nat) (b8 : Nat) (b9 : Nat) (b10 : Nat)  : gMv l yX0_tellTurns cX0_tellTurns 5 ({ frames := 1, cells := 0, slots := 0, locals := 23 }) G cy sz [.ref h0, .ref h1, .int 0] [(h0, .inr (0, [.ref a0])), (a0, .inl (cy 3, 6, .inr (.inr (.inr (.inr (fun i => if i < 6 then some (rr i) else none)))))), ((rr 0), .inl (cy 0, 200, .inl (fun _ => (-1)))), ((rr 1), .inl (cy 0, 200, .inl (fun _ => (-1)))), ((rr 2), .inl (cy 0, 200, .inl (fun _ => (-1)))), ((rr 3), .inl (cy 0, 200, .inl (fun _ => (-1)))), ((rr 4), .inl (cy 0, 200, .inl (fun _ => (-1)))), ((rr 5), .inl (cy 0, 200, .inl (fun _ => (-1)))), (h1, .inr (4, [.int 0, .ref b0, .ref b1, .ref b2, .ref b3, .int 0, .ref b4, .ref b5, .ref b6, .int 0, .ref b7, .ref b8, .ref b9, .ref b10])), (b1, .inl (cy 0, 6, .inl (fun _ => 0)))] (fun (u : Unit) => True) (fun (u : Unit) => [(h0, .inr (0, [.ref a0])), (a0, .inl (cy 3, 6, .inr (.inr (.inr (.inr (fun i => if i < 6 then some (rr i) else none)))))), ((rr 0), .inl (cy 0, 200, .inl (fun _ => (-1)))), ((rr 1), .inl (cy 0, 200, .inl (fun _ => (-1)))), ((rr 2), .inl (cy 0, 200, .inl (fun _ => (-1)))), ((rr 3), .inl (cy 0, 200, .inl (fun _ => (-1)))), ((rr 4), .inl (cy 0, 200, .inl (fun _ => (-1)))), ((rr 5), .inl (cy 0, 200, .inl (fun _ => (-1)))), (h1, .inr (4, [.int 0, .ref b0, .ref b1, .ref b2, .ref b3, .int 0, .ref b4, .ref b5, .ref b6, .int 0, .ref b7, .ref b8, .ref b9, .ref b10])), (b1, .inl (cy 0, 6, .inl (fun _ => 0)))]) := by
  refine gz_start (fun A => gQv G cy _ _ A) (by decide) (Nat.le_of_ble_eq_true rfl) ?_
  intro p e s m below meth c A ls H hx hb hr hml hlocks hin hown hts hK hov hsz hP hD hS hA hl
  have hl : lv_has ls 5 [(0, .ref h0), (1, .ref h1), (2, .int 0)] := hl
  generalize hQe : MQ below _ _ s _ _ A = Q
  refine lv_iconst (v := 0) hx hb dX0_tellTurns_0 (by decide) ?_
  refine lv_istore_n (lv' := [(3, .int 0), (0, .ref h0), (1, .ref h1), (2, .int 0)]) hx hb dX0_tellTurns_1 rfl hl (by decide) rfl (fun ls hl => ?_)
  refine lv_iload_n hx hb dX0_tellTurns_2 rfl (lv_at hl 0 rfl) ?_
  refine lv_bipush (v := 6) hx hb dX0_tellTurns_3 (by decide) ?_
  refine lv_icmp_ge (tgt := 51) hx hb dX0_tellTurns_5 (by decide) (fun h9 => absurd h9 (by decide)) (fun _ => ?_)
  refine lv_iload_n hx hb dX0_tellTurns_8 rfl (lv_at hl 3 rfl) ?_
  refine lv_iconst (v := 0) hx hb dX0_tellTurns_9 (by decide) ?_
  refine va_mmax hx hb (hml.trans hl.1.symm) hown (hts _ gm_536) (hts _ gm_537) (hts _ gm_17) (hts _ gm_538) (Nat.le_of_ble_eq_true rfl) (Nat.le_of_ble_eq_true rfl) (Nat.le_of_ble_eq_true rfl) (Nat.le_of_ble_eq_true rfl) dX0_tellTurns_10 ?_
  refine lv_topi (fun x_1 ex_1 => ?_)
  obtain rfl : x_1 = (0 : Int32) := ex_1.trans (by decide)
  refine lv_istore (lv' := [(4, .int 0), (3, .int 0), (0, .ref h0), (1, .ref h1), (2, .int 0)]) hx hb dX0_tellTurns_13 hl (by decide) rfl (fun ls hl => ?_)
  have lp_2 : ∀ (n_2 i_2 : Nat), i_2 + n_2 = 200 → ∀ (g_2_0 : Nat → Int32) (H : Heap) (locs : List Loc) (ls : Array Slot), (∀ j, j < 200 → g_2_0 j = (-1)) → va_P G vwCl [(h0, .inr (0, [.ref a0])), (a0, .inl (cy 3, 6, .inr (.inr (.inr (.inr (fun i => if i < 6 then some (rr i) else none)))))), ((rr 0), .inl (cy 0, 200, .inl g_2_0)), ((rr 1), .inl (cy 0, 200, .inl (fun _ => (-1)))), ((rr 2), .inl (cy 0, 200, .inl (fun _ => (-1)))), ((rr 3), .inl (cy 0, 200, .inl (fun _ => (-1)))), ((rr 4), .inl (cy 0, 200, .inl (fun _ => (-1)))), ((rr 5), .inl (cy 0, 200, .inl (fun _ => (-1)))), (h1, .inr (4, [.int 0, .ref b0, .ref b1, .ref b2, .ref b3, .int 0, .ref b4, .ref b5, .ref b6, .int 0, .ref b7, .ref b8, .ref b9, .ref b10])), (b1, .inl (cy 0, 6, .inl (fun _ => 0)))] H → va_D A [(h0, .inr (0, [.ref a0])), (a0, .inl (cy 3, 6, .inr (.inr (.inr (.inr (fun i => if i < 6 then some (rr i) else none)))))), ((rr 0), .inl (cy 0, 200, .inl g_2_0)), ((rr 1), .inl (cy 0, 200, .inl (fun _ => (-1)))), ((rr 2), .inl (cy 0, 200, .inl (fun _ => (-1)))), ((rr 3), .inl (cy 0, 200, .inl (fun _ => (-1)))), ((rr 4), .inl (cy 0, 200, .inl (fun _ => (-1)))), ((rr 5), .inl (cy 0, 200, .inl (fun _ => (-1)))), (h1, .inr (4, [.int 0, .ref b0, .ref b1, .ref b2, .ref b3, .int 0, .ref b4, .ref b5, .ref b6, .int 0, .ref b7, .ref b8, .ref b9, .ref b10])), (b1, .inl (cy 0, 6, .inl (fun _ => 0)))] → va_S A s.heap H locs → lv_has ls 5 [(4, .int (nI i_2)), (3, .int 0), (0, .ref h0), (1, .ref h1), (2, .int 0)] → W p l e ({ frames := 1, cells := 0, slots := 0, locals := 23 } : Room) s m [.ref h0, .ref h1, .int 0].toArray below meth c H locs 0 0 Q (F0 m 15 ls []) := by
    intro n_2
    induction n_2 with
    | zero =>
      intro i_2 hi_2 g_2_0 H locs ls hg_2_0 hP hD hS hl
      obtain rfl : i_2 = 200 := by omega
      have hP := gz_arr (k := 2) (g := (fun _ => (-1))) hg_2_0 hP rfl
      have hD := va_D.set (p := 2) (e := .inl (cy 0, 200, .inl (fun _ => (-1)))) hD rfl
      have hP : va_P G vwCl [(h0, .inr (0, [.ref a0])), (a0, .inl (cy 3, 6, .inr (.inr (.inr (.inr (fun i => if i < 6 then some (rr i) else none)))))), ((rr 0), .inl (cy 0, 200, .inl (fun _ => (-1)))), ((rr 1), .inl (cy 0, 200, .inl (fun _ => (-1)))), ((rr 2), .inl (cy 0, 200, .inl (fun _ => (-1)))), ((rr 3), .inl (cy 0, 200, .inl (fun _ => (-1)))), ((rr 4), .inl (cy 0, 200, .inl (fun _ => (-1)))), ((rr 5), .inl (cy 0, 200, .inl (fun _ => (-1)))), (h1, .inr (4, [.int 0, .ref b0, .ref b1, .ref b2, .ref b3, .int 0, .ref b4, .ref b5, .ref b6, .int 0, .ref b7, .ref b8, .ref b9, .ref b10])), (b1, .inl (cy 0, 6, .inl (fun _ => 0)))] H := hP
      have hD : va_D A [(h0, .inr (0, [.ref a0])), (a0, .inl (cy 3, 6, .inr (.inr (.inr (.inr (fun i => if i < 6 then some (rr i) else none)))))), ((rr 0), .inl (cy 0, 200, .inl (fun _ => (-1)))), ((rr 1), .inl (cy 0, 200, .inl (fun _ => (-1)))), ((rr 2), .inl (cy 0, 200, .inl (fun _ => (-1)))), ((rr 3), .inl (cy 0, 200, .inl (fun _ => (-1)))), ((rr 4), .inl (cy 0, 200, .inl (fun _ => (-1)))), ((rr 5), .inl (cy 0, 200, .inl (fun _ => (-1)))), (h1, .inr (4, [.int 0, .ref b0, .ref b1, .ref b2, .ref b3, .int 0, .ref b4, .ref b5, .ref b6, .int 0, .ref b7, .ref b8, .ref b9, .ref b10])), (b1, .inl (cy 0, 6, .inl (fun _ => 0)))] := hD
      refine lv_iload hx hb dX0_tellTurns_15 (lv_at hl 0 rfl) ?_
      refine lv_sipush (v := 199) hx hb dX0_tellTurns_17 (by decide) ?_
      refine lv_icmp_gt (tgt := 45) hx hb dX0_tellTurns_20 (by decide) (fun _ => ?_) (fun h9 => absurd (by decide) h9)
      refine lv_iinc (v := (1)) (lv' := [(3, .int 1), (4, .int (nI 200)), (0, .ref h0), (1, .ref h1), (2, .int 0)]) hx hb dX0_tellTurns_45 hl (k := 1) rfl (by decide) (by decide) rfl (fun ls hl => ?_)
      refine lv_goto (tgt := 2) hx hb dX0_tellTurns_48 (by decide) ?_
      refine lv_iload_n hx hb dX0_tellTurns_2 rfl (lv_at hl 0 rfl) ?_
      refine lv_bipush (v := 6) hx hb dX0_tellTurns_3 (by decide) ?_
      refine lv_icmp_ge (tgt := 51) hx hb dX0_tellTurns_5 (by decide) (fun h9 => absurd h9 (by decide)) (fun _ => ?_)
      refine lv_iload_n hx hb dX0_tellTurns_8 rfl (lv_at hl 4 rfl) ?_
      refine lv_iconst (v := 0) hx hb dX0_tellTurns_9 (by decide) ?_
      refine va_mmax hx hb (hml.trans hl.1.symm) hown (hts _ gm_536) (hts _ gm_537) (hts _ gm_17) (hts _ gm_538) (Nat.le_of_ble_eq_true rfl) (Nat.le_of_ble_eq_true rfl) (Nat.le_of_ble_eq_true rfl) (Nat.le_of_ble_eq_true rfl) dX0_tellTurns_10 ?_
      refine lv_topi (fun x_3 ex_3 => ?_)
      obtain rfl : x_3 = (0 : Int32) := ex_3.trans (by decide)
      refine lv_istore (lv' := [(4, .int 0), (3, .int 1), (0, .ref h0), (1, .ref h1), (2, .int 0)]) hx hb dX0_tellTurns_13 hl (by decide) rfl (fun ls hl => ?_)
      have lp_4 : ∀ (n_4 i_4 : Nat), i_4 + n_4 = 200 → ∀ (g_4_0 : Nat → Int32) (H : Heap) (locs : List Loc) (ls : Array Slot), (∀ j, j < 200 → g_4_0 j = (-1)) → va_P G vwCl [(h0, .inr (0, [.ref a0])), (a0, .inl (cy 3, 6, .inr (.inr (.inr (.inr (fun i => if i < 6 then some (rr i) else none)))))), ((rr 0), .inl (cy 0, 200, .inl (fun _ => (-1)))), ((rr 1), .inl (cy 0, 200, .inl g_4_0)), ((rr 2), .inl (cy 0, 200, .inl (fun _ => (-1)))), ((rr 3), .inl (cy 0, 200, .inl (fun _ => (-1)))), ((rr 4), .inl (cy 0, 200, .inl (fun _ => (-1)))), ((rr 5), .inl (cy 0, 200, .inl (fun _ => (-1)))), (h1, .inr (4, [.int 0, .ref b0, .ref b1, .ref b2, .ref b3, .int 0, .ref b4, .ref b5, .ref b6, .int 0, .ref b7, .ref b8, .ref b9, .ref b10])), (b1, .inl (cy 0, 6, .inl (fun _ => 0)))] H → va_D A [(h0, .inr (0, [.ref a0])), (a0, .inl (cy 3, 6, .inr (.inr (.inr (.inr (fun i => if i < 6 then some (rr i) else none)))))), ((rr 0), .inl (cy 0, 200, .inl (fun _ => (-1)))), ((rr 1), .inl (cy 0, 200, .inl g_4_0)), ((rr 2), .inl (cy 0, 200, .inl (fun _ => (-1)))), ((rr 3), .inl (cy 0, 200, .inl (fun _ => (-1)))), ((rr 4), .inl (cy 0, 200, .inl (fun _ => (-1)))), ((rr 5), .inl (cy 0, 200, .inl (fun _ => (-1)))), (h1, .inr (4, [.int 0, .ref b0, .ref b1, .ref b2, .ref b3, .int 0, .ref b4, .ref b5, .ref b6, .int 0, .ref b7, .ref b8, .ref b9, .ref b10])), (b1, .inl (cy 0, 6, .inl (fun _ => 0)))] → va_S A s.heap H locs → lv_has ls 5 [(4, .int (nI i_4)), (3, .int 1), (0, .ref h0), (1, .ref h1), (2, .int 0)] → W p l e ({ frames := 1, cells := 0, slots := 0, locals := 23 } : Room) s m [.ref h0, .ref h1, .int 0].toArray below meth c H locs 0 0 Q (F0 m 15 ls []) := by
        intro n_4
        induction n_4 with
        | zero =>
          intro i_4 hi_4 g_4_0 H locs ls hg_4_0 hP hD hS hl
          obtain rfl : i_4 = 200 := by omega
          have hP := gz_arr (k := 3) (g := (fun _ => (-1))) hg_4_0 hP rfl
          have hD := va_D.set (p := 3) (e := .inl (cy 0, 200, .inl (fun _ => (-1)))) hD rfl
          have hP : va_P G vwCl [(h0, .inr (0, [.ref a0])), (a0, .inl (cy 3, 6, .inr (.inr (.inr (.inr (fun i => if i < 6 then some (rr i) else none)))))), ((rr 0), .inl (cy 0, 200, .inl (fun _ => (-1)))), ((rr 1), .inl (cy 0, 200, .inl (fun _ => (-1)))), ((rr 2), .inl (cy 0, 200, .inl (fun _ => (-1)))), ((rr 3), .inl (cy 0, 200, .inl (fun _ => (-1)))), ((rr 4), .inl (cy 0, 200, .inl (fun _ => (-1)))), ((rr 5), .inl (cy 0, 200, .inl (fun _ => (-1)))), (h1, .inr (4, [.int 0, .ref b0, .ref b1, .ref b2, .ref b3, .int 0, .ref b4, .ref b5, .ref b6, .int 0, .ref b7, .ref b8, .ref b9, .ref b10])), (b1, .inl (cy 0, 6, .inl (fun _ => 0)))] H := hP
          have hD : va_D A [(h0, .inr (0, [.ref a0])), (a0, .inl (cy 3, 6, .inr (.inr (.inr (.inr (fun i => if i < 6 then some (rr i) else none)))))), ((rr 0), .inl (cy 0, 200, .inl (fun _ => (-1)))), ((rr 1), .inl (cy 0, 200, .inl (fun _ => (-1)))), ((rr 2), .inl (cy 0, 200, .inl (fun _ => (-1)))), ((rr 3), .inl (cy 0, 200, .inl (fun _ => (-1)))), ((rr 4), .inl (cy 0, 200, .inl (fun _ => (-1)))), ((rr 5), .inl (cy 0, 200, .inl (fun _ => (-1)))), (h1, .inr (4, [.int 0, .ref b0, .ref b1, .ref b2, .ref b3, .int 0, .ref b4, .ref b5, .ref b6, .int 0, .ref b7, .ref b8, .ref b9, .ref b10])), (b1, .inl (cy 0, 6, .inl (fun _ => 0)))] := hD
          refine lv_iload hx hb dX0_tellTurns_15 (lv_at hl 0 rfl) ?_
          refine lv_sipush (v := 199) hx hb dX0_tellTurns_17 (by decide) ?_
          refine lv_icmp_gt (tgt := 45) hx hb dX0_tellTurns_20 (by decide) (fun _ => ?_) (fun h9 => absurd (by decide) h9)
          refine lv_iinc (v := (2)) (lv' := [(3, .int 2), (4, .int (nI 200)), (0, .ref h0), (1, .ref h1), (2, .int 0)]) hx hb dX0_tellTurns_45 hl (k := 1) rfl (by decide) (by decide) rfl (fun ls hl => ?_)
          refine lv_goto (tgt := 2) hx hb dX0_tellTurns_48 (by decide) ?_
          refine lv_iload_n hx hb dX0_tellTurns_2 rfl (lv_at hl 0 rfl) ?_
          refine lv_bipush (v := 6) hx hb dX0_tellTurns_3 (by decide) ?_
          refine lv_icmp_ge (tgt := 51) hx hb dX0_tellTurns_5 (by decide) (fun h9 => absurd h9 (by decide)) (fun _ => ?_)
          refine lv_iload_n hx hb dX0_tellTurns_8 rfl (lv_at hl 4 rfl) ?_
          refine lv_iconst (v := 0) hx hb dX0_tellTurns_9 (by decide) ?_
          refine va_mmax hx hb (hml.trans hl.1.symm) hown (hts _ gm_536) (hts _ gm_537) (hts _ gm_17) (hts _ gm_538) (Nat.le_of_ble_eq_true rfl) (Nat.le_of_ble_eq_true rfl) (Nat.le_of_ble_eq_true rfl) (Nat.le_of_ble_eq_true rfl) dX0_tellTurns_10 ?_
          refine lv_topi (fun x_5 ex_5 => ?_)
          obtain rfl : x_5 = (0 : Int32) := ex_5.trans (by decide)
          refine lv_istore (lv' := [(4, .int 0), (3, .int 2), (0, .ref h0), (1, .ref h1), (2, .int 0)]) hx hb dX0_tellTurns_13 hl (by decide) rfl (fun ls hl => ?_)
          have lp_6 : ∀ (n_6 i_6 : Nat), i_6 + n_6 = 200 → ∀ (g_6_0 : Nat → Int32) (H : Heap) (locs : List Loc) (ls : Array Slot), (∀ j, j < 200 → g_6_0 j = (-1)) → va_P G vwCl [(h0, .inr (0, [.ref a0])), (a0, .inl (cy 3, 6, .inr (.inr (.inr (.inr (fun i => if i < 6 then some (rr i) else none)))))), ((rr 0), .inl (cy 0, 200, .inl (fun _ => (-1)))), ((rr 1), .inl (cy 0, 200, .inl (fun _ => (-1)))), ((rr 2), .inl (cy 0, 200, .inl g_6_0)), ((rr 3), .inl (cy 0, 200, .inl (fun _ => (-1)))), ((rr 4), .inl (cy 0, 200, .inl (fun _ => (-1)))), ((rr 5), .inl (cy 0, 200, .inl (fun _ => (-1)))), (h1, .inr (4, [.int 0, .ref b0, .ref b1, .ref b2, .ref b3, .int 0, .ref b4, .ref b5, .ref b6, .int 0, .ref b7, .ref b8, .ref b9, .ref b10])), (b1, .inl (cy 0, 6, .inl (fun _ => 0)))] H → va_D A [(h0, .inr (0, [.ref a0])), (a0, .inl (cy 3, 6, .inr (.inr (.inr (.inr (fun i => if i < 6 then some (rr i) else none)))))), ((rr 0), .inl (cy 0, 200, .inl (fun _ => (-1)))), ((rr 1), .inl (cy 0, 200, .inl (fun _ => (-1)))), ((rr 2), .inl (cy 0, 200, .inl g_6_0)), ((rr 3), .inl (cy 0, 200, .inl (fun _ => (-1)))), ((rr 4), .inl (cy 0, 200, .inl (fun _ => (-1)))), ((rr 5), .inl (cy 0, 200, .inl (fun _ => (-1)))), (h1, .inr (4, [.int 0, .ref b0, .ref b1, .ref b2, .ref b3, .int 0, .ref b4, .ref b5, .ref b6, .int 0, .ref b7, .ref b8, .ref b9, .ref b10])), (b1, .inl (cy 0, 6, .inl (fun _ => 0)))] → va_S A s.heap H locs → lv_has ls 5 [(4, .int (nI i_6)), (3, .int 2), (0, .ref h0), (1, .ref h1), (2, .int 0)] → W p l e ({ frames := 1, cells := 0, slots := 0, locals := 23 } : Room) s m [.ref h0, .ref h1, .int 0].toArray below meth c H locs 0 0 Q (F0 m 15 ls []) := by
            intro n_6
            induction n_6 with
            | zero =>
              intro i_6 hi_6 g_6_0 H locs ls hg_6_0 hP hD hS hl
              obtain rfl : i_6 = 200 := by omega
              have hP := gz_arr (k := 4) (g := (fun _ => (-1))) hg_6_0 hP rfl
              have hD := va_D.set (p := 4) (e := .inl (cy 0, 200, .inl (fun _ => (-1)))) hD rfl
              have hP : va_P G vwCl [(h0, .inr (0, [.ref a0])), (a0, .inl (cy 3, 6, .inr (.inr (.inr (.inr (fun i => if i < 6 then some (rr i) else none)))))), ((rr 0), .inl (cy 0, 200, .inl (fun _ => (-1)))), ((rr 1), .inl (cy 0, 200, .inl (fun _ => (-1)))), ((rr 2), .inl (cy 0, 200, .inl (fun _ => (-1)))), ((rr 3), .inl (cy 0, 200, .inl (fun _ => (-1)))), ((rr 4), .inl (cy 0, 200, .inl (fun _ => (-1)))), ((rr 5), .inl (cy 0, 200, .inl (fun _ => (-1)))), (h1, .inr (4, [.int 0, .ref b0, .ref b1, .ref b2, .ref b3, .int 0, .ref b4, .ref b5, .ref b6, .int 0, .ref b7, .ref b8, .ref b9, .ref b10])), (b1, .inl (cy 0, 6, .inl (fun _ => 0)))] H := hP
              have hD : va_D A [(h0, .inr (0, [.ref a0])), (a0, .inl (cy 3, 6, .inr (.inr (.inr (.inr (fun i => if i < 6 then some (rr i) else none)))))), ((rr 0), .inl (cy 0, 200, .inl (fun _ => (-1)))), ((rr 1), .inl (cy 0, 200, .inl (fun _ => (-1)))), ((rr 2), .inl (cy 0, 200, .inl (fun _ => (-1)))), ((rr 3), .inl (cy 0, 200, .inl (fun _ => (-1)))), ((rr 4), .inl (cy 0, 200, .inl (fun _ => (-1)))), ((rr 5), .inl (cy 0, 200, .inl (fun _ => (-1)))), (h1, .inr (4, [.int 0, .ref b0, .ref b1, .ref b2, .ref b3, .int 0, .ref b4, .ref b5, .ref b6, .int 0, .ref b7, .ref b8, .ref b9, .ref b10])), (b1, .inl (cy 0, 6, .inl (fun _ => 0)))] := hD
              refine lv_iload hx hb dX0_tellTurns_15 (lv_at hl 0 rfl) ?_
              refine lv_sipush (v := 199) hx hb dX0_tellTurns_17 (by decide) ?_
              refine lv_icmp_gt (tgt := 45) hx hb dX0_tellTurns_20 (by decide) (fun _ => ?_) (fun h9 => absurd (by decide) h9)
              refine lv_iinc (v := (3)) (lv' := [(3, .int 3), (4, .int (nI 200)), (0, .ref h0), (1, .ref h1), (2, .int 0)]) hx hb dX0_tellTurns_45 hl (k := 1) rfl (by decide) (by decide) rfl (fun ls hl => ?_)
              refine lv_goto (tgt := 2) hx hb dX0_tellTurns_48 (by decide) ?_
              refine lv_iload_n hx hb dX0_tellTurns_2 rfl (lv_at hl 0 rfl) ?_
              refine lv_bipush (v := 6) hx hb dX0_tellTurns_3 (by decide) ?_
              refine lv_icmp_ge (tgt := 51) hx hb dX0_tellTurns_5 (by decide) (fun h9 => absurd h9 (by decide)) (fun _ => ?_)
              refine lv_iload_n hx hb dX0_tellTurns_8 rfl (lv_at hl 4 rfl) ?_
              refine lv_iconst (v := 0) hx hb dX0_tellTurns_9 (by decide) ?_
              refine va_mmax hx hb (hml.trans hl.1.symm) hown (hts _ gm_536) (hts _ gm_537) (hts _ gm_17) (hts _ gm_538) (Nat.le_of_ble_eq_true rfl) (Nat.le_of_ble_eq_true rfl) (Nat.le_of_ble_eq_true rfl) (Nat.le_of_ble_eq_true rfl) dX0_tellTurns_10 ?_
              refine lv_topi (fun x_7 ex_7 => ?_)
              obtain rfl : x_7 = (0 : Int32) := ex_7.trans (by decide)
              refine lv_istore (lv' := [(4, .int 0), (3, .int 3), (0, .ref h0), (1, .ref h1), (2, .int 0)]) hx hb dX0_tellTurns_13 hl (by decide) rfl (fun ls hl => ?_)
              have lp_8 : ∀ (n_8 i_8 : Nat), i_8 + n_8 = 200 → ∀ (g_8_0 : Nat → Int32) (H : Heap) (locs : List Loc) (ls : Array Slot), (∀ j, j < 200 → g_8_0 j = (-1)) → va_P G vwCl [(h0, .inr (0, [.ref a0])), (a0, .inl (cy 3, 6, .inr (.inr (.inr (.inr (fun i => if i < 6 then some (rr i) else none)))))), ((rr 0), .inl (cy 0, 200, .inl (fun _ => (-1)))), ((rr 1), .inl (cy 0, 200, .inl (fun _ => (-1)))), ((rr 2), .inl (cy 0, 200, .inl (fun _ => (-1)))), ((rr 3), .inl (cy 0, 200, .inl g_8_0)), ((rr 4), .inl (cy 0, 200, .inl (fun _ => (-1)))), ((rr 5), .inl (cy 0, 200, .inl (fun _ => (-1)))), (h1, .inr (4, [.int 0, .ref b0, .ref b1, .ref b2, .ref b3, .int 0, .ref b4, .ref b5, .ref b6, .int 0, .ref b7, .ref b8, .ref b9, .ref b10])), (b1, .inl (cy 0, 6, .inl (fun _ => 0)))] H → va_D A [(h0, .inr (0, [.ref a0])), (a0, .inl (cy 3, 6, .inr (.inr (.inr (.inr (fun i => if i < 6 then some (rr i) else none)))))), ((rr 0), .inl (cy 0, 200, .inl (fun _ => (-1)))), ((rr 1), .inl (cy 0, 200, .inl (fun _ => (-1)))), ((rr 2), .inl (cy 0, 200, .inl (fun _ => (-1)))), ((rr 3), .inl (cy 0, 200, .inl g_8_0)), ((rr 4), .inl (cy 0, 200, .inl (fun _ => (-1)))), ((rr 5), .inl (cy 0, 200, .inl (fun _ => (-1)))), (h1, .inr (4, [.int 0, .ref b0, .ref b1, .ref b2, .ref b3, .int 0, .ref b4, .ref b5, .ref b6, .int 0, .ref b7, .ref b8, .ref b9, .ref b10])), (b1, .inl (cy 0, 6, .inl (fun _ => 0)))] → va_S A s.heap H locs → lv_has ls 5 [(4, .int (nI i_8)), (3, .int 3), (0, .ref h0), (1, .ref h1), (2, .int 0)] → W p l e ({ frames := 1, cells := 0, slots := 0, locals := 23 } : Room) s m [.ref h0, .ref h1, .int 0].toArray below meth c H locs 0 0 Q (F0 m 15 ls []) := by
                intro n_8
                induction n_8 with
                | zero =>
                  intro i_8 hi_8 g_8_0 H locs ls hg_8_0 hP hD hS hl
                  obtain rfl : i_8 = 200 := by omega
                  have hP := gz_arr (k := 5) (g := (fun _ => (-1))) hg_8_0 hP rfl
                  have hD := va_D.set (p := 5) (e := .inl (cy 0, 200, .inl (fun _ => (-1)))) hD rfl
                  have hP : va_P G vwCl [(h0, .inr (0, [.ref a0])), (a0, .inl (cy 3, 6, .inr (.inr (.inr (.inr (fun i => if i < 6 then some (rr i) else none)))))), ((rr 0), .inl (cy 0, 200, .inl (fun _ => (-1)))), ((rr 1), .inl (cy 0, 200, .inl (fun _ => (-1)))), ((rr 2), .inl (cy 0, 200, .inl (fun _ => (-1)))), ((rr 3), .inl (cy 0, 200, .inl (fun _ => (-1)))), ((rr 4), .inl (cy 0, 200, .inl (fun _ => (-1)))), ((rr 5), .inl (cy 0, 200, .inl (fun _ => (-1)))), (h1, .inr (4, [.int 0, .ref b0, .ref b1, .ref b2, .ref b3, .int 0, .ref b4, .ref b5, .ref b6, .int 0, .ref b7, .ref b8, .ref b9, .ref b10])), (b1, .inl (cy 0, 6, .inl (fun _ => 0)))] H := hP
                  have hD : va_D A [(h0, .inr (0, [.ref a0])), (a0, .inl (cy 3, 6, .inr (.inr (.inr (.inr (fun i => if i < 6 then some (rr i) else none)))))), ((rr 0), .inl (cy 0, 200, .inl (fun _ => (-1)))), ((rr 1), .inl (cy 0, 200, .inl (fun _ => (-1)))), ((rr 2), .inl (cy 0, 200, .inl (fun _ => (-1)))), ((rr 3), .inl (cy 0, 200, .inl (fun _ => (-1)))), ((rr 4), .inl (cy 0, 200, .inl (fun _ => (-1)))), ((rr 5), .inl (cy 0, 200, .inl (fun _ => (-1)))), (h1, .inr (4, [.int 0, .ref b0, .ref b1, .ref b2, .ref b3, .int 0, .ref b4, .ref b5, .ref b6, .int 0, .ref b7, .ref b8, .ref b9, .ref b10])), (b1, .inl (cy 0, 6, .inl (fun _ => 0)))] := hD
                  refine lv_iload hx hb dX0_tellTurns_15 (lv_at hl 0 rfl) ?_
                  refine lv_sipush (v := 199) hx hb dX0_tellTurns_17 (by decide) ?_
                  refine lv_icmp_gt (tgt := 45) hx hb dX0_tellTurns_20 (by decide) (fun _ => ?_) (fun h9 => absurd (by decide) h9)
                  refine lv_iinc (v := (4)) (lv' := [(3, .int 4), (4, .int (nI 200)), (0, .ref h0), (1, .ref h1), (2, .int 0)]) hx hb dX0_tellTurns_45 hl (k := 1) rfl (by decide) (by decide) rfl (fun ls hl => ?_)
                  refine lv_goto (tgt := 2) hx hb dX0_tellTurns_48 (by decide) ?_
                  refine lv_iload_n hx hb dX0_tellTurns_2 rfl (lv_at hl 0 rfl) ?_
                  refine lv_bipush (v := 6) hx hb dX0_tellTurns_3 (by decide) ?_
                  refine lv_icmp_ge (tgt := 51) hx hb dX0_tellTurns_5 (by decide) (fun h9 => absurd h9 (by decide)) (fun _ => ?_)
                  refine lv_iload_n hx hb dX0_tellTurns_8 rfl (lv_at hl 4 rfl) ?_
                  refine lv_iconst (v := 0) hx hb dX0_tellTurns_9 (by decide) ?_
                  refine va_mmax hx hb (hml.trans hl.1.symm) hown (hts _ gm_536) (hts _ gm_537) (hts _ gm_17) (hts _ gm_538) (Nat.le_of_ble_eq_true rfl) (Nat.le_of_ble_eq_true rfl) (Nat.le_of_ble_eq_true rfl) (Nat.le_of_ble_eq_true rfl) dX0_tellTurns_10 ?_
                  refine lv_topi (fun x_9 ex_9 => ?_)
                  obtain rfl : x_9 = (0 : Int32) := ex_9.trans (by decide)
                  refine lv_istore (lv' := [(4, .int 0), (3, .int 4), (0, .ref h0), (1, .ref h1), (2, .int 0)]) hx hb dX0_tellTurns_13 hl (by decide) rfl (fun ls hl => ?_)
                  have lp_10 : ∀ (n_10 i_10 : Nat), i_10 + n_10 = 200 → ∀ (g_10_0 : Nat → Int32) (H : Heap) (locs : List Loc) (ls : Array Slot), (∀ j, j < 200 → g_10_0 j = (-1)) → va_P G vwCl [(h0, .inr (0, [.ref a0])), (a0, .inl (cy 3, 6, .inr (.inr (.inr (.inr (fun i => if i < 6 then some (rr i) else none)))))), ((rr 0), .inl (cy 0, 200, .inl (fun _ => (-1)))), ((rr 1), .inl (cy 0, 200, .inl (fun _ => (-1)))), ((rr 2), .inl (cy 0, 200, .inl (fun _ => (-1)))), ((rr 3), .inl (cy 0, 200, .inl (fun _ => (-1)))), ((rr 4), .inl (cy 0, 200, .inl g_10_0)), ((rr 5), .inl (cy 0, 200, .inl (fun _ => (-1)))), (h1, .inr (4, [.int 0, .ref b0, .ref b1, .ref b2, .ref b3, .int 0, .ref b4, .ref b5, .ref b6, .int 0, .ref b7, .ref b8, .ref b9, .ref b10])), (b1, .inl (cy 0, 6, .inl (fun _ => 0)))] H → va_D A [(h0, .inr (0, [.ref a0])), (a0, .inl (cy 3, 6, .inr (.inr (.inr (.inr (fun i => if i < 6 then some (rr i) else none)))))), ((rr 0), .inl (cy 0, 200, .inl (fun _ => (-1)))), ((rr 1), .inl (cy 0, 200, .inl (fun _ => (-1)))), ((rr 2), .inl (cy 0, 200, .inl (fun _ => (-1)))), ((rr 3), .inl (cy 0, 200, .inl (fun _ => (-1)))), ((rr 4), .inl (cy 0, 200, .inl g_10_0)), ((rr 5), .inl (cy 0, 200, .inl (fun _ => (-1)))), (h1, .inr (4, [.int 0, .ref b0, .ref b1, .ref b2, .ref b3, .int 0, .ref b4, .ref b5, .ref b6, .int 0, .ref b7, .ref b8, .ref b9, .ref b10])), (b1, .inl (cy 0, 6, .inl (fun _ => 0)))] → va_S A s.heap H locs → lv_has ls 5 [(4, .int (nI i_10)), (3, .int 4), (0, .ref h0), (1, .ref h1), (2, .int 0)] → W p l e ({ frames := 1, cells := 0, slots := 0, locals := 23 } : Room) s m [.ref h0, .ref h1, .int 0].toArray below meth c H locs 0 0 Q (F0 m 15 ls []) := by
                    intro n_10
                    induction n_10 with
                    | zero =>
                      intro i_10 hi_10 g_10_0 H locs ls hg_10_0 hP hD hS hl
                      obtain rfl : i_10 = 200 := by omega
                      have hP := gz_arr (k := 6) (g := (fun _ => (-1))) hg_10_0 hP rfl
                      have hD := va_D.set (p := 6) (e := .inl (cy 0, 200, .inl (fun _ => (-1)))) hD rfl
                      have hP : va_P G vwCl [(h0, .inr (0, [.ref a0])), (a0, .inl (cy 3, 6, .inr (.inr (.inr (.inr (fun i => if i < 6 then some (rr i) else none)))))), ((rr 0), .inl (cy 0, 200, .inl (fun _ => (-1)))), ((rr 1), .inl (cy 0, 200, .inl (fun _ => (-1)))), ((rr 2), .inl (cy 0, 200, .inl (fun _ => (-1)))), ((rr 3), .inl (cy 0, 200, .inl (fun _ => (-1)))), ((rr 4), .inl (cy 0, 200, .inl (fun _ => (-1)))), ((rr 5), .inl (cy 0, 200, .inl (fun _ => (-1)))), (h1, .inr (4, [.int 0, .ref b0, .ref b1, .ref b2, .ref b3, .int 0, .ref b4, .ref b5, .ref b6, .int 0, .ref b7, .ref b8, .ref b9, .ref b10])), (b1, .inl (cy 0, 6, .inl (fun _ => 0)))] H := hP
                      have hD : va_D A [(h0, .inr (0, [.ref a0])), (a0, .inl (cy 3, 6, .inr (.inr (.inr (.inr (fun i => if i < 6 then some (rr i) else none)))))), ((rr 0), .inl (cy 0, 200, .inl (fun _ => (-1)))), ((rr 1), .inl (cy 0, 200, .inl (fun _ => (-1)))), ((rr 2), .inl (cy 0, 200, .inl (fun _ => (-1)))), ((rr 3), .inl (cy 0, 200, .inl (fun _ => (-1)))), ((rr 4), .inl (cy 0, 200, .inl (fun _ => (-1)))), ((rr 5), .inl (cy 0, 200, .inl (fun _ => (-1)))), (h1, .inr (4, [.int 0, .ref b0, .ref b1, .ref b2, .ref b3, .int 0, .ref b4, .ref b5, .ref b6, .int 0, .ref b7, .ref b8, .ref b9, .ref b10])), (b1, .inl (cy 0, 6, .inl (fun _ => 0)))] := hD
                      refine lv_iload hx hb dX0_tellTurns_15 (lv_at hl 0 rfl) ?_
                      refine lv_sipush (v := 199) hx hb dX0_tellTurns_17 (by decide) ?_
                      refine lv_icmp_gt (tgt := 45) hx hb dX0_tellTurns_20 (by decide) (fun _ => ?_) (fun h9 => absurd (by decide) h9)
                      refine lv_iinc (v := (5)) (lv' := [(3, .int 5), (4, .int (nI 200)), (0, .ref h0), (1, .ref h1), (2, .int 0)]) hx hb dX0_tellTurns_45 hl (k := 1) rfl (by decide) (by decide) rfl (fun ls hl => ?_)
                      refine lv_goto (tgt := 2) hx hb dX0_tellTurns_48 (by decide) ?_
                      refine lv_iload_n hx hb dX0_tellTurns_2 rfl (lv_at hl 0 rfl) ?_
                      refine lv_bipush (v := 6) hx hb dX0_tellTurns_3 (by decide) ?_
                      refine lv_icmp_ge (tgt := 51) hx hb dX0_tellTurns_5 (by decide) (fun h9 => absurd h9 (by decide)) (fun _ => ?_)
                      refine lv_iload_n hx hb dX0_tellTurns_8 rfl (lv_at hl 4 rfl) ?_
                      refine lv_iconst (v := 0) hx hb dX0_tellTurns_9 (by decide) ?_
                      refine va_mmax hx hb (hml.trans hl.1.symm) hown (hts _ gm_536) (hts _ gm_537) (hts _ gm_17) (hts _ gm_538) (Nat.le_of_ble_eq_true rfl) (Nat.le_of_ble_eq_true rfl) (Nat.le_of_ble_eq_true rfl) (Nat.le_of_ble_eq_true rfl) dX0_tellTurns_10 ?_
                      refine lv_topi (fun x_11 ex_11 => ?_)
                      obtain rfl : x_11 = (0 : Int32) := ex_11.trans (by decide)
                      refine lv_istore (lv' := [(4, .int 0), (3, .int 5), (0, .ref h0), (1, .ref h1), (2, .int 0)]) hx hb dX0_tellTurns_13 hl (by decide) rfl (fun ls hl => ?_)
                      have lp_12 : ∀ (n_12 i_12 : Nat), i_12 + n_12 = 200 → ∀ (g_12_0 : Nat → Int32) (H : Heap) (locs : List Loc) (ls : Array Slot), (∀ j, j < 200 → g_12_0 j = (-1)) → va_P G vwCl [(h0, .inr (0, [.ref a0])), (a0, .inl (cy 3, 6, .inr (.inr (.inr (.inr (fun i => if i < 6 then some (rr i) else none)))))), ((rr 0), .inl (cy 0, 200, .inl (fun _ => (-1)))), ((rr 1), .inl (cy 0, 200, .inl (fun _ => (-1)))), ((rr 2), .inl (cy 0, 200, .inl (fun _ => (-1)))), ((rr 3), .inl (cy 0, 200, .inl (fun _ => (-1)))), ((rr 4), .inl (cy 0, 200, .inl (fun _ => (-1)))), ((rr 5), .inl (cy 0, 200, .inl g_12_0)), (h1, .inr (4, [.int 0, .ref b0, .ref b1, .ref b2, .ref b3, .int 0, .ref b4, .ref b5, .ref b6, .int 0, .ref b7, .ref b8, .ref b9, .ref b10])), (b1, .inl (cy 0, 6, .inl (fun _ => 0)))] H → va_D A [(h0, .inr (0, [.ref a0])), (a0, .inl (cy 3, 6, .inr (.inr (.inr (.inr (fun i => if i < 6 then some (rr i) else none)))))), ((rr 0), .inl (cy 0, 200, .inl (fun _ => (-1)))), ((rr 1), .inl (cy 0, 200, .inl (fun _ => (-1)))), ((rr 2), .inl (cy 0, 200, .inl (fun _ => (-1)))), ((rr 3), .inl (cy 0, 200, .inl (fun _ => (-1)))), ((rr 4), .inl (cy 0, 200, .inl (fun _ => (-1)))), ((rr 5), .inl (cy 0, 200, .inl g_12_0)), (h1, .inr (4, [.int 0, .ref b0, .ref b1, .ref b2, .ref b3, .int 0, .ref b4, .ref b5, .ref b6, .int 0, .ref b7, .ref b8, .ref b9, .ref b10])), (b1, .inl (cy 0, 6, .inl (fun _ => 0)))] → va_S A s.heap H locs → lv_has ls 5 [(4, .int (nI i_12)), (3, .int 5), (0, .ref h0), (1, .ref h1), (2, .int 0)] → W p l e ({ frames := 1, cells := 0, slots := 0, locals := 23 } : Room) s m [.ref h0, .ref h1, .int 0].toArray below meth c H locs 0 0 Q (F0 m 15 ls []) := by
                        intro n_12
                        induction n_12 with
                        | zero =>
                          intro i_12 hi_12 g_12_0 H locs ls hg_12_0 hP hD hS hl
                          obtain rfl : i_12 = 200 := by omega
                          have hP := gz_arr (k := 7) (g := (fun _ => (-1))) hg_12_0 hP rfl
                          have hD := va_D.set (p := 7) (e := .inl (cy 0, 200, .inl (fun _ => (-1)))) hD rfl
                          have hP : va_P G vwCl [(h0, .inr (0, [.ref a0])), (a0, .inl (cy 3, 6, .inr (.inr (.inr (.inr (fun i => if i < 6 then some (rr i) else none)))))), ((rr 0), .inl (cy 0, 200, .inl (fun _ => (-1)))), ((rr 1), .inl (cy 0, 200, .inl (fun _ => (-1)))), ((rr 2), .inl (cy 0, 200, .inl (fun _ => (-1)))), ((rr 3), .inl (cy 0, 200, .inl (fun _ => (-1)))), ((rr 4), .inl (cy 0, 200, .inl (fun _ => (-1)))), ((rr 5), .inl (cy 0, 200, .inl (fun _ => (-1)))), (h1, .inr (4, [.int 0, .ref b0, .ref b1, .ref b2, .ref b3, .int 0, .ref b4, .ref b5, .ref b6, .int 0, .ref b7, .ref b8, .ref b9, .ref b10])), (b1, .inl (cy 0, 6, .inl (fun _ => 0)))] H := hP
                          have hD : va_D A [(h0, .inr (0, [.ref a0])), (a0, .inl (cy 3, 6, .inr (.inr (.inr (.inr (fun i => if i < 6 then some (rr i) else none)))))), ((rr 0), .inl (cy 0, 200, .inl (fun _ => (-1)))), ((rr 1), .inl (cy 0, 200, .inl (fun _ => (-1)))), ((rr 2), .inl (cy 0, 200, .inl (fun _ => (-1)))), ((rr 3), .inl (cy 0, 200, .inl (fun _ => (-1)))), ((rr 4), .inl (cy 0, 200, .inl (fun _ => (-1)))), ((rr 5), .inl (cy 0, 200, .inl (fun _ => (-1)))), (h1, .inr (4, [.int 0, .ref b0, .ref b1, .ref b2, .ref b3, .int 0, .ref b4, .ref b5, .ref b6, .int 0, .ref b7, .ref b8, .ref b9, .ref b10])), (b1, .inl (cy 0, 6, .inl (fun _ => 0)))] := hD
                          refine lv_iload hx hb dX0_tellTurns_15 (lv_at hl 0 rfl) ?_
                          refine lv_sipush (v := 199) hx hb dX0_tellTurns_17 (by decide) ?_
                          refine lv_icmp_gt (tgt := 45) hx hb dX0_tellTurns_20 (by decide) (fun _ => ?_) (fun h9 => absurd (by decide) h9)
                          refine lv_iinc (v := (6)) (lv' := [(3, .int 6), (4, .int (nI 200)), (0, .ref h0), (1, .ref h1), (2, .int 0)]) hx hb dX0_tellTurns_45 hl (k := 1) rfl (by decide) (by decide) rfl (fun ls hl => ?_)
                          refine lv_goto (tgt := 2) hx hb dX0_tellTurns_48 (by decide) ?_
                          refine lv_iload_n hx hb dX0_tellTurns_2 rfl (lv_at hl 0 rfl) ?_
                          refine lv_bipush (v := 6) hx hb dX0_tellTurns_3 (by decide) ?_
                          refine lv_icmp_ge (tgt := 51) hx hb dX0_tellTurns_5 (by decide) (fun _ => ?_) (fun h9 => absurd (by decide) h9)
                          rw [← hQe]
                          exact gz_vret (cf := (fun (u : Unit) => [(h0, .inr (0, [.ref a0])), (a0, .inl (cy 3, 6, .inr (.inr (.inr (.inr (fun i => if i < 6 then some (rr i) else none)))))), ((rr 0), .inl (cy 0, 200, .inl (fun _ => (-1)))), ((rr 1), .inl (cy 0, 200, .inl (fun _ => (-1)))), ((rr 2), .inl (cy 0, 200, .inl (fun _ => (-1)))), ((rr 3), .inl (cy 0, 200, .inl (fun _ => (-1)))), ((rr 4), .inl (cy 0, 200, .inl (fun _ => (-1)))), ((rr 5), .inl (cy 0, 200, .inl (fun _ => (-1)))), (h1, .inr (4, [.int 0, .ref b0, .ref b1, .ref b2, .ref b3, .int 0, .ref b4, .ref b5, .ref b6, .int 0, .ref b7, .ref b8, .ref b9, .ref b10])), (b1, .inl (cy 0, 6, .inl (fun _ => 0)))])) (post := (fun (u : Unit) => True)) hx hb hr hlocks hK hP hD hS () [0, 1, 2, 3, 4, 5, 6, 7, 8, 9] trivial (by decide) rfl (Nat.le_of_ble_eq_true rfl) (Nat.le_of_ble_eq_true rfl) dX0_tellTurns_51
                        | succ n_12 ih =>
                          intro i_12 hi_12 g_12_0 H locs ls hg_12_0 hP hD hS hl
                          refine lv_iload hx hb dX0_tellTurns_15 (lv_at hl 0 rfl) ?_
                          refine lv_sipush (v := 199) hx hb dX0_tellTurns_17 (by decide) ?_
                          refine lv_icmp_gt (tgt := 45) hx hb dX0_tellTurns_20 (by decide) (fun h9 => absurd h9 (nI_nlt (a := 199) (by omega) (by decide))) (fun _ => ?_)
                          refine lv_aload_n hx hb dX0_tellTurns_23 rfl (lv_at hl 2 rfl) ?_
                          refine va_get (ci := 0) (v := .ref a0) (C := RX0) (T := TX0) (N := 1) hx hb hts inX0 hown hK hP 0 rfl rfl 0 (by decide) (hts _ gm_109) (fun _ h9 => h9) rfl dX0_tellTurns_24 ?_
                          refine lv_iload_n hx hb dX0_tellTurns_27 rfl (lv_at hl 1 rfl) ?_
                          refine gz_alda hx hb hK hP 1 rfl (vp_in_iff.mpr (by decide)) dX0_tellTurns_28 (v := .ref (rr 5)) rfl ?_
                          refine lv_iload hx hb dX0_tellTurns_29 (lv_at hl 0 rfl) ?_
                          refine lv_aload_n hx hb dX0_tellTurns_31 rfl (lv_at hl 3 rfl) ?_
                          refine lv_iload_n hx hb dX0_tellTurns_32 rfl (lv_at hl 1 rfl) ?_
                          refine lv_iload hx hb dX0_tellTurns_33 (lv_at hl 0 rfl) ?_
                          refine gz_afti (va_runV (As := [.int 5, .int (nI i_12)]) (rest := [.int (nI i_12), .ref (rr 5)]) ⟨hx, hb, hml, hown, hts⟩ (c_X4_turnOn l G cy H.size h1 b0 b1 b2 b3 b4 b5 b6 b7 b8 b9 b10 5 (nI i_12) 5 ((nI i_12).toInt) (by decide) rfl (by first | decide | omega) (by first | decide | omega)) ⟨(gz_cb (n := 2) hts gm_539 gm_10 gm_542 ⟨by decide +kernel, by decide +kernel, by decide +kernel⟩ ⟨Nat.le_of_ble_eq_true rfl, Nat.le_of_ble_eq_true rfl⟩), hts _ gm_540, hts _ gm_541⟩ (gz_preV (ci := 4) (q0 := 0) hK hov hP hD [8, 9] (by decide) rfl rfl rfl) rfl rfl hl.1 rfl (lv_room (Nat.le_of_ble_eq_true rfl)) dX0_tellTurns_35 ⟨Nat.le_of_ble_eq_true rfl, Nat.le_of_ble_eq_true rfl⟩) hP hD hS hA [8, 9] [0, 1, 2, 3, 4, 5, 6, 7] rfl rfl (by decide) (by decide) (fun r_13 u_13 H locs hw_13 hP hD hS => ?_)
                          have hP : va_P G vwCl [(h0, .inr (0, [.ref a0])), (a0, .inl (cy 3, 6, .inr (.inr (.inr (.inr (fun i => if i < 6 then some (rr i) else none)))))), ((rr 0), .inl (cy 0, 200, .inl (fun _ => (-1)))), ((rr 1), .inl (cy 0, 200, .inl (fun _ => (-1)))), ((rr 2), .inl (cy 0, 200, .inl (fun _ => (-1)))), ((rr 3), .inl (cy 0, 200, .inl (fun _ => (-1)))), ((rr 4), .inl (cy 0, 200, .inl (fun _ => (-1)))), ((rr 5), .inl (cy 0, 200, .inl g_12_0)), (h1, .inr (4, [.int 0, .ref b0, .ref b1, .ref b2, .ref b3, .int 0, .ref b4, .ref b5, .ref b6, .int 0, .ref b7, .ref b8, .ref b9, .ref b10])), (b1, .inl (cy 0, 6, .inl (fun _ => 0)))] H := hP
                          have hD : va_D A [(h0, .inr (0, [.ref a0])), (a0, .inl (cy 3, 6, .inr (.inr (.inr (.inr (fun i => if i < 6 then some (rr i) else none)))))), ((rr 0), .inl (cy 0, 200, .inl (fun _ => (-1)))), ((rr 1), .inl (cy 0, 200, .inl (fun _ => (-1)))), ((rr 2), .inl (cy 0, 200, .inl (fun _ => (-1)))), ((rr 3), .inl (cy 0, 200, .inl (fun _ => (-1)))), ((rr 4), .inl (cy 0, 200, .inl (fun _ => (-1)))), ((rr 5), .inl (cy 0, 200, .inl g_12_0)), (h1, .inr (4, [.int 0, .ref b0, .ref b1, .ref b2, .ref b3, .int 0, .ref b4, .ref b5, .ref b6, .int 0, .ref b7, .ref b8, .ref b9, .ref b10])), (b1, .inl (cy 0, 6, .inl (fun _ => 0)))] := hD
                          obtain rfl := hw_13
                          refine va_iast hx hb hK hP hD hS 7 0 rfl rfl (vp_in_nI (by omega) (by decide)) dX0_tellTurns_38 (fun H locs hP hD hS => ?_)
                          obtain ⟨f_14, ef_14⟩ : ∃ g : Nat → Int32, g = upd g_12_0 (nI i_12 : Int32).toNatClampNeg (-1) := ⟨_, rfl⟩
                          have hP : va_P G vwCl [(h0, .inr (0, [.ref a0])), (a0, .inl (cy 3, 6, .inr (.inr (.inr (.inr (fun i => if i < 6 then some (rr i) else none)))))), ((rr 0), .inl (cy 0, 200, .inl (fun _ => (-1)))), ((rr 1), .inl (cy 0, 200, .inl (fun _ => (-1)))), ((rr 2), .inl (cy 0, 200, .inl (fun _ => (-1)))), ((rr 3), .inl (cy 0, 200, .inl (fun _ => (-1)))), ((rr 4), .inl (cy 0, 200, .inl (fun _ => (-1)))), ((rr 5), .inl (cy 0, 200, .inl f_14)), (h1, .inr (4, [.int 0, .ref b0, .ref b1, .ref b2, .ref b3, .int 0, .ref b4, .ref b5, .ref b6, .int 0, .ref b7, .ref b8, .ref b9, .ref b10])), (b1, .inl (cy 0, 6, .inl (fun _ => 0)))] H := ef_14 ▸ hP
                          have hD : va_D A [(h0, .inr (0, [.ref a0])), (a0, .inl (cy 3, 6, .inr (.inr (.inr (.inr (fun i => if i < 6 then some (rr i) else none)))))), ((rr 0), .inl (cy 0, 200, .inl (fun _ => (-1)))), ((rr 1), .inl (cy 0, 200, .inl (fun _ => (-1)))), ((rr 2), .inl (cy 0, 200, .inl (fun _ => (-1)))), ((rr 3), .inl (cy 0, 200, .inl (fun _ => (-1)))), ((rr 4), .inl (cy 0, 200, .inl (fun _ => (-1)))), ((rr 5), .inl (cy 0, 200, .inl f_14)), (h1, .inr (4, [.int 0, .ref b0, .ref b1, .ref b2, .ref b3, .int 0, .ref b4, .ref b5, .ref b6, .int 0, .ref b7, .ref b8, .ref b9, .ref b10])), (b1, .inl (cy 0, 6, .inl (fun _ => 0)))] := ef_14 ▸ hD
                          refine lv_iinc (v := (nI (i_12 + 1))) (lv' := [(4, .int (nI (i_12 + 1))), (3, .int 5), (0, .ref h0), (1, .ref h1), (2, .int 0)]) hx hb dX0_tellTurns_39 hl (k := 0) rfl (nI_add i_12 1) (by decide) rfl (fun ls hl => ?_)
                          refine lv_goto (tgt := 15) hx hb dX0_tellTurns_42 (by decide) ?_
                          exact ih (i_12 + 1) (by omega) f_14 H _ ls (fun j hj => by rw [ef_14]; exact gz_updc hg_12_0 j hj) hP hD hS (lv_sub hl [0, 1, 2, 3, 4] rfl)
                      exact lp_12 200 0 (by omega) (fun _ => (-1)) H _ ls (fun j hj => rfl) hP hD hS hl
                    | succ n_10 ih =>
                      intro i_10 hi_10 g_10_0 H locs ls hg_10_0 hP hD hS hl
                      refine lv_iload hx hb dX0_tellTurns_15 (lv_at hl 0 rfl) ?_
                      refine lv_sipush (v := 199) hx hb dX0_tellTurns_17 (by decide) ?_
                      refine lv_icmp_gt (tgt := 45) hx hb dX0_tellTurns_20 (by decide) (fun h9 => absurd h9 (nI_nlt (a := 199) (by omega) (by decide))) (fun _ => ?_)
                      refine lv_aload_n hx hb dX0_tellTurns_23 rfl (lv_at hl 2 rfl) ?_
                      refine va_get (ci := 0) (v := .ref a0) (C := RX0) (T := TX0) (N := 1) hx hb hts inX0 hown hK hP 0 rfl rfl 0 (by decide) (hts _ gm_109) (fun _ h9 => h9) rfl dX0_tellTurns_24 ?_
                      refine lv_iload_n hx hb dX0_tellTurns_27 rfl (lv_at hl 1 rfl) ?_
                      refine gz_alda hx hb hK hP 1 rfl (vp_in_iff.mpr (by decide)) dX0_tellTurns_28 (v := .ref (rr 4)) rfl ?_
                      refine lv_iload hx hb dX0_tellTurns_29 (lv_at hl 0 rfl) ?_
                      refine lv_aload_n hx hb dX0_tellTurns_31 rfl (lv_at hl 3 rfl) ?_
                      refine lv_iload_n hx hb dX0_tellTurns_32 rfl (lv_at hl 1 rfl) ?_
                      refine lv_iload hx hb dX0_tellTurns_33 (lv_at hl 0 rfl) ?_
                      refine gz_afti (va_runV (As := [.int 4, .int (nI i_10)]) (rest := [.int (nI i_10), .ref (rr 4)]) ⟨hx, hb, hml, hown, hts⟩ (c_X4_turnOn l G cy H.size h1 b0 b1 b2 b3 b4 b5 b6 b7 b8 b9 b10 4 (nI i_10) 4 ((nI i_10).toInt) (by decide) rfl (by first | decide | omega) (by first | decide | omega)) ⟨(gz_cb (n := 2) hts gm_539 gm_10 gm_542 ⟨by decide +kernel, by decide +kernel, by decide +kernel⟩ ⟨Nat.le_of_ble_eq_true rfl, Nat.le_of_ble_eq_true rfl⟩), hts _ gm_540, hts _ gm_541⟩ (gz_preV (ci := 4) (q0 := 0) hK hov hP hD [8, 9] (by decide) rfl rfl rfl) rfl rfl hl.1 rfl (lv_room (Nat.le_of_ble_eq_true rfl)) dX0_tellTurns_35 ⟨Nat.le_of_ble_eq_true rfl, Nat.le_of_ble_eq_true rfl⟩) hP hD hS hA [8, 9] [0, 1, 2, 3, 4, 5, 6, 7] rfl rfl (by decide) (by decide) (fun r_15 u_15 H locs hw_15 hP hD hS => ?_)
                      have hP : va_P G vwCl [(h0, .inr (0, [.ref a0])), (a0, .inl (cy 3, 6, .inr (.inr (.inr (.inr (fun i => if i < 6 then some (rr i) else none)))))), ((rr 0), .inl (cy 0, 200, .inl (fun _ => (-1)))), ((rr 1), .inl (cy 0, 200, .inl (fun _ => (-1)))), ((rr 2), .inl (cy 0, 200, .inl (fun _ => (-1)))), ((rr 3), .inl (cy 0, 200, .inl (fun _ => (-1)))), ((rr 4), .inl (cy 0, 200, .inl g_10_0)), ((rr 5), .inl (cy 0, 200, .inl (fun _ => (-1)))), (h1, .inr (4, [.int 0, .ref b0, .ref b1, .ref b2, .ref b3, .int 0, .ref b4, .ref b5, .ref b6, .int 0, .ref b7, .ref b8, .ref b9, .ref b10])), (b1, .inl (cy 0, 6, .inl (fun _ => 0)))] H := hP
                      have hD : va_D A [(h0, .inr (0, [.ref a0])), (a0, .inl (cy 3, 6, .inr (.inr (.inr (.inr (fun i => if i < 6 then some (rr i) else none)))))), ((rr 0), .inl (cy 0, 200, .inl (fun _ => (-1)))), ((rr 1), .inl (cy 0, 200, .inl (fun _ => (-1)))), ((rr 2), .inl (cy 0, 200, .inl (fun _ => (-1)))), ((rr 3), .inl (cy 0, 200, .inl (fun _ => (-1)))), ((rr 4), .inl (cy 0, 200, .inl g_10_0)), ((rr 5), .inl (cy 0, 200, .inl (fun _ => (-1)))), (h1, .inr (4, [.int 0, .ref b0, .ref b1, .ref b2, .ref b3, .int 0, .ref b4, .ref b5, .ref b6, .int 0, .ref b7, .ref b8, .ref b9, .ref b10])), (b1, .inl (cy 0, 6, .inl (fun _ => 0)))] := hD
                      obtain rfl := hw_15
                      refine va_iast hx hb hK hP hD hS 6 0 rfl rfl (vp_in_nI (by omega) (by decide)) dX0_tellTurns_38 (fun H locs hP hD hS => ?_)
                      obtain ⟨f_16, ef_16⟩ : ∃ g : Nat → Int32, g = upd g_10_0 (nI i_10 : Int32).toNatClampNeg (-1) := ⟨_, rfl⟩
                      have hP : va_P G vwCl [(h0, .inr (0, [.ref a0])), (a0, .inl (cy 3, 6, .inr (.inr (.inr (.inr (fun i => if i < 6 then some (rr i) else none)))))), ((rr 0), .inl (cy 0, 200, .inl (fun _ => (-1)))), ((rr 1), .inl (cy 0, 200, .inl (fun _ => (-1)))), ((rr 2), .inl (cy 0, 200, .inl (fun _ => (-1)))), ((rr 3), .inl (cy 0, 200, .inl (fun _ => (-1)))), ((rr 4), .inl (cy 0, 200, .inl f_16)), ((rr 5), .inl (cy 0, 200, .inl (fun _ => (-1)))), (h1, .inr (4, [.int 0, .ref b0, .ref b1, .ref b2, .ref b3, .int 0, .ref b4, .ref b5, .ref b6, .int 0, .ref b7, .ref b8, .ref b9, .ref b10])), (b1, .inl (cy 0, 6, .inl (fun _ => 0)))] H := ef_16 ▸ hP
                      have hD : va_D A [(h0, .inr (0, [.ref a0])), (a0, .inl (cy 3, 6, .inr (.inr (.inr (.inr (fun i => if i < 6 then some (rr i) else none)))))), ((rr 0), .inl (cy 0, 200, .inl (fun _ => (-1)))), ((rr 1), .inl (cy 0, 200, .inl (fun _ => (-1)))), ((rr 2), .inl (cy 0, 200, .inl (fun _ => (-1)))), ((rr 3), .inl (cy 0, 200, .inl (fun _ => (-1)))), ((rr 4), .inl (cy 0, 200, .inl f_16)), ((rr 5), .inl (cy 0, 200, .inl (fun _ => (-1)))), (h1, .inr (4, [.int 0, .ref b0, .ref b1, .ref b2, .ref b3, .int 0, .ref b4, .ref b5, .ref b6, .int 0, .ref b7, .ref b8, .ref b9, .ref b10])), (b1, .inl (cy 0, 6, .inl (fun _ => 0)))] := ef_16 ▸ hD
                      refine lv_iinc (v := (nI (i_10 + 1))) (lv' := [(4, .int (nI (i_10 + 1))), (3, .int 4), (0, .ref h0), (1, .ref h1), (2, .int 0)]) hx hb dX0_tellTurns_39 hl (k := 0) rfl (nI_add i_10 1) (by decide) rfl (fun ls hl => ?_)
                      refine lv_goto (tgt := 15) hx hb dX0_tellTurns_42 (by decide) ?_
                      exact ih (i_10 + 1) (by omega) f_16 H _ ls (fun j hj => by rw [ef_16]; exact gz_updc hg_10_0 j hj) hP hD hS (lv_sub hl [0, 1, 2, 3, 4] rfl)
                  exact lp_10 200 0 (by omega) (fun _ => (-1)) H _ ls (fun j hj => rfl) hP hD hS hl
                | succ n_8 ih =>
                  intro i_8 hi_8 g_8_0 H locs ls hg_8_0 hP hD hS hl
                  refine lv_iload hx hb dX0_tellTurns_15 (lv_at hl 0 rfl) ?_
                  refine lv_sipush (v := 199) hx hb dX0_tellTurns_17 (by decide) ?_
                  refine lv_icmp_gt (tgt := 45) hx hb dX0_tellTurns_20 (by decide) (fun h9 => absurd h9 (nI_nlt (a := 199) (by omega) (by decide))) (fun _ => ?_)
                  refine lv_aload_n hx hb dX0_tellTurns_23 rfl (lv_at hl 2 rfl) ?_
                  refine va_get (ci := 0) (v := .ref a0) (C := RX0) (T := TX0) (N := 1) hx hb hts inX0 hown hK hP 0 rfl rfl 0 (by decide) (hts _ gm_109) (fun _ h9 => h9) rfl dX0_tellTurns_24 ?_
                  refine lv_iload_n hx hb dX0_tellTurns_27 rfl (lv_at hl 1 rfl) ?_
                  refine gz_alda hx hb hK hP 1 rfl (vp_in_iff.mpr (by decide)) dX0_tellTurns_28 (v := .ref (rr 3)) rfl ?_
                  refine lv_iload hx hb dX0_tellTurns_29 (lv_at hl 0 rfl) ?_
                  refine lv_aload_n hx hb dX0_tellTurns_31 rfl (lv_at hl 3 rfl) ?_
                  refine lv_iload_n hx hb dX0_tellTurns_32 rfl (lv_at hl 1 rfl) ?_
                  refine lv_iload hx hb dX0_tellTurns_33 (lv_at hl 0 rfl) ?_
                  refine gz_afti (va_runV (As := [.int 3, .int (nI i_8)]) (rest := [.int (nI i_8), .ref (rr 3)]) ⟨hx, hb, hml, hown, hts⟩ (c_X4_turnOn l G cy H.size h1 b0 b1 b2 b3 b4 b5 b6 b7 b8 b9 b10 3 (nI i_8) 3 ((nI i_8).toInt) (by decide) rfl (by first | decide | omega) (by first | decide | omega)) ⟨(gz_cb (n := 2) hts gm_539 gm_10 gm_542 ⟨by decide +kernel, by decide +kernel, by decide +kernel⟩ ⟨Nat.le_of_ble_eq_true rfl, Nat.le_of_ble_eq_true rfl⟩), hts _ gm_540, hts _ gm_541⟩ (gz_preV (ci := 4) (q0 := 0) hK hov hP hD [8, 9] (by decide) rfl rfl rfl) rfl rfl hl.1 rfl (lv_room (Nat.le_of_ble_eq_true rfl)) dX0_tellTurns_35 ⟨Nat.le_of_ble_eq_true rfl, Nat.le_of_ble_eq_true rfl⟩) hP hD hS hA [8, 9] [0, 1, 2, 3, 4, 5, 6, 7] rfl rfl (by decide) (by decide) (fun r_17 u_17 H locs hw_17 hP hD hS => ?_)
                  have hP : va_P G vwCl [(h0, .inr (0, [.ref a0])), (a0, .inl (cy 3, 6, .inr (.inr (.inr (.inr (fun i => if i < 6 then some (rr i) else none)))))), ((rr 0), .inl (cy 0, 200, .inl (fun _ => (-1)))), ((rr 1), .inl (cy 0, 200, .inl (fun _ => (-1)))), ((rr 2), .inl (cy 0, 200, .inl (fun _ => (-1)))), ((rr 3), .inl (cy 0, 200, .inl g_8_0)), ((rr 4), .inl (cy 0, 200, .inl (fun _ => (-1)))), ((rr 5), .inl (cy 0, 200, .inl (fun _ => (-1)))), (h1, .inr (4, [.int 0, .ref b0, .ref b1, .ref b2, .ref b3, .int 0, .ref b4, .ref b5, .ref b6, .int 0, .ref b7, .ref b8, .ref b9, .ref b10])), (b1, .inl (cy 0, 6, .inl (fun _ => 0)))] H := hP
                  have hD : va_D A [(h0, .inr (0, [.ref a0])), (a0, .inl (cy 3, 6, .inr (.inr (.inr (.inr (fun i => if i < 6 then some (rr i) else none)))))), ((rr 0), .inl (cy 0, 200, .inl (fun _ => (-1)))), ((rr 1), .inl (cy 0, 200, .inl (fun _ => (-1)))), ((rr 2), .inl (cy 0, 200, .inl (fun _ => (-1)))), ((rr 3), .inl (cy 0, 200, .inl g_8_0)), ((rr 4), .inl (cy 0, 200, .inl (fun _ => (-1)))), ((rr 5), .inl (cy 0, 200, .inl (fun _ => (-1)))), (h1, .inr (4, [.int 0, .ref b0, .ref b1, .ref b2, .ref b3, .int 0, .ref b4, .ref b5, .ref b6, .int 0, .ref b7, .ref b8, .ref b9, .ref b10])), (b1, .inl (cy 0, 6, .inl (fun _ => 0)))] := hD
                  obtain rfl := hw_17
                  refine va_iast hx hb hK hP hD hS 5 0 rfl rfl (vp_in_nI (by omega) (by decide)) dX0_tellTurns_38 (fun H locs hP hD hS => ?_)
                  obtain ⟨f_18, ef_18⟩ : ∃ g : Nat → Int32, g = upd g_8_0 (nI i_8 : Int32).toNatClampNeg (-1) := ⟨_, rfl⟩
                  have hP : va_P G vwCl [(h0, .inr (0, [.ref a0])), (a0, .inl (cy 3, 6, .inr (.inr (.inr (.inr (fun i => if i < 6 then some (rr i) else none)))))), ((rr 0), .inl (cy 0, 200, .inl (fun _ => (-1)))), ((rr 1), .inl (cy 0, 200, .inl (fun _ => (-1)))), ((rr 2), .inl (cy 0, 200, .inl (fun _ => (-1)))), ((rr 3), .inl (cy 0, 200, .inl f_18)), ((rr 4), .inl (cy 0, 200, .inl (fun _ => (-1)))), ((rr 5), .inl (cy 0, 200, .inl (fun _ => (-1)))), (h1, .inr (4, [.int 0, .ref b0, .ref b1, .ref b2, .ref b3, .int 0, .ref b4, .ref b5, .ref b6, .int 0, .ref b7, .ref b8, .ref b9, .ref b10])), (b1, .inl (cy 0, 6, .inl (fun _ => 0)))] H := ef_18 ▸ hP
                  have hD : va_D A [(h0, .inr (0, [.ref a0])), (a0, .inl (cy 3, 6, .inr (.inr (.inr (.inr (fun i => if i < 6 then some (rr i) else none)))))), ((rr 0), .inl (cy 0, 200, .inl (fun _ => (-1)))), ((rr 1), .inl (cy 0, 200, .inl (fun _ => (-1)))), ((rr 2), .inl (cy 0, 200, .inl (fun _ => (-1)))), ((rr 3), .inl (cy 0, 200, .inl f_18)), ((rr 4), .inl (cy 0, 200, .inl (fun _ => (-1)))), ((rr 5), .inl (cy 0, 200, .inl (fun _ => (-1)))), (h1, .inr (4, [.int 0, .ref b0, .ref b1, .ref b2, .ref b3, .int 0, .ref b4, .ref b5, .ref b6, .int 0, .ref b7, .ref b8, .ref b9, .ref b10])), (b1, .inl (cy 0, 6, .inl (fun _ => 0)))] := ef_18 ▸ hD
                  refine lv_iinc (v := (nI (i_8 + 1))) (lv' := [(4, .int (nI (i_8 + 1))), (3, .int 3), (0, .ref h0), (1, .ref h1), (2, .int 0)]) hx hb dX0_tellTurns_39 hl (k := 0) rfl (nI_add i_8 1) (by decide) rfl (fun ls hl => ?_)
                  refine lv_goto (tgt := 15) hx hb dX0_tellTurns_42 (by decide) ?_
                  exact ih (i_8 + 1) (by omega) f_18 H _ ls (fun j hj => by rw [ef_18]; exact gz_updc hg_8_0 j hj) hP hD hS (lv_sub hl [0, 1, 2, 3, 4] rfl)
              exact lp_8 200 0 (by omega) (fun _ => (-1)) H _ ls (fun j hj => rfl) hP hD hS hl
            | succ n_6 ih =>
              intro i_6 hi_6 g_6_0 H locs ls hg_6_0 hP hD hS hl
              refine lv_iload hx hb dX0_tellTurns_15 (lv_at hl 0 rfl) ?_
              refine lv_sipush (v := 199) hx hb dX0_tellTurns_17 (by decide) ?_
              refine lv_icmp_gt (tgt := 45) hx hb dX0_tellTurns_20 (by decide) (fun h9 => absurd h9 (nI_nlt (a := 199) (by omega) (by decide))) (fun _ => ?_)
              refine lv_aload_n hx hb dX0_tellTurns_23 rfl (lv_at hl 2 rfl) ?_
              refine va_get (ci := 0) (v := .ref a0) (C := RX0) (T := TX0) (N := 1) hx hb hts inX0 hown hK hP 0 rfl rfl 0 (by decide) (hts _ gm_109) (fun _ h9 => h9) rfl dX0_tellTurns_24 ?_
              refine lv_iload_n hx hb dX0_tellTurns_27 rfl (lv_at hl 1 rfl) ?_
              refine gz_alda hx hb hK hP 1 rfl (vp_in_iff.mpr (by decide)) dX0_tellTurns_28 (v := .ref (rr 2)) rfl ?_
              refine lv_iload hx hb dX0_tellTurns_29 (lv_at hl 0 rfl) ?_
              refine lv_aload_n hx hb dX0_tellTurns_31 rfl (lv_at hl 3 rfl) ?_
              refine lv_iload_n hx hb dX0_tellTurns_32 rfl (lv_at hl 1 rfl) ?_
              refine lv_iload hx hb dX0_tellTurns_33 (lv_at hl 0 rfl) ?_
              refine gz_afti (va_runV (As := [.int 2, .int (nI i_6)]) (rest := [.int (nI i_6), .ref (rr 2)]) ⟨hx, hb, hml, hown, hts⟩ (c_X4_turnOn l G cy H.size h1 b0 b1 b2 b3 b4 b5 b6 b7 b8 b9 b10 2 (nI i_6) 2 ((nI i_6).toInt) (by decide) rfl (by first | decide | omega) (by first | decide | omega)) ⟨(gz_cb (n := 2) hts gm_539 gm_10 gm_542 ⟨by decide +kernel, by decide +kernel, by decide +kernel⟩ ⟨Nat.le_of_ble_eq_true rfl, Nat.le_of_ble_eq_true rfl⟩), hts _ gm_540, hts _ gm_541⟩ (gz_preV (ci := 4) (q0 := 0) hK hov hP hD [8, 9] (by decide) rfl rfl rfl) rfl rfl hl.1 rfl (lv_room (Nat.le_of_ble_eq_true rfl)) dX0_tellTurns_35 ⟨Nat.le_of_ble_eq_true rfl, Nat.le_of_ble_eq_true rfl⟩) hP hD hS hA [8, 9] [0, 1, 2, 3, 4, 5, 6, 7] rfl rfl (by decide) (by decide) (fun r_19 u_19 H locs hw_19 hP hD hS => ?_)
              have hP : va_P G vwCl [(h0, .inr (0, [.ref a0])), (a0, .inl (cy 3, 6, .inr (.inr (.inr (.inr (fun i => if i < 6 then some (rr i) else none)))))), ((rr 0), .inl (cy 0, 200, .inl (fun _ => (-1)))), ((rr 1), .inl (cy 0, 200, .inl (fun _ => (-1)))), ((rr 2), .inl (cy 0, 200, .inl g_6_0)), ((rr 3), .inl (cy 0, 200, .inl (fun _ => (-1)))), ((rr 4), .inl (cy 0, 200, .inl (fun _ => (-1)))), ((rr 5), .inl (cy 0, 200, .inl (fun _ => (-1)))), (h1, .inr (4, [.int 0, .ref b0, .ref b1, .ref b2, .ref b3, .int 0, .ref b4, .ref b5, .ref b6, .int 0, .ref b7, .ref b8, .ref b9, .ref b10])), (b1, .inl (cy 0, 6, .inl (fun _ => 0)))] H := hP
              have hD : va_D A [(h0, .inr (0, [.ref a0])), (a0, .inl (cy 3, 6, .inr (.inr (.inr (.inr (fun i => if i < 6 then some (rr i) else none)))))), ((rr 0), .inl (cy 0, 200, .inl (fun _ => (-1)))), ((rr 1), .inl (cy 0, 200, .inl (fun _ => (-1)))), ((rr 2), .inl (cy 0, 200, .inl g_6_0)), ((rr 3), .inl (cy 0, 200, .inl (fun _ => (-1)))), ((rr 4), .inl (cy 0, 200, .inl (fun _ => (-1)))), ((rr 5), .inl (cy 0, 200, .inl (fun _ => (-1)))), (h1, .inr (4, [.int 0, .ref b0, .ref b1, .ref b2, .ref b3, .int 0, .ref b4, .ref b5, .ref b6, .int 0, .ref b7, .ref b8, .ref b9, .ref b10])), (b1, .inl (cy 0, 6, .inl (fun _ => 0)))] := hD
              obtain rfl := hw_19
              refine va_iast hx hb hK hP hD hS 4 0 rfl rfl (vp_in_nI (by omega) (by decide)) dX0_tellTurns_38 (fun H locs hP hD hS => ?_)
              obtain ⟨f_20, ef_20⟩ : ∃ g : Nat → Int32, g = upd g_6_0 (nI i_6 : Int32).toNatClampNeg (-1) := ⟨_, rfl⟩
              have hP : va_P G vwCl [(h0, .inr (0, [.ref a0])), (a0, .inl (cy 3, 6, .inr (.inr (.inr (.inr (fun i => if i < 6 then some (rr i) else none)))))), ((rr 0), .inl (cy 0, 200, .inl (fun _ => (-1)))), ((rr 1), .inl (cy 0, 200, .inl (fun _ => (-1)))), ((rr 2), .inl (cy 0, 200, .inl f_20)), ((rr 3), .inl (cy 0, 200, .inl (fun _ => (-1)))), ((rr 4), .inl (cy 0, 200, .inl (fun _ => (-1)))), ((rr 5), .inl (cy 0, 200, .inl (fun _ => (-1)))), (h1, .inr (4, [.int 0, .ref b0, .ref b1, .ref b2, .ref b3, .int 0, .ref b4, .ref b5, .ref b6, .int 0, .ref b7, .ref b8, .ref b9, .ref b10])), (b1, .inl (cy 0, 6, .inl (fun _ => 0)))] H := ef_20 ▸ hP
              have hD : va_D A [(h0, .inr (0, [.ref a0])), (a0, .inl (cy 3, 6, .inr (.inr (.inr (.inr (fun i => if i < 6 then some (rr i) else none)))))), ((rr 0), .inl (cy 0, 200, .inl (fun _ => (-1)))), ((rr 1), .inl (cy 0, 200, .inl (fun _ => (-1)))), ((rr 2), .inl (cy 0, 200, .inl f_20)), ((rr 3), .inl (cy 0, 200, .inl (fun _ => (-1)))), ((rr 4), .inl (cy 0, 200, .inl (fun _ => (-1)))), ((rr 5), .inl (cy 0, 200, .inl (fun _ => (-1)))), (h1, .inr (4, [.int 0, .ref b0, .ref b1, .ref b2, .ref b3, .int 0, .ref b4, .ref b5, .ref b6, .int 0, .ref b7, .ref b8, .ref b9, .ref b10])), (b1, .inl (cy 0, 6, .inl (fun _ => 0)))] := ef_20 ▸ hD
              refine lv_iinc (v := (nI (i_6 + 1))) (lv' := [(4, .int (nI (i_6 + 1))), (3, .int 2), (0, .ref h0), (1, .ref h1), (2, .int 0)]) hx hb dX0_tellTurns_39 hl (k := 0) rfl (nI_add i_6 1) (by decide) rfl (fun ls hl => ?_)
              refine lv_goto (tgt := 15) hx hb dX0_tellTurns_42 (by decide) ?_
              exact ih (i_6 + 1) (by omega) f_20 H _ ls (fun j hj => by rw [ef_20]; exact gz_updc hg_6_0 j hj) hP hD hS (lv_sub hl [0, 1, 2, 3, 4] rfl)
          exact lp_6 200 0 (by omega) (fun _ => (-1)) H _ ls (fun j hj => rfl) hP hD hS hl
        | succ n_4 ih =>
          intro i_4 hi_4 g_4_0 H locs ls hg_4_0 hP hD hS hl
          refine lv_iload hx hb dX0_tellTurns_15 (lv_at hl 0 rfl) ?_
          refine lv_sipush (v := 199) hx hb dX0_tellTurns_17 (by decide) ?_
          refine lv_icmp_gt (tgt := 45) hx hb dX0_tellTurns_20 (by decide) (fun h9 => absurd h9 (nI_nlt (a := 199) (by omega) (by decide))) (fun _ => ?_)
          refine lv_aload_n hx hb dX0_tellTurns_23 rfl (lv_at hl 2 rfl) ?_
          refine va_get (ci := 0) (v := .ref a0) (C := RX0) (T := TX0) (N := 1) hx hb hts inX0 hown hK hP 0 rfl rfl 0 (by decide) (hts _ gm_109) (fun _ h9 => h9) rfl dX0_tellTurns_24 ?_
          refine lv_iload_n hx hb dX0_tellTurns_27 rfl (lv_at hl 1 rfl) ?_
          refine gz_alda hx hb hK hP 1 rfl (vp_in_iff.mpr (by decide)) dX0_tellTurns_28 (v := .ref (rr 1)) rfl ?_
          refine lv_iload hx hb dX0_tellTurns_29 (lv_at hl 0 rfl) ?_
          refine lv_aload_n hx hb dX0_tellTurns_31 rfl (lv_at hl 3 rfl) ?_
          refine lv_iload_n hx hb dX0_tellTurns_32 rfl (lv_at hl 1 rfl) ?_
          refine lv_iload hx hb dX0_tellTurns_33 (lv_at hl 0 rfl) ?_
          refine gz_afti (va_runV (As := [.int 1, .int (nI i_4)]) (rest := [.int (nI i_4), .ref (rr 1)]) ⟨hx, hb, hml, hown, hts⟩ (c_X4_turnOn l G cy H.size h1 b0 b1 b2 b3 b4 b5 b6 b7 b8 b9 b10 1 (nI i_4) 1 ((nI i_4).toInt) (by decide) rfl (by first | decide | omega) (by first | decide | omega)) ⟨(gz_cb (n := 2) hts gm_539 gm_10 gm_542 ⟨by decide +kernel, by decide +kernel, by decide +kernel⟩ ⟨Nat.le_of_ble_eq_true rfl, Nat.le_of_ble_eq_true rfl⟩), hts _ gm_540, hts _ gm_541⟩ (gz_preV (ci := 4) (q0 := 0) hK hov hP hD [8, 9] (by decide) rfl rfl rfl) rfl rfl hl.1 rfl (lv_room (Nat.le_of_ble_eq_true rfl)) dX0_tellTurns_35 ⟨Nat.le_of_ble_eq_true rfl, Nat.le_of_ble_eq_true rfl⟩) hP hD hS hA [8, 9] [0, 1, 2, 3, 4, 5, 6, 7] rfl rfl (by decide) (by decide) (fun r_21 u_21 H locs hw_21 hP hD hS => ?_)
          have hP : va_P G vwCl [(h0, .inr (0, [.ref a0])), (a0, .inl (cy 3, 6, .inr (.inr (.inr (.inr (fun i => if i < 6 then some (rr i) else none)))))), ((rr 0), .inl (cy 0, 200, .inl (fun _ => (-1)))), ((rr 1), .inl (cy 0, 200, .inl g_4_0)), ((rr 2), .inl (cy 0, 200, .inl (fun _ => (-1)))), ((rr 3), .inl (cy 0, 200, .inl (fun _ => (-1)))), ((rr 4), .inl (cy 0, 200, .inl (fun _ => (-1)))), ((rr 5), .inl (cy 0, 200, .inl (fun _ => (-1)))), (h1, .inr (4, [.int 0, .ref b0, .ref b1, .ref b2, .ref b3, .int 0, .ref b4, .ref b5, .ref b6, .int 0, .ref b7, .ref b8, .ref b9, .ref b10])), (b1, .inl (cy 0, 6, .inl (fun _ => 0)))] H := hP
          have hD : va_D A [(h0, .inr (0, [.ref a0])), (a0, .inl (cy 3, 6, .inr (.inr (.inr (.inr (fun i => if i < 6 then some (rr i) else none)))))), ((rr 0), .inl (cy 0, 200, .inl (fun _ => (-1)))), ((rr 1), .inl (cy 0, 200, .inl g_4_0)), ((rr 2), .inl (cy 0, 200, .inl (fun _ => (-1)))), ((rr 3), .inl (cy 0, 200, .inl (fun _ => (-1)))), ((rr 4), .inl (cy 0, 200, .inl (fun _ => (-1)))), ((rr 5), .inl (cy 0, 200, .inl (fun _ => (-1)))), (h1, .inr (4, [.int 0, .ref b0, .ref b1, .ref b2, .ref b3, .int 0, .ref b4, .ref b5, .ref b6, .int 0, .ref b7, .ref b8, .ref b9, .ref b10])), (b1, .inl (cy 0, 6, .inl (fun _ => 0)))] := hD
          obtain rfl := hw_21
          refine va_iast hx hb hK hP hD hS 3 0 rfl rfl (vp_in_nI (by omega) (by decide)) dX0_tellTurns_38 (fun H locs hP hD hS => ?_)
          obtain ⟨f_22, ef_22⟩ : ∃ g : Nat → Int32, g = upd g_4_0 (nI i_4 : Int32).toNatClampNeg (-1) := ⟨_, rfl⟩
          have hP : va_P G vwCl [(h0, .inr (0, [.ref a0])), (a0, .inl (cy 3, 6, .inr (.inr (.inr (.inr (fun i => if i < 6 then some (rr i) else none)))))), ((rr 0), .inl (cy 0, 200, .inl (fun _ => (-1)))), ((rr 1), .inl (cy 0, 200, .inl f_22)), ((rr 2), .inl (cy 0, 200, .inl (fun _ => (-1)))), ((rr 3), .inl (cy 0, 200, .inl (fun _ => (-1)))), ((rr 4), .inl (cy 0, 200, .inl (fun _ => (-1)))), ((rr 5), .inl (cy 0, 200, .inl (fun _ => (-1)))), (h1, .inr (4, [.int 0, .ref b0, .ref b1, .ref b2, .ref b3, .int 0, .ref b4, .ref b5, .ref b6, .int 0, .ref b7, .ref b8, .ref b9, .ref b10])), (b1, .inl (cy 0, 6, .inl (fun _ => 0)))] H := ef_22 ▸ hP
          have hD : va_D A [(h0, .inr (0, [.ref a0])), (a0, .inl (cy 3, 6, .inr (.inr (.inr (.inr (fun i => if i < 6 then some (rr i) else none)))))), ((rr 0), .inl (cy 0, 200, .inl (fun _ => (-1)))), ((rr 1), .inl (cy 0, 200, .inl f_22)), ((rr 2), .inl (cy 0, 200, .inl (fun _ => (-1)))), ((rr 3), .inl (cy 0, 200, .inl (fun _ => (-1)))), ((rr 4), .inl (cy 0, 200, .inl (fun _ => (-1)))), ((rr 5), .inl (cy 0, 200, .inl (fun _ => (-1)))), (h1, .inr (4, [.int 0, .ref b0, .ref b1, .ref b2, .ref b3, .int 0, .ref b4, .ref b5, .ref b6, .int 0, .ref b7, .ref b8, .ref b9, .ref b10])), (b1, .inl (cy 0, 6, .inl (fun _ => 0)))] := ef_22 ▸ hD
          refine lv_iinc (v := (nI (i_4 + 1))) (lv' := [(4, .int (nI (i_4 + 1))), (3, .int 1), (0, .ref h0), (1, .ref h1), (2, .int 0)]) hx hb dX0_tellTurns_39 hl (k := 0) rfl (nI_add i_4 1) (by decide) rfl (fun ls hl => ?_)
          refine lv_goto (tgt := 15) hx hb dX0_tellTurns_42 (by decide) ?_
          exact ih (i_4 + 1) (by omega) f_22 H _ ls (fun j hj => by rw [ef_22]; exact gz_updc hg_4_0 j hj) hP hD hS (lv_sub hl [0, 1, 2, 3, 4] rfl)
      exact lp_4 200 0 (by omega) (fun _ => (-1)) H _ ls (fun j hj => rfl) hP hD hS hl
    | succ n_2 ih =>
      intro i_2 hi_2 g_2_0 H locs ls hg_2_0 hP hD hS hl
      refine lv_iload hx hb dX0_tellTurns_15 (lv_at hl 0 rfl) ?_
      refine lv_sipush (v := 199) hx hb dX0_tellTurns_17 (by decide) ?_
      refine lv_icmp_gt (tgt := 45) hx hb dX0_tellTurns_20 (by decide) (fun h9 => absurd h9 (nI_nlt (a := 199) (by omega) (by decide))) (fun _ => ?_)
      refine lv_aload_n hx hb dX0_tellTurns_23 rfl (lv_at hl 2 rfl) ?_
      refine va_get (ci := 0) (v := .ref a0) (C := RX0) (T := TX0) (N := 1) hx hb hts inX0 hown hK hP 0 rfl rfl 0 (by decide) (hts _ gm_109) (fun _ h9 => h9) rfl dX0_tellTurns_24 ?_
      refine lv_iload_n hx hb dX0_tellTurns_27 rfl (lv_at hl 1 rfl) ?_
      refine gz_alda hx hb hK hP 1 rfl (vp_in_iff.mpr (by decide)) dX0_tellTurns_28 (v := .ref (rr 0)) rfl ?_
      refine lv_iload hx hb dX0_tellTurns_29 (lv_at hl 0 rfl) ?_
      refine lv_aload_n hx hb dX0_tellTurns_31 rfl (lv_at hl 3 rfl) ?_
      refine lv_iload_n hx hb dX0_tellTurns_32 rfl (lv_at hl 1 rfl) ?_
      refine lv_iload hx hb dX0_tellTurns_33 (lv_at hl 0 rfl) ?_
      refine gz_afti (va_runV (As := [.int 0, .int (nI i_2)]) (rest := [.int (nI i_2), .ref (rr 0)]) ⟨hx, hb, hml, hown, hts⟩ (c_X4_turnOn l G cy H.size h1 b0 b1 b2 b3 b4 b5 b6 b7 b8 b9 b10 0 (nI i_2) 0 ((nI i_2).toInt) (by decide) rfl (by first | decide | omega) (by first | decide | omega)) ⟨(gz_cb (n := 2) hts gm_539 gm_10 gm_542 ⟨by decide +kernel, by decide +kernel, by decide +kernel⟩ ⟨Nat.le_of_ble_eq_true rfl, Nat.le_of_ble_eq_true rfl⟩), hts _ gm_540, hts _ gm_541⟩ (gz_preV (ci := 4) (q0 := 0) hK hov hP hD [8, 9] (by decide) rfl rfl rfl) rfl rfl hl.1 rfl (lv_room (Nat.le_of_ble_eq_true rfl)) dX0_tellTurns_35 ⟨Nat.le_of_ble_eq_true rfl, Nat.le_of_ble_eq_true rfl⟩) hP hD hS hA [8, 9] [0, 1, 2, 3, 4, 5, 6, 7] rfl rfl (by decide) (by decide) (fun r_23 u_23 H locs hw_23 hP hD hS => ?_)
      have hP : va_P G vwCl [(h0, .inr (0, [.ref a0])), (a0, .inl (cy 3, 6, .inr (.inr (.inr (.inr (fun i => if i < 6 then some (rr i) else none)))))), ((rr 0), .inl (cy 0, 200, .inl g_2_0)), ((rr 1), .inl (cy 0, 200, .inl (fun _ => (-1)))), ((rr 2), .inl (cy 0, 200, .inl (fun _ => (-1)))), ((rr 3), .inl (cy 0, 200, .inl (fun _ => (-1)))), ((rr 4), .inl (cy 0, 200, .inl (fun _ => (-1)))), ((rr 5), .inl (cy 0, 200, .inl (fun _ => (-1)))), (h1, .inr (4, [.int 0, .ref b0, .ref b1, .ref b2, .ref b3, .int 0, .ref b4, .ref b5, .ref b6, .int 0, .ref b7, .ref b8, .ref b9, .ref b10])), (b1, .inl (cy 0, 6, .inl (fun _ => 0)))] H := hP
      have hD : va_D A [(h0, .inr (0, [.ref a0])), (a0, .inl (cy 3, 6, .inr (.inr (.inr (.inr (fun i => if i < 6 then some (rr i) else none)))))), ((rr 0), .inl (cy 0, 200, .inl g_2_0)), ((rr 1), .inl (cy 0, 200, .inl (fun _ => (-1)))), ((rr 2), .inl (cy 0, 200, .inl (fun _ => (-1)))), ((rr 3), .inl (cy 0, 200, .inl (fun _ => (-1)))), ((rr 4), .inl (cy 0, 200, .inl (fun _ => (-1)))), ((rr 5), .inl (cy 0, 200, .inl (fun _ => (-1)))), (h1, .inr (4, [.int 0, .ref b0, .ref b1, .ref b2, .ref b3, .int 0, .ref b4, .ref b5, .ref b6, .int 0, .ref b7, .ref b8, .ref b9, .ref b10])), (b1, .inl (cy 0, 6, .inl (fun _ => 0)))] := hD
      obtain rfl := hw_23
      refine va_iast hx hb hK hP hD hS 2 0 rfl rfl (vp_in_nI (by omega) (by decide)) dX0_tellTurns_38 (fun H locs hP hD hS => ?_)
      obtain ⟨f_24, ef_24⟩ : ∃ g : Nat → Int32, g = upd g_2_0 (nI i_2 : Int32).toNatClampNeg (-1) := ⟨_, rfl⟩
      have hP : va_P G vwCl [(h0, .inr (0, [.ref a0])), (a0, .inl (cy 3, 6, .inr (.inr (.inr (.inr (fun i => if i < 6 then some (rr i) else none)))))), ((rr 0), .inl (cy 0, 200, .inl f_24)), ((rr 1), .inl (cy 0, 200, .inl (fun _ => (-1)))), ((rr 2), .inl (cy 0, 200, .inl (fun _ => (-1)))), ((rr 3), .inl (cy 0, 200, .inl (fun _ => (-1)))), ((rr 4), .inl (cy 0, 200, .inl (fun _ => (-1)))), ((rr 5), .inl (cy 0, 200, .inl (fun _ => (-1)))), (h1, .inr (4, [.int 0, .ref b0, .ref b1, .ref b2, .ref b3, .int 0, .ref b4, .ref b5, .ref b6, .int 0, .ref b7, .ref b8, .ref b9, .ref b10])), (b1, .inl (cy 0, 6, .inl (fun _ => 0)))] H := ef_24 ▸ hP
      have hD : va_D A [(h0, .inr (0, [.ref a0])), (a0, .inl (cy 3, 6, .inr (.inr (.inr (.inr (fun i => if i < 6 then some (rr i) else none)))))), ((rr 0), .inl (cy 0, 200, .inl f_24)), ((rr 1), .inl (cy 0, 200, .inl (fun _ => (-1)))), ((rr 2), .inl (cy 0, 200, .inl (fun _ => (-1)))), ((rr 3), .inl (cy 0, 200, .inl (fun _ => (-1)))), ((rr 4), .inl (cy 0, 200, .inl (fun _ => (-1)))), ((rr 5), .inl (cy 0, 200, .inl (fun _ => (-1)))), (h1, .inr (4, [.int 0, .ref b0, .ref b1, .ref b2, .ref b3, .int 0, .ref b4, .ref b5, .ref b6, .int 0, .ref b7, .ref b8, .ref b9, .ref b10])), (b1, .inl (cy 0, 6, .inl (fun _ => 0)))] := ef_24 ▸ hD
      refine lv_iinc (v := (nI (i_2 + 1))) (lv' := [(4, .int (nI (i_2 + 1))), (3, .int 0), (0, .ref h0), (1, .ref h1), (2, .int 0)]) hx hb dX0_tellTurns_39 hl (k := 0) rfl (nI_add i_2 1) (by decide) rfl (fun ls hl => ?_)
      refine lv_goto (tgt := 15) hx hb dX0_tellTurns_42 (by decide) ?_
      exact ih (i_2 + 1) (by omega) f_24 H _ ls (fun j hj => by rw [ef_24]; exact gz_updc hg_2_0 j hj) hP hD hS (lv_sub hl [0, 1, 2, 3, 4] rfl)
  exact lp_2 200 0 (by omega) (fun _ => (-1)) H _ ls (fun j hj => rfl) hP hD hS hl

set_option maxHeartbeats 4000000 in
set_option maxRecDepth 100000 in
/-- WellCourt$Calendar.keep -/
theorem c_X0_keep (l : Launch) (G : va_G) (cy : Nat → ClassId) (sz : Nat) (h0 : Nat) (a0 : Nat) (rr : Nat → Nat) (h1 : Nat) (b0 : Nat) (b1 : Nat) (b2 : Nat) (f : Nat → Int32) (x : Int32) (Xx : Int) (kx : x.toInt = Xx) : gMv l yX0_keep cX0_keep 4 ({ frames := 1, cells := 0, slots := 0, locals := 20 }) G cy sz [.ref h0, .ref h1, .int x] [(h0, .inr (0, [.ref a0])), (a0, .inl (cy 3, 6, .inr (.inr (.inr (.inr (fun i => if i < 6 then some (rr i) else none)))))), ((rr 0), .inl (cy 0, 200, .inl (fun _ => (-1)))), ((rr 1), .inl (cy 0, 200, .inl (fun _ => (-1)))), ((rr 2), .inl (cy 0, 200, .inl (fun _ => (-1)))), ((rr 3), .inl (cy 0, 200, .inl (fun _ => (-1)))), ((rr 4), .inl (cy 0, 200, .inl (fun _ => (-1)))), ((rr 5), .inl (cy 0, 200, .inl (fun _ => (-1)))), (h1, .inr (1, [.ref b0, .ref b1, .ref b2])), (b2, .inl (cy 0, 6, .inl f))] (fun (u : Unit) => True) (fun (u : Unit) => []) := by
  refine gz_start (fun A => gQv G cy _ _ A) (by decide) (Nat.le_of_ble_eq_true rfl) ?_
  intro p e s m below meth c A ls H hx hb hr hml hlocks hin hown hts hK hov hsz hP hD hS hA hl
  have hl : lv_has ls 4 [(0, .ref h0), (1, .ref h1), (2, .int x)] := hl
  refine lv_iconst (v := 0) hx hb dX0_keep_0 (by decide) ?_
  refine lv_istore_n (lv' := [(3, .int 0), (0, .ref h0), (1, .ref h1), (2, .int x)]) hx hb dX0_keep_1 rfl hl (by decide) rfl (fun ls hl => ?_)
  refine lv_iload_n hx hb dX0_keep_2 rfl (lv_at hl 0 rfl) ?_
  refine lv_bipush (v := 6) hx hb dX0_keep_3 (by decide) ?_
  refine lv_icmp_ge (tgt := 35) hx hb dX0_keep_5 (by decide) (fun h9 => absurd h9 (by decide)) (fun _ => ?_)
  refine lv_iload_n hx hb dX0_keep_8 rfl (lv_at hl 3 rfl) ?_
  refine gz_afti (va_runSN (As := [.int x]) (rest := []) ⟨hx, hb, hml, hown, hts⟩ (c_isDate l G cy H.size x x.toInt rfl) ⟨(va_cnB 1 hts (gz_good gm_562) rfl rfl rfl (hov.2.2 _ gn_560) (hts _ gm_1) ⟨by decide +kernel, by decide +kernel, by decide +kernel⟩ ⟨Nat.le_of_ble_eq_true rfl, Nat.le_of_ble_eq_true rfl⟩), hts _ gm_561, trivial⟩ (gz_preS hK hov hP hD [] (by decide) rfl) rfl rfl hl.1 rfl (lv_room (Nat.le_of_ble_eq_true rfl)) dX0_keep_9 ⟨Nat.le_of_ble_eq_true rfl, Nat.le_of_ble_eq_true rfl⟩) hP hD hS hA [] [0, 1, 2, 3, 4, 5, 6, 7, 8, 9] rfl rfl (by decide) (by decide) (fun r_1 u_1 H locs hw_1 hP hD hS => ?_)
  have hP : va_P G vwCl [(h0, .inr (0, [.ref a0])), (a0, .inl (cy 3, 6, .inr (.inr (.inr (.inr (fun i => if i < 6 then some (rr i) else none)))))), ((rr 0), .inl (cy 0, 200, .inl (fun _ => (-1)))), ((rr 1), .inl (cy 0, 200, .inl (fun _ => (-1)))), ((rr 2), .inl (cy 0, 200, .inl (fun _ => (-1)))), ((rr 3), .inl (cy 0, 200, .inl (fun _ => (-1)))), ((rr 4), .inl (cy 0, 200, .inl (fun _ => (-1)))), ((rr 5), .inl (cy 0, 200, .inl (fun _ => (-1)))), (h1, .inr (1, [.ref b0, .ref b1, .ref b2])), (b2, .inl (cy 0, 6, .inl f))] H := hP
  have hD : va_D A [(h0, .inr (0, [.ref a0])), (a0, .inl (cy 3, 6, .inr (.inr (.inr (.inr (fun i => if i < 6 then some (rr i) else none)))))), ((rr 0), .inl (cy 0, 200, .inl (fun _ => (-1)))), ((rr 1), .inl (cy 0, 200, .inl (fun _ => (-1)))), ((rr 2), .inl (cy 0, 200, .inl (fun _ => (-1)))), ((rr 3), .inl (cy 0, 200, .inl (fun _ => (-1)))), ((rr 4), .inl (cy 0, 200, .inl (fun _ => (-1)))), ((rr 5), .inl (cy 0, 200, .inl (fun _ => (-1)))), (h1, .inr (1, [.ref b0, .ref b1, .ref b2])), (b2, .inl (cy 0, 6, .inl f))] := hD
  rcases hw_1 with ⟨rfl, hw_1_0, hw_1_1⟩ | ⟨rfl, hw_1_0⟩
  · skip
    refine lv_if_eq (tgt := 35) hx hb dX0_keep_12 (by decide) (fun h9 => absurd h9 (by decide)) (fun _ => ?_)
    refine lv_aload_n hx hb dX0_keep_15 rfl (lv_at hl 1 rfl) ?_
    refine va_get (ci := 0) (v := .ref a0) (C := RX0) (T := TX0) (N := 1) hx hb hts inX0 hown hK hP 0 rfl rfl 0 (by decide) (hts _ gm_109) (fun _ h9 => h9) rfl dX0_keep_16 ?_
    refine lv_iload_n hx hb dX0_keep_19 rfl (lv_at hl 0 rfl) ?_
    refine gz_alda hx hb hK hP 1 rfl (vp_in_iff.mpr (by decide)) dX0_keep_20 (v := .ref (rr 0)) rfl ?_
    refine lv_iload_n hx hb dX0_keep_21 rfl (lv_at hl 3 rfl) ?_
    refine lv_aload_n hx hb dX0_keep_22 rfl (lv_at hl 2 rfl) ?_
    refine va_getN (host := "WellCourt") (ci := 1) (v := .ref b2) (C := RX1) (T := TX1) (N := 3) hx hb hts inX1 hown hK hP 8 rfl rfl 2 (by decide) (va_Nw.use rfl (hov.2.2 _ gn_126)) (fun _ h9 => h9) rfl dX0_keep_23 ?_
    refine lv_iload_n hx hb dX0_keep_26 rfl (lv_at hl 0 rfl) ?_
    refine va_iald hx hb hK hP 9 0 rfl rfl (vp_in_iff.mpr (by decide)) dX0_keep_27 ?_
    refine lv_topi (fun x_2 ex_2 => ?_)
    refine va_iast hx hb hK hP hD hS 2 0 rfl rfl (vp_in_iff.mpr ⟨by omega, by omega⟩) dX0_keep_28 (fun H locs hP hD hS => ?_)
    obtain ⟨f_3, ef_3⟩ : ∃ g : Nat → Int32, g = upd (fun _ => (-1)) (x : Int32).toNatClampNeg x_2 := ⟨_, rfl⟩
    have hP : va_P G vwCl [(h0, .inr (0, [.ref a0])), (a0, .inl (cy 3, 6, .inr (.inr (.inr (.inr (fun i => if i < 6 then some (rr i) else none)))))), ((rr 0), .inl (cy 0, 200, .inl f_3)), ((rr 1), .inl (cy 0, 200, .inl (fun _ => (-1)))), ((rr 2), .inl (cy 0, 200, .inl (fun _ => (-1)))), ((rr 3), .inl (cy 0, 200, .inl (fun _ => (-1)))), ((rr 4), .inl (cy 0, 200, .inl (fun _ => (-1)))), ((rr 5), .inl (cy 0, 200, .inl (fun _ => (-1)))), (h1, .inr (1, [.ref b0, .ref b1, .ref b2])), (b2, .inl (cy 0, 6, .inl f))] H := ef_3 ▸ hP
    have hD : va_D A [(h0, .inr (0, [.ref a0])), (a0, .inl (cy 3, 6, .inr (.inr (.inr (.inr (fun i => if i < 6 then some (rr i) else none)))))), ((rr 0), .inl (cy 0, 200, .inl f_3)), ((rr 1), .inl (cy 0, 200, .inl (fun _ => (-1)))), ((rr 2), .inl (cy 0, 200, .inl (fun _ => (-1)))), ((rr 3), .inl (cy 0, 200, .inl (fun _ => (-1)))), ((rr 4), .inl (cy 0, 200, .inl (fun _ => (-1)))), ((rr 5), .inl (cy 0, 200, .inl (fun _ => (-1)))), (h1, .inr (1, [.ref b0, .ref b1, .ref b2])), (b2, .inl (cy 0, 6, .inl f))] := ef_3 ▸ hD
    refine lv_iinc (v := (1)) (lv' := [(3, .int 1), (0, .ref h0), (1, .ref h1), (2, .int x)]) hx hb dX0_keep_29 hl (k := 0) rfl (by decide) (by decide) rfl (fun ls hl => ?_)
    refine lv_goto (tgt := 2) hx hb dX0_keep_32 (by decide) ?_
    refine lv_iload_n hx hb dX0_keep_2 rfl (lv_at hl 0 rfl) ?_
    refine lv_bipush (v := 6) hx hb dX0_keep_3 (by decide) ?_
    refine lv_icmp_ge (tgt := 35) hx hb dX0_keep_5 (by decide) (fun h9 => absurd h9 (by decide)) (fun _ => ?_)
    refine lv_iload_n hx hb dX0_keep_8 rfl (lv_at hl 3 rfl) ?_
    refine gz_afti (va_runSN (As := [.int x]) (rest := []) ⟨hx, hb, hml, hown, hts⟩ (c_isDate l G cy H.size x x.toInt rfl) ⟨(va_cnB 1 hts (gz_good gm_562) rfl rfl rfl (hov.2.2 _ gn_560) (hts _ gm_1) ⟨by decide +kernel, by decide +kernel, by decide +kernel⟩ ⟨Nat.le_of_ble_eq_true rfl, Nat.le_of_ble_eq_true rfl⟩), hts _ gm_561, trivial⟩ (gz_preS hK hov hP hD [] (by decide) rfl) rfl rfl hl.1 rfl (lv_room (Nat.le_of_ble_eq_true rfl)) dX0_keep_9 ⟨Nat.le_of_ble_eq_true rfl, Nat.le_of_ble_eq_true rfl⟩) hP hD hS hA [] [0, 1, 2, 3, 4, 5, 6, 7, 8, 9] rfl rfl (by decide) (by decide) (fun r_4 u_4 H locs hw_4 hP hD hS => ?_)
    have hP : va_P G vwCl [(h0, .inr (0, [.ref a0])), (a0, .inl (cy 3, 6, .inr (.inr (.inr (.inr (fun i => if i < 6 then some (rr i) else none)))))), ((rr 0), .inl (cy 0, 200, .inl f_3)), ((rr 1), .inl (cy 0, 200, .inl (fun _ => (-1)))), ((rr 2), .inl (cy 0, 200, .inl (fun _ => (-1)))), ((rr 3), .inl (cy 0, 200, .inl (fun _ => (-1)))), ((rr 4), .inl (cy 0, 200, .inl (fun _ => (-1)))), ((rr 5), .inl (cy 0, 200, .inl (fun _ => (-1)))), (h1, .inr (1, [.ref b0, .ref b1, .ref b2])), (b2, .inl (cy 0, 6, .inl f))] H := hP
    have hD : va_D A [(h0, .inr (0, [.ref a0])), (a0, .inl (cy 3, 6, .inr (.inr (.inr (.inr (fun i => if i < 6 then some (rr i) else none)))))), ((rr 0), .inl (cy 0, 200, .inl f_3)), ((rr 1), .inl (cy 0, 200, .inl (fun _ => (-1)))), ((rr 2), .inl (cy 0, 200, .inl (fun _ => (-1)))), ((rr 3), .inl (cy 0, 200, .inl (fun _ => (-1)))), ((rr 4), .inl (cy 0, 200, .inl (fun _ => (-1)))), ((rr 5), .inl (cy 0, 200, .inl (fun _ => (-1)))), (h1, .inr (1, [.ref b0, .ref b1, .ref b2])), (b2, .inl (cy 0, 6, .inl f))] := hD
    rcases hw_4 with ⟨rfl, hw_4_0, hw_4_1⟩ | ⟨rfl, hw_4_0⟩
    · skip
      refine lv_if_eq (tgt := 35) hx hb dX0_keep_12 (by decide) (fun h9 => absurd h9 (by decide)) (fun _ => ?_)
      refine lv_aload_n hx hb dX0_keep_15 rfl (lv_at hl 1 rfl) ?_
      refine va_get (ci := 0) (v := .ref a0) (C := RX0) (T := TX0) (N := 1) hx hb hts inX0 hown hK hP 0 rfl rfl 0 (by decide) (hts _ gm_109) (fun _ h9 => h9) rfl dX0_keep_16 ?_
      refine lv_iload_n hx hb dX0_keep_19 rfl (lv_at hl 0 rfl) ?_
      refine gz_alda hx hb hK hP 1 rfl (vp_in_iff.mpr (by decide)) dX0_keep_20 (v := .ref (rr 1)) rfl ?_
      refine lv_iload_n hx hb dX0_keep_21 rfl (lv_at hl 3 rfl) ?_
      refine lv_aload_n hx hb dX0_keep_22 rfl (lv_at hl 2 rfl) ?_
      refine va_getN (host := "WellCourt") (ci := 1) (v := .ref b2) (C := RX1) (T := TX1) (N := 3) hx hb hts inX1 hown hK hP 8 rfl rfl 2 (by decide) (va_Nw.use rfl (hov.2.2 _ gn_126)) (fun _ h9 => h9) rfl dX0_keep_23 ?_
      refine lv_iload_n hx hb dX0_keep_26 rfl (lv_at hl 0 rfl) ?_
      refine va_iald hx hb hK hP 9 0 rfl rfl (vp_in_iff.mpr (by decide)) dX0_keep_27 ?_
      refine lv_topi (fun x_5 ex_5 => ?_)
      refine va_iast hx hb hK hP hD hS 3 0 rfl rfl (vp_in_iff.mpr ⟨by omega, by omega⟩) dX0_keep_28 (fun H locs hP hD hS => ?_)
      obtain ⟨f_6, ef_6⟩ : ∃ g : Nat → Int32, g = upd (fun _ => (-1)) (x : Int32).toNatClampNeg x_5 := ⟨_, rfl⟩
      have hP : va_P G vwCl [(h0, .inr (0, [.ref a0])), (a0, .inl (cy 3, 6, .inr (.inr (.inr (.inr (fun i => if i < 6 then some (rr i) else none)))))), ((rr 0), .inl (cy 0, 200, .inl f_3)), ((rr 1), .inl (cy 0, 200, .inl f_6)), ((rr 2), .inl (cy 0, 200, .inl (fun _ => (-1)))), ((rr 3), .inl (cy 0, 200, .inl (fun _ => (-1)))), ((rr 4), .inl (cy 0, 200, .inl (fun _ => (-1)))), ((rr 5), .inl (cy 0, 200, .inl (fun _ => (-1)))), (h1, .inr (1, [.ref b0, .ref b1, .ref b2])), (b2, .inl (cy 0, 6, .inl f))] H := ef_6 ▸ hP
      have hD : va_D A [(h0, .inr (0, [.ref a0])), (a0, .inl (cy 3, 6, .inr (.inr (.inr (.inr (fun i => if i < 6 then some (rr i) else none)))))), ((rr 0), .inl (cy 0, 200, .inl f_3)), ((rr 1), .inl (cy 0, 200, .inl f_6)), ((rr 2), .inl (cy 0, 200, .inl (fun _ => (-1)))), ((rr 3), .inl (cy 0, 200, .inl (fun _ => (-1)))), ((rr 4), .inl (cy 0, 200, .inl (fun _ => (-1)))), ((rr 5), .inl (cy 0, 200, .inl (fun _ => (-1)))), (h1, .inr (1, [.ref b0, .ref b1, .ref b2])), (b2, .inl (cy 0, 6, .inl f))] := ef_6 ▸ hD
      refine lv_iinc (v := (2)) (lv' := [(3, .int 2), (0, .ref h0), (1, .ref h1), (2, .int x)]) hx hb dX0_keep_29 hl (k := 0) rfl (by decide) (by decide) rfl (fun ls hl => ?_)
      refine lv_goto (tgt := 2) hx hb dX0_keep_32 (by decide) ?_
      refine lv_iload_n hx hb dX0_keep_2 rfl (lv_at hl 0 rfl) ?_
      refine lv_bipush (v := 6) hx hb dX0_keep_3 (by decide) ?_
      refine lv_icmp_ge (tgt := 35) hx hb dX0_keep_5 (by decide) (fun h9 => absurd h9 (by decide)) (fun _ => ?_)
      refine lv_iload_n hx hb dX0_keep_8 rfl (lv_at hl 3 rfl) ?_
      refine gz_afti (va_runSN (As := [.int x]) (rest := []) ⟨hx, hb, hml, hown, hts⟩ (c_isDate l G cy H.size x x.toInt rfl) ⟨(va_cnB 1 hts (gz_good gm_562) rfl rfl rfl (hov.2.2 _ gn_560) (hts _ gm_1) ⟨by decide +kernel, by decide +kernel, by decide +kernel⟩ ⟨Nat.le_of_ble_eq_true rfl, Nat.le_of_ble_eq_true rfl⟩), hts _ gm_561, trivial⟩ (gz_preS hK hov hP hD [] (by decide) rfl) rfl rfl hl.1 rfl (lv_room (Nat.le_of_ble_eq_true rfl)) dX0_keep_9 ⟨Nat.le_of_ble_eq_true rfl, Nat.le_of_ble_eq_true rfl⟩) hP hD hS hA [] [0, 1, 2, 3, 4, 5, 6, 7, 8, 9] rfl rfl (by decide) (by decide) (fun r_7 u_7 H locs hw_7 hP hD hS => ?_)
      have hP : va_P G vwCl [(h0, .inr (0, [.ref a0])), (a0, .inl (cy 3, 6, .inr (.inr (.inr (.inr (fun i => if i < 6 then some (rr i) else none)))))), ((rr 0), .inl (cy 0, 200, .inl f_3)), ((rr 1), .inl (cy 0, 200, .inl f_6)), ((rr 2), .inl (cy 0, 200, .inl (fun _ => (-1)))), ((rr 3), .inl (cy 0, 200, .inl (fun _ => (-1)))), ((rr 4), .inl (cy 0, 200, .inl (fun _ => (-1)))), ((rr 5), .inl (cy 0, 200, .inl (fun _ => (-1)))), (h1, .inr (1, [.ref b0, .ref b1, .ref b2])), (b2, .inl (cy 0, 6, .inl f))] H := hP
      have hD : va_D A [(h0, .inr (0, [.ref a0])), (a0, .inl (cy 3, 6, .inr (.inr (.inr (.inr (fun i => if i < 6 then some (rr i) else none)))))), ((rr 0), .inl (cy 0, 200, .inl f_3)), ((rr 1), .inl (cy 0, 200, .inl f_6)), ((rr 2), .inl (cy 0, 200, .inl (fun _ => (-1)))), ((rr 3), .inl (cy 0, 200, .inl (fun _ => (-1)))), ((rr 4), .inl (cy 0, 200, .inl (fun _ => (-1)))), ((rr 5), .inl (cy 0, 200, .inl (fun _ => (-1)))), (h1, .inr (1, [.ref b0, .ref b1, .ref b2])), (b2, .inl (cy 0, 6, .inl f))] := hD
      rcases hw_7 with ⟨rfl, hw_7_0, hw_7_1⟩ | ⟨rfl, hw_7_0⟩
      · skip
        refine lv_if_eq (tgt := 35) hx hb dX0_keep_12 (by decide) (fun h9 => absurd h9 (by decide)) (fun _ => ?_)
        refine lv_aload_n hx hb dX0_keep_15 rfl (lv_at hl 1 rfl) ?_
        refine va_get (ci := 0) (v := .ref a0) (C := RX0) (T := TX0) (N := 1) hx hb hts inX0 hown hK hP 0 rfl rfl 0 (by decide) (hts _ gm_109) (fun _ h9 => h9) rfl dX0_keep_16 ?_
        refine lv_iload_n hx hb dX0_keep_19 rfl (lv_at hl 0 rfl) ?_
        refine gz_alda hx hb hK hP 1 rfl (vp_in_iff.mpr (by decide)) dX0_keep_20 (v := .ref (rr 2)) rfl ?_
        refine lv_iload_n hx hb dX0_keep_21 rfl (lv_at hl 3 rfl) ?_
        refine lv_aload_n hx hb dX0_keep_22 rfl (lv_at hl 2 rfl) ?_
        refine va_getN (host := "WellCourt") (ci := 1) (v := .ref b2) (C := RX1) (T := TX1) (N := 3) hx hb hts inX1 hown hK hP 8 rfl rfl 2 (by decide) (va_Nw.use rfl (hov.2.2 _ gn_126)) (fun _ h9 => h9) rfl dX0_keep_23 ?_
        refine lv_iload_n hx hb dX0_keep_26 rfl (lv_at hl 0 rfl) ?_
        refine va_iald hx hb hK hP 9 0 rfl rfl (vp_in_iff.mpr (by decide)) dX0_keep_27 ?_
        refine lv_topi (fun x_8 ex_8 => ?_)
        refine va_iast hx hb hK hP hD hS 4 0 rfl rfl (vp_in_iff.mpr ⟨by omega, by omega⟩) dX0_keep_28 (fun H locs hP hD hS => ?_)
        obtain ⟨f_9, ef_9⟩ : ∃ g : Nat → Int32, g = upd (fun _ => (-1)) (x : Int32).toNatClampNeg x_8 := ⟨_, rfl⟩
        have hP : va_P G vwCl [(h0, .inr (0, [.ref a0])), (a0, .inl (cy 3, 6, .inr (.inr (.inr (.inr (fun i => if i < 6 then some (rr i) else none)))))), ((rr 0), .inl (cy 0, 200, .inl f_3)), ((rr 1), .inl (cy 0, 200, .inl f_6)), ((rr 2), .inl (cy 0, 200, .inl f_9)), ((rr 3), .inl (cy 0, 200, .inl (fun _ => (-1)))), ((rr 4), .inl (cy 0, 200, .inl (fun _ => (-1)))), ((rr 5), .inl (cy 0, 200, .inl (fun _ => (-1)))), (h1, .inr (1, [.ref b0, .ref b1, .ref b2])), (b2, .inl (cy 0, 6, .inl f))] H := ef_9 ▸ hP
        have hD : va_D A [(h0, .inr (0, [.ref a0])), (a0, .inl (cy 3, 6, .inr (.inr (.inr (.inr (fun i => if i < 6 then some (rr i) else none)))))), ((rr 0), .inl (cy 0, 200, .inl f_3)), ((rr 1), .inl (cy 0, 200, .inl f_6)), ((rr 2), .inl (cy 0, 200, .inl f_9)), ((rr 3), .inl (cy 0, 200, .inl (fun _ => (-1)))), ((rr 4), .inl (cy 0, 200, .inl (fun _ => (-1)))), ((rr 5), .inl (cy 0, 200, .inl (fun _ => (-1)))), (h1, .inr (1, [.ref b0, .ref b1, .ref b2])), (b2, .inl (cy 0, 6, .inl f))] := ef_9 ▸ hD
        refine lv_iinc (v := (3)) (lv' := [(3, .int 3), (0, .ref h0), (1, .ref h1), (2, .int x)]) hx hb dX0_keep_29 hl (k := 0) rfl (by decide) (by decide) rfl (fun ls hl => ?_)
        refine lv_goto (tgt := 2) hx hb dX0_keep_32 (by decide) ?_
        refine lv_iload_n hx hb dX0_keep_2 rfl (lv_at hl 0 rfl) ?_
        refine lv_bipush (v := 6) hx hb dX0_keep_3 (by decide) ?_
        refine lv_icmp_ge (tgt := 35) hx hb dX0_keep_5 (by decide) (fun h9 => absurd h9 (by decide)) (fun _ => ?_)
        refine lv_iload_n hx hb dX0_keep_8 rfl (lv_at hl 3 rfl) ?_
        refine gz_afti (va_runSN (As := [.int x]) (rest := []) ⟨hx, hb, hml, hown, hts⟩ (c_isDate l G cy H.size x x.toInt rfl) ⟨(va_cnB 1 hts (gz_good gm_562) rfl rfl rfl (hov.2.2 _ gn_560) (hts _ gm_1) ⟨by decide +kernel, by decide +kernel, by decide +kernel⟩ ⟨Nat.le_of_ble_eq_true rfl, Nat.le_of_ble_eq_true rfl⟩), hts _ gm_561, trivial⟩ (gz_preS hK hov hP hD [] (by decide) rfl) rfl rfl hl.1 rfl (lv_room (Nat.le_of_ble_eq_true rfl)) dX0_keep_9 ⟨Nat.le_of_ble_eq_true rfl, Nat.le_of_ble_eq_true rfl⟩) hP hD hS hA [] [0, 1, 2, 3, 4, 5, 6, 7, 8, 9] rfl rfl (by decide) (by decide) (fun r_10 u_10 H locs hw_10 hP hD hS => ?_)
        have hP : va_P G vwCl [(h0, .inr (0, [.ref a0])), (a0, .inl (cy 3, 6, .inr (.inr (.inr (.inr (fun i => if i < 6 then some (rr i) else none)))))), ((rr 0), .inl (cy 0, 200, .inl f_3)), ((rr 1), .inl (cy 0, 200, .inl f_6)), ((rr 2), .inl (cy 0, 200, .inl f_9)), ((rr 3), .inl (cy 0, 200, .inl (fun _ => (-1)))), ((rr 4), .inl (cy 0, 200, .inl (fun _ => (-1)))), ((rr 5), .inl (cy 0, 200, .inl (fun _ => (-1)))), (h1, .inr (1, [.ref b0, .ref b1, .ref b2])), (b2, .inl (cy 0, 6, .inl f))] H := hP
        have hD : va_D A [(h0, .inr (0, [.ref a0])), (a0, .inl (cy 3, 6, .inr (.inr (.inr (.inr (fun i => if i < 6 then some (rr i) else none)))))), ((rr 0), .inl (cy 0, 200, .inl f_3)), ((rr 1), .inl (cy 0, 200, .inl f_6)), ((rr 2), .inl (cy 0, 200, .inl f_9)), ((rr 3), .inl (cy 0, 200, .inl (fun _ => (-1)))), ((rr 4), .inl (cy 0, 200, .inl (fun _ => (-1)))), ((rr 5), .inl (cy 0, 200, .inl (fun _ => (-1)))), (h1, .inr (1, [.ref b0, .ref b1, .ref b2])), (b2, .inl (cy 0, 6, .inl f))] := hD
        rcases hw_10 with ⟨rfl, hw_10_0, hw_10_1⟩ | ⟨rfl, hw_10_0⟩
        · skip
          refine lv_if_eq (tgt := 35) hx hb dX0_keep_12 (by decide) (fun h9 => absurd h9 (by decide)) (fun _ => ?_)
          refine lv_aload_n hx hb dX0_keep_15 rfl (lv_at hl 1 rfl) ?_
          refine va_get (ci := 0) (v := .ref a0) (C := RX0) (T := TX0) (N := 1) hx hb hts inX0 hown hK hP 0 rfl rfl 0 (by decide) (hts _ gm_109) (fun _ h9 => h9) rfl dX0_keep_16 ?_
          refine lv_iload_n hx hb dX0_keep_19 rfl (lv_at hl 0 rfl) ?_
          refine gz_alda hx hb hK hP 1 rfl (vp_in_iff.mpr (by decide)) dX0_keep_20 (v := .ref (rr 3)) rfl ?_
          refine lv_iload_n hx hb dX0_keep_21 rfl (lv_at hl 3 rfl) ?_
          refine lv_aload_n hx hb dX0_keep_22 rfl (lv_at hl 2 rfl) ?_
          refine va_getN (host := "WellCourt") (ci := 1) (v := .ref b2) (C := RX1) (T := TX1) (N := 3) hx hb hts inX1 hown hK hP 8 rfl rfl 2 (by decide) (va_Nw.use rfl (hov.2.2 _ gn_126)) (fun _ h9 => h9) rfl dX0_keep_23 ?_
          refine lv_iload_n hx hb dX0_keep_26 rfl (lv_at hl 0 rfl) ?_
          refine va_iald hx hb hK hP 9 0 rfl rfl (vp_in_iff.mpr (by decide)) dX0_keep_27 ?_
          refine lv_topi (fun x_11 ex_11 => ?_)
          refine va_iast hx hb hK hP hD hS 5 0 rfl rfl (vp_in_iff.mpr ⟨by omega, by omega⟩) dX0_keep_28 (fun H locs hP hD hS => ?_)
          obtain ⟨f_12, ef_12⟩ : ∃ g : Nat → Int32, g = upd (fun _ => (-1)) (x : Int32).toNatClampNeg x_11 := ⟨_, rfl⟩
          have hP : va_P G vwCl [(h0, .inr (0, [.ref a0])), (a0, .inl (cy 3, 6, .inr (.inr (.inr (.inr (fun i => if i < 6 then some (rr i) else none)))))), ((rr 0), .inl (cy 0, 200, .inl f_3)), ((rr 1), .inl (cy 0, 200, .inl f_6)), ((rr 2), .inl (cy 0, 200, .inl f_9)), ((rr 3), .inl (cy 0, 200, .inl f_12)), ((rr 4), .inl (cy 0, 200, .inl (fun _ => (-1)))), ((rr 5), .inl (cy 0, 200, .inl (fun _ => (-1)))), (h1, .inr (1, [.ref b0, .ref b1, .ref b2])), (b2, .inl (cy 0, 6, .inl f))] H := ef_12 ▸ hP
          have hD : va_D A [(h0, .inr (0, [.ref a0])), (a0, .inl (cy 3, 6, .inr (.inr (.inr (.inr (fun i => if i < 6 then some (rr i) else none)))))), ((rr 0), .inl (cy 0, 200, .inl f_3)), ((rr 1), .inl (cy 0, 200, .inl f_6)), ((rr 2), .inl (cy 0, 200, .inl f_9)), ((rr 3), .inl (cy 0, 200, .inl f_12)), ((rr 4), .inl (cy 0, 200, .inl (fun _ => (-1)))), ((rr 5), .inl (cy 0, 200, .inl (fun _ => (-1)))), (h1, .inr (1, [.ref b0, .ref b1, .ref b2])), (b2, .inl (cy 0, 6, .inl f))] := ef_12 ▸ hD
          refine lv_iinc (v := (4)) (lv' := [(3, .int 4), (0, .ref h0), (1, .ref h1), (2, .int x)]) hx hb dX0_keep_29 hl (k := 0) rfl (by decide) (by decide) rfl (fun ls hl => ?_)
          refine lv_goto (tgt := 2) hx hb dX0_keep_32 (by decide) ?_
          refine lv_iload_n hx hb dX0_keep_2 rfl (lv_at hl 0 rfl) ?_
          refine lv_bipush (v := 6) hx hb dX0_keep_3 (by decide) ?_
          refine lv_icmp_ge (tgt := 35) hx hb dX0_keep_5 (by decide) (fun h9 => absurd h9 (by decide)) (fun _ => ?_)
          refine lv_iload_n hx hb dX0_keep_8 rfl (lv_at hl 3 rfl) ?_
          refine gz_afti (va_runSN (As := [.int x]) (rest := []) ⟨hx, hb, hml, hown, hts⟩ (c_isDate l G cy H.size x x.toInt rfl) ⟨(va_cnB 1 hts (gz_good gm_562) rfl rfl rfl (hov.2.2 _ gn_560) (hts _ gm_1) ⟨by decide +kernel, by decide +kernel, by decide +kernel⟩ ⟨Nat.le_of_ble_eq_true rfl, Nat.le_of_ble_eq_true rfl⟩), hts _ gm_561, trivial⟩ (gz_preS hK hov hP hD [] (by decide) rfl) rfl rfl hl.1 rfl (lv_room (Nat.le_of_ble_eq_true rfl)) dX0_keep_9 ⟨Nat.le_of_ble_eq_true rfl, Nat.le_of_ble_eq_true rfl⟩) hP hD hS hA [] [0, 1, 2, 3, 4, 5, 6, 7, 8, 9] rfl rfl (by decide) (by decide) (fun r_13 u_13 H locs hw_13 hP hD hS => ?_)
          have hP : va_P G vwCl [(h0, .inr (0, [.ref a0])), (a0, .inl (cy 3, 6, .inr (.inr (.inr (.inr (fun i => if i < 6 then some (rr i) else none)))))), ((rr 0), .inl (cy 0, 200, .inl f_3)), ((rr 1), .inl (cy 0, 200, .inl f_6)), ((rr 2), .inl (cy 0, 200, .inl f_9)), ((rr 3), .inl (cy 0, 200, .inl f_12)), ((rr 4), .inl (cy 0, 200, .inl (fun _ => (-1)))), ((rr 5), .inl (cy 0, 200, .inl (fun _ => (-1)))), (h1, .inr (1, [.ref b0, .ref b1, .ref b2])), (b2, .inl (cy 0, 6, .inl f))] H := hP
          have hD : va_D A [(h0, .inr (0, [.ref a0])), (a0, .inl (cy 3, 6, .inr (.inr (.inr (.inr (fun i => if i < 6 then some (rr i) else none)))))), ((rr 0), .inl (cy 0, 200, .inl f_3)), ((rr 1), .inl (cy 0, 200, .inl f_6)), ((rr 2), .inl (cy 0, 200, .inl f_9)), ((rr 3), .inl (cy 0, 200, .inl f_12)), ((rr 4), .inl (cy 0, 200, .inl (fun _ => (-1)))), ((rr 5), .inl (cy 0, 200, .inl (fun _ => (-1)))), (h1, .inr (1, [.ref b0, .ref b1, .ref b2])), (b2, .inl (cy 0, 6, .inl f))] := hD
          rcases hw_13 with ⟨rfl, hw_13_0, hw_13_1⟩ | ⟨rfl, hw_13_0⟩
          · skip
            refine lv_if_eq (tgt := 35) hx hb dX0_keep_12 (by decide) (fun h9 => absurd h9 (by decide)) (fun _ => ?_)
            refine lv_aload_n hx hb dX0_keep_15 rfl (lv_at hl 1 rfl) ?_
            refine va_get (ci := 0) (v := .ref a0) (C := RX0) (T := TX0) (N := 1) hx hb hts inX0 hown hK hP 0 rfl rfl 0 (by decide) (hts _ gm_109) (fun _ h9 => h9) rfl dX0_keep_16 ?_
            refine lv_iload_n hx hb dX0_keep_19 rfl (lv_at hl 0 rfl) ?_
            refine gz_alda hx hb hK hP 1 rfl (vp_in_iff.mpr (by decide)) dX0_keep_20 (v := .ref (rr 4)) rfl ?_
            refine lv_iload_n hx hb dX0_keep_21 rfl (lv_at hl 3 rfl) ?_
            refine lv_aload_n hx hb dX0_keep_22 rfl (lv_at hl 2 rfl) ?_
            refine va_getN (host := "WellCourt") (ci := 1) (v := .ref b2) (C := RX1) (T := TX1) (N := 3) hx hb hts inX1 hown hK hP 8 rfl rfl 2 (by decide) (va_Nw.use rfl (hov.2.2 _ gn_126)) (fun _ h9 => h9) rfl dX0_keep_23 ?_
            refine lv_iload_n hx hb dX0_keep_26 rfl (lv_at hl 0 rfl) ?_
            refine va_iald hx hb hK hP 9 0 rfl rfl (vp_in_iff.mpr (by decide)) dX0_keep_27 ?_
            refine lv_topi (fun x_14 ex_14 => ?_)
            refine va_iast hx hb hK hP hD hS 6 0 rfl rfl (vp_in_iff.mpr ⟨by omega, by omega⟩) dX0_keep_28 (fun H locs hP hD hS => ?_)
            obtain ⟨f_15, ef_15⟩ : ∃ g : Nat → Int32, g = upd (fun _ => (-1)) (x : Int32).toNatClampNeg x_14 := ⟨_, rfl⟩
            have hP : va_P G vwCl [(h0, .inr (0, [.ref a0])), (a0, .inl (cy 3, 6, .inr (.inr (.inr (.inr (fun i => if i < 6 then some (rr i) else none)))))), ((rr 0), .inl (cy 0, 200, .inl f_3)), ((rr 1), .inl (cy 0, 200, .inl f_6)), ((rr 2), .inl (cy 0, 200, .inl f_9)), ((rr 3), .inl (cy 0, 200, .inl f_12)), ((rr 4), .inl (cy 0, 200, .inl f_15)), ((rr 5), .inl (cy 0, 200, .inl (fun _ => (-1)))), (h1, .inr (1, [.ref b0, .ref b1, .ref b2])), (b2, .inl (cy 0, 6, .inl f))] H := ef_15 ▸ hP
            have hD : va_D A [(h0, .inr (0, [.ref a0])), (a0, .inl (cy 3, 6, .inr (.inr (.inr (.inr (fun i => if i < 6 then some (rr i) else none)))))), ((rr 0), .inl (cy 0, 200, .inl f_3)), ((rr 1), .inl (cy 0, 200, .inl f_6)), ((rr 2), .inl (cy 0, 200, .inl f_9)), ((rr 3), .inl (cy 0, 200, .inl f_12)), ((rr 4), .inl (cy 0, 200, .inl f_15)), ((rr 5), .inl (cy 0, 200, .inl (fun _ => (-1)))), (h1, .inr (1, [.ref b0, .ref b1, .ref b2])), (b2, .inl (cy 0, 6, .inl f))] := ef_15 ▸ hD
            refine lv_iinc (v := (5)) (lv' := [(3, .int 5), (0, .ref h0), (1, .ref h1), (2, .int x)]) hx hb dX0_keep_29 hl (k := 0) rfl (by decide) (by decide) rfl (fun ls hl => ?_)
            refine lv_goto (tgt := 2) hx hb dX0_keep_32 (by decide) ?_
            refine lv_iload_n hx hb dX0_keep_2 rfl (lv_at hl 0 rfl) ?_
            refine lv_bipush (v := 6) hx hb dX0_keep_3 (by decide) ?_
            refine lv_icmp_ge (tgt := 35) hx hb dX0_keep_5 (by decide) (fun h9 => absurd h9 (by decide)) (fun _ => ?_)
            refine lv_iload_n hx hb dX0_keep_8 rfl (lv_at hl 3 rfl) ?_
            refine gz_afti (va_runSN (As := [.int x]) (rest := []) ⟨hx, hb, hml, hown, hts⟩ (c_isDate l G cy H.size x x.toInt rfl) ⟨(va_cnB 1 hts (gz_good gm_562) rfl rfl rfl (hov.2.2 _ gn_560) (hts _ gm_1) ⟨by decide +kernel, by decide +kernel, by decide +kernel⟩ ⟨Nat.le_of_ble_eq_true rfl, Nat.le_of_ble_eq_true rfl⟩), hts _ gm_561, trivial⟩ (gz_preS hK hov hP hD [] (by decide) rfl) rfl rfl hl.1 rfl (lv_room (Nat.le_of_ble_eq_true rfl)) dX0_keep_9 ⟨Nat.le_of_ble_eq_true rfl, Nat.le_of_ble_eq_true rfl⟩) hP hD hS hA [] [0, 1, 2, 3, 4, 5, 6, 7, 8, 9] rfl rfl (by decide) (by decide) (fun r_16 u_16 H locs hw_16 hP hD hS => ?_)
            have hP : va_P G vwCl [(h0, .inr (0, [.ref a0])), (a0, .inl (cy 3, 6, .inr (.inr (.inr (.inr (fun i => if i < 6 then some (rr i) else none)))))), ((rr 0), .inl (cy 0, 200, .inl f_3)), ((rr 1), .inl (cy 0, 200, .inl f_6)), ((rr 2), .inl (cy 0, 200, .inl f_9)), ((rr 3), .inl (cy 0, 200, .inl f_12)), ((rr 4), .inl (cy 0, 200, .inl f_15)), ((rr 5), .inl (cy 0, 200, .inl (fun _ => (-1)))), (h1, .inr (1, [.ref b0, .ref b1, .ref b2])), (b2, .inl (cy 0, 6, .inl f))] H := hP
            have hD : va_D A [(h0, .inr (0, [.ref a0])), (a0, .inl (cy 3, 6, .inr (.inr (.inr (.inr (fun i => if i < 6 then some (rr i) else none)))))), ((rr 0), .inl (cy 0, 200, .inl f_3)), ((rr 1), .inl (cy 0, 200, .inl f_6)), ((rr 2), .inl (cy 0, 200, .inl f_9)), ((rr 3), .inl (cy 0, 200, .inl f_12)), ((rr 4), .inl (cy 0, 200, .inl f_15)), ((rr 5), .inl (cy 0, 200, .inl (fun _ => (-1)))), (h1, .inr (1, [.ref b0, .ref b1, .ref b2])), (b2, .inl (cy 0, 6, .inl f))] := hD
            rcases hw_16 with ⟨rfl, hw_16_0, hw_16_1⟩ | ⟨rfl, hw_16_0⟩
            · skip
              refine lv_if_eq (tgt := 35) hx hb dX0_keep_12 (by decide) (fun h9 => absurd h9 (by decide)) (fun _ => ?_)
              refine lv_aload_n hx hb dX0_keep_15 rfl (lv_at hl 1 rfl) ?_
              refine va_get (ci := 0) (v := .ref a0) (C := RX0) (T := TX0) (N := 1) hx hb hts inX0 hown hK hP 0 rfl rfl 0 (by decide) (hts _ gm_109) (fun _ h9 => h9) rfl dX0_keep_16 ?_
              refine lv_iload_n hx hb dX0_keep_19 rfl (lv_at hl 0 rfl) ?_
              refine gz_alda hx hb hK hP 1 rfl (vp_in_iff.mpr (by decide)) dX0_keep_20 (v := .ref (rr 5)) rfl ?_
              refine lv_iload_n hx hb dX0_keep_21 rfl (lv_at hl 3 rfl) ?_
              refine lv_aload_n hx hb dX0_keep_22 rfl (lv_at hl 2 rfl) ?_
              refine va_getN (host := "WellCourt") (ci := 1) (v := .ref b2) (C := RX1) (T := TX1) (N := 3) hx hb hts inX1 hown hK hP 8 rfl rfl 2 (by decide) (va_Nw.use rfl (hov.2.2 _ gn_126)) (fun _ h9 => h9) rfl dX0_keep_23 ?_
              refine lv_iload_n hx hb dX0_keep_26 rfl (lv_at hl 0 rfl) ?_
              refine va_iald hx hb hK hP 9 0 rfl rfl (vp_in_iff.mpr (by decide)) dX0_keep_27 ?_
              refine lv_topi (fun x_17 ex_17 => ?_)
              refine va_iast hx hb hK hP hD hS 7 0 rfl rfl (vp_in_iff.mpr ⟨by omega, by omega⟩) dX0_keep_28 (fun H locs hP hD hS => ?_)
              obtain ⟨f_18, ef_18⟩ : ∃ g : Nat → Int32, g = upd (fun _ => (-1)) (x : Int32).toNatClampNeg x_17 := ⟨_, rfl⟩
              have hP : va_P G vwCl [(h0, .inr (0, [.ref a0])), (a0, .inl (cy 3, 6, .inr (.inr (.inr (.inr (fun i => if i < 6 then some (rr i) else none)))))), ((rr 0), .inl (cy 0, 200, .inl f_3)), ((rr 1), .inl (cy 0, 200, .inl f_6)), ((rr 2), .inl (cy 0, 200, .inl f_9)), ((rr 3), .inl (cy 0, 200, .inl f_12)), ((rr 4), .inl (cy 0, 200, .inl f_15)), ((rr 5), .inl (cy 0, 200, .inl f_18)), (h1, .inr (1, [.ref b0, .ref b1, .ref b2])), (b2, .inl (cy 0, 6, .inl f))] H := ef_18 ▸ hP
              have hD : va_D A [(h0, .inr (0, [.ref a0])), (a0, .inl (cy 3, 6, .inr (.inr (.inr (.inr (fun i => if i < 6 then some (rr i) else none)))))), ((rr 0), .inl (cy 0, 200, .inl f_3)), ((rr 1), .inl (cy 0, 200, .inl f_6)), ((rr 2), .inl (cy 0, 200, .inl f_9)), ((rr 3), .inl (cy 0, 200, .inl f_12)), ((rr 4), .inl (cy 0, 200, .inl f_15)), ((rr 5), .inl (cy 0, 200, .inl f_18)), (h1, .inr (1, [.ref b0, .ref b1, .ref b2])), (b2, .inl (cy 0, 6, .inl f))] := ef_18 ▸ hD
              refine lv_iinc (v := (6)) (lv' := [(3, .int 6), (0, .ref h0), (1, .ref h1), (2, .int x)]) hx hb dX0_keep_29 hl (k := 0) rfl (by decide) (by decide) rfl (fun ls hl => ?_)
              refine lv_goto (tgt := 2) hx hb dX0_keep_32 (by decide) ?_
              refine lv_iload_n hx hb dX0_keep_2 rfl (lv_at hl 0 rfl) ?_
              refine lv_bipush (v := 6) hx hb dX0_keep_3 (by decide) ?_
              refine lv_icmp_ge (tgt := 35) hx hb dX0_keep_5 (by decide) (fun _ => ?_) (fun h9 => absurd (by decide) h9)
              exact gz_vret (cf := (fun (u : Unit) => [])) (post := (fun (u : Unit) => True)) hx hb hr hlocks hK hP hD hS () [] trivial (by decide) rfl (Nat.le_of_ble_eq_true rfl) (Nat.le_of_ble_eq_true rfl) dX0_keep_35
            · skip
              refine lv_if_eq (tgt := 35) hx hb dX0_keep_12 (by decide) (fun _ => ?_) (fun h9 => absurd (by decide) h9)
              exact gz_vret (cf := (fun (u : Unit) => [])) (post := (fun (u : Unit) => True)) hx hb hr hlocks hK hP hD hS () [] trivial (by decide) rfl (Nat.le_of_ble_eq_true rfl) (Nat.le_of_ble_eq_true rfl) dX0_keep_35
          · skip
            refine lv_if_eq (tgt := 35) hx hb dX0_keep_12 (by decide) (fun _ => ?_) (fun h9 => absurd (by decide) h9)
            exact gz_vret (cf := (fun (u : Unit) => [])) (post := (fun (u : Unit) => True)) hx hb hr hlocks hK hP hD hS () [] trivial (by decide) rfl (Nat.le_of_ble_eq_true rfl) (Nat.le_of_ble_eq_true rfl) dX0_keep_35
        · skip
          refine lv_if_eq (tgt := 35) hx hb dX0_keep_12 (by decide) (fun _ => ?_) (fun h9 => absurd (by decide) h9)
          exact gz_vret (cf := (fun (u : Unit) => [])) (post := (fun (u : Unit) => True)) hx hb hr hlocks hK hP hD hS () [] trivial (by decide) rfl (Nat.le_of_ble_eq_true rfl) (Nat.le_of_ble_eq_true rfl) dX0_keep_35
      · skip
        refine lv_if_eq (tgt := 35) hx hb dX0_keep_12 (by decide) (fun _ => ?_) (fun h9 => absurd (by decide) h9)
        exact gz_vret (cf := (fun (u : Unit) => [])) (post := (fun (u : Unit) => True)) hx hb hr hlocks hK hP hD hS () [] trivial (by decide) rfl (Nat.le_of_ble_eq_true rfl) (Nat.le_of_ble_eq_true rfl) dX0_keep_35
    · skip
      refine lv_if_eq (tgt := 35) hx hb dX0_keep_12 (by decide) (fun _ => ?_) (fun h9 => absurd (by decide) h9)
      exact gz_vret (cf := (fun (u : Unit) => [])) (post := (fun (u : Unit) => True)) hx hb hr hlocks hK hP hD hS () [] trivial (by decide) rfl (Nat.le_of_ble_eq_true rfl) (Nat.le_of_ble_eq_true rfl) dX0_keep_35
  · skip
    refine lv_if_eq (tgt := 35) hx hb dX0_keep_12 (by decide) (fun _ => ?_) (fun h9 => absurd (by decide) h9)
    exact gz_vret (cf := (fun (u : Unit) => [])) (post := (fun (u : Unit) => True)) hx hb hr hlocks hK hP hD hS () [] trivial (by decide) rfl (Nat.le_of_ble_eq_true rfl) (Nat.le_of_ble_eq_true rfl) dX0_keep_35

set_option maxHeartbeats 4000000 in
set_option maxRecDepth 100000 in
/-- WellCourt$Day.settle -/
theorem c_X1_settle (l : Launch) (G : va_G) (cy : Nat → ClassId) (sz : Nat) (h0 : Nat) (a0 : Nat) (a1 : Nat) (a2 : Nat) (f : Nat → Int32) (h1 : Nat) (b0 : Nat) (b1 : Nat) (b2 : Nat) (b3 : Nat) (b4 : Nat) (b5 : Nat) (b6 : Nat) (b7 : Nat) (b8 : Nat) (b9 : Nat) (b10 : Nat) (h2 : Nat) (d0 : Nat) (rr : Nat → Nat) (x : Int32) (Xx : Int) (kx : x.toInt = Xx) : gMv l yX1_settle cX1_settle 6 ({ frames := 2, cells := 0, slots := 0, locals := 42 }) G cy sz [.ref h0, .ref h1, .ref h2, .int x] [(h0, .inr (1, [.ref a0, .ref a1, .ref a2])), (a1, .inl (cy 0, 6, .inl (fun _ => (-1)))), (a2, .inl (cy 0, 6, .inl f)), (h1, .inr (4, [.int 0, .ref b0, .ref b1, .ref b2, .ref b3, .int 0, .ref b4, .ref b5, .ref b6, .int 0, .ref b7, .ref b8, .ref b9, .ref b10])), (h2, .inr (0, [.ref d0])), (d0, .inl (cy 3, 6, .inr (.inr (.inr (.inr (fun i => if i < 6 then some (rr i) else none)))))), ((rr 0), .inl (cy 0, 200, .inl (fun _ => (-1)))), ((rr 1), .inl (cy 0, 200, .inl (fun _ => (-1)))), ((rr 2), .inl (cy 0, 200, .inl (fun _ => (-1)))), ((rr 3), .inl (cy 0, 200, .inl (fun _ => (-1)))), ((rr 4), .inl (cy 0, 200, .inl (fun _ => (-1)))), ((rr 5), .inl (cy 0, 200, .inl (fun _ => (-1))))] (fun (u : Nat → Int32) => True) (fun (u : Nat → Int32) => [(h0, .inr (1, [.ref a0, .ref a1, .ref a2])), (a1, .inl (cy 0, 6, .inl (fun _ => (-1)))), (a2, .inl (cy 0, 6, .inl u)), (h1, .inr (4, [.int 0, .ref b0, .ref b1, .ref b2, .ref b3, .int 0, .ref b4, .ref b5, .ref b6, .int 0, .ref b7, .ref b8, .ref b9, .ref b10])), (h2, .inr (0, [.ref d0])), (d0, .inl (cy 3, 6, .inr (.inr (.inr (.inr (fun i => if i < 6 then some (rr i) else none)))))), ((rr 0), .inl (cy 0, 200, .inl (fun _ => (-1)))), ((rr 1), .inl (cy 0, 200, .inl (fun _ => (-1)))), ((rr 2), .inl (cy 0, 200, .inl (fun _ => (-1)))), ((rr 3), .inl (cy 0, 200, .inl (fun _ => (-1)))), ((rr 4), .inl (cy 0, 200, .inl (fun _ => (-1)))), ((rr 5), .inl (cy 0, 200, .inl (fun _ => (-1))))]) := by
  refine gz_start (fun A => gQv G cy _ _ A) (by decide) (Nat.le_of_ble_eq_true rfl) ?_
  intro p e s m below meth c A ls H hx hb hr hml hlocks hin hown hts hK hov hsz hP hD hS hA hl
  have hl : lv_has ls 6 [(0, .ref h0), (1, .ref h1), (2, .ref h2), (3, .int x)] := hl
  refine lv_iconst (v := 0) hx hb dX1_settle_0 (by decide) ?_
  refine lv_istore (lv' := [(4, .int 0), (0, .ref h0), (1, .ref h1), (2, .ref h2), (3, .int x)]) hx hb dX1_settle_1 hl (by decide) rfl (fun ls hl => ?_)
  refine lv_iload hx hb dX1_settle_3 (lv_at hl 0 rfl) ?_
  refine lv_bipush (v := 6) hx hb dX1_settle_5 (by decide) ?_
  refine lv_icmp_ge (tgt := 56) hx hb dX1_settle_7 (by decide) (fun h9 => absurd h9 (by decide)) (fun _ => ?_)
  refine lv_aload_n hx hb dX1_settle_10 rfl (lv_at hl 2 rfl) ?_
  refine lv_iload hx hb dX1_settle_11 (lv_at hl 0 rfl) ?_
  refine lv_aload_n hx hb dX1_settle_13 rfl (lv_at hl 1 rfl) ?_
  refine va_get (ci := 1) (v := .ref a1) (C := RX1) (T := TX1) (N := 3) hx hb hts inX1 hown hK hP 0 rfl rfl 1 (by decide) (hts _ gm_123) (fun _ h9 => h9) rfl dX1_settle_14 ?_
  refine lv_iload hx hb dX1_settle_17 (lv_at hl 0 rfl) ?_
  refine va_iald hx hb hK hP 1 0 rfl rfl (vp_in_iff.mpr (by decide)) dX1_settle_19 ?_
  refine lv_topi (fun x_1 ex_1 => ?_)
  obtain rfl : x_1 = (-1 : Int32) := ex_1
  refine gz_afti (va_runV (As := [.int 0, .int (-1)]) (rest := []) ⟨hx, hb, hml, hown, hts⟩ (c_X4_droughtOwner l G cy H.size h1 b0 b1 b2 b3 b4 b5 b6 b7 b8 b9 b10 0 (-1) 0 (-1) (by decide) (by decide)) ⟨(gz_cb (n := 2) hts gm_551 gm_10 gm_554 ⟨by decide +kernel, by decide +kernel, by decide +kernel⟩ ⟨Nat.le_of_ble_eq_true rfl, Nat.le_of_ble_eq_true rfl⟩), hts _ gm_552, hts _ gm_553⟩ (gz_preV (ci := 4) (q0 := 0) hK hov hP hD [3] (by decide) rfl rfl rfl) rfl rfl hl.1 rfl (lv_room (Nat.le_of_ble_eq_true rfl)) dX1_settle_20 ⟨Nat.le_of_ble_eq_true rfl, Nat.le_of_ble_eq_true rfl⟩) hP hD hS hA [3] [0, 1, 2, 4, 5, 6, 7, 8, 9, 10, 11] rfl rfl (by decide) (by decide) (fun r_2 u_2 H locs hw_2 hP hD hS => ?_)
  have hP : va_P G vwCl [(h0, .inr (1, [.ref a0, .ref a1, .ref a2])), (a1, .inl (cy 0, 6, .inl (fun _ => (-1)))), (a2, .inl (cy 0, 6, .inl f)), (h2, .inr (0, [.ref d0])), (d0, .inl (cy 3, 6, .inr (.inr (.inr (.inr (fun i => if i < 6 then some (rr i) else none)))))), ((rr 0), .inl (cy 0, 200, .inl (fun _ => (-1)))), ((rr 1), .inl (cy 0, 200, .inl (fun _ => (-1)))), ((rr 2), .inl (cy 0, 200, .inl (fun _ => (-1)))), ((rr 3), .inl (cy 0, 200, .inl (fun _ => (-1)))), ((rr 4), .inl (cy 0, 200, .inl (fun _ => (-1)))), ((rr 5), .inl (cy 0, 200, .inl (fun _ => (-1)))), (h1, .inr (4, [.int 0, .ref b0, .ref b1, .ref b2, .ref b3, .int 0, .ref b4, .ref b5, .ref b6, .int 0, .ref b7, .ref b8, .ref b9, .ref b10]))] H := hP
  have hD : va_D A [(h0, .inr (1, [.ref a0, .ref a1, .ref a2])), (a1, .inl (cy 0, 6, .inl (fun _ => (-1)))), (a2, .inl (cy 0, 6, .inl f)), (h2, .inr (0, [.ref d0])), (d0, .inl (cy 3, 6, .inr (.inr (.inr (.inr (fun i => if i < 6 then some (rr i) else none)))))), ((rr 0), .inl (cy 0, 200, .inl (fun _ => (-1)))), ((rr 1), .inl (cy 0, 200, .inl (fun _ => (-1)))), ((rr 2), .inl (cy 0, 200, .inl (fun _ => (-1)))), ((rr 3), .inl (cy 0, 200, .inl (fun _ => (-1)))), ((rr 4), .inl (cy 0, 200, .inl (fun _ => (-1)))), ((rr 5), .inl (cy 0, 200, .inl (fun _ => (-1)))), (h1, .inr (4, [.int 0, .ref b0, .ref b1, .ref b2, .ref b3, .int 0, .ref b4, .ref b5, .ref b6, .int 0, .ref b7, .ref b8, .ref b9, .ref b10]))] := hD
  obtain rfl := hw_2
  refine lv_istore (lv' := [(5, .int (-1)), (4, .int 0), (0, .ref h0), (1, .ref h1), (2, .ref h2), (3, .int x)]) hx hb dX1_settle_23 hl (by decide) rfl (fun ls hl => ?_)
  refine lv_aload_n hx hb dX1_settle_25 rfl (lv_at hl 2 rfl) ?_
  refine va_get (ci := 1) (v := .ref a2) (C := RX1) (T := TX1) (N := 3) hx hb hts inX1 hown hK hP 0 rfl rfl 2 (by decide) (hts _ gm_125) (fun _ h9 => h9) rfl dX1_settle_26 ?_
  refine lv_iload hx hb dX1_settle_29 (lv_at hl 1 rfl) ?_
  refine lv_iload hx hb dX1_settle_31 (lv_at hl 0 rfl) ?_
  refine lv_iconst (v := (-1)) hx hb dX1_settle_33 (by decide) ?_
  refine lv_icmp_ne (tgt := 47) hx hb dX1_settle_34 (by decide) (fun h9 => absurd (by decide) h9) (fun _ => ?_)
  refine lv_aload_n hx hb dX1_settle_37 rfl (lv_at hl 4 rfl) ?_
  refine lv_iload hx hb dX1_settle_38 (lv_at hl 1 rfl) ?_
  refine lv_iload_n hx hb dX1_settle_40 rfl (lv_at hl 5 rfl) ?_
  refine gz_afti (va_runV (As := [.int 0, .int x]) (rest := [.int 0, .ref a2]) ⟨hx, hb, hml, hown, hts⟩ (c_X0_ownerOn l G cy H.size h2 d0 rr 0 x 0 x.toInt (by decide) rfl) ⟨(gz_cb (n := 2) hts gm_555 gm_5 gm_558 ⟨by decide +kernel, by decide +kernel, by decide +kernel⟩ ⟨Nat.le_of_ble_eq_true rfl, Nat.le_of_ble_eq_true rfl⟩), hts _ gm_556, hts _ gm_557⟩ (gz_preV (ci := 0) (q0 := 0) hK hov hP hD [3, 4, 5, 6, 7, 8, 9, 10] (by decide) rfl rfl rfl) rfl rfl hl.1 rfl (lv_room (Nat.le_of_ble_eq_true rfl)) dX1_settle_41 ⟨Nat.le_of_ble_eq_true rfl, Nat.le_of_ble_eq_true rfl⟩) hP hD hS hA [3, 4, 5, 6, 7, 8, 9, 10] [0, 1, 2, 11] rfl rfl (by decide) (by decide) (fun r_3 u_3 H locs hw_3 hP hD hS => ?_)
  have hP : va_P G vwCl [(h0, .inr (1, [.ref a0, .ref a1, .ref a2])), (a1, .inl (cy 0, 6, .inl (fun _ => (-1)))), (a2, .inl (cy 0, 6, .inl f)), (h1, .inr (4, [.int 0, .ref b0, .ref b1, .ref b2, .ref b3, .int 0, .ref b4, .ref b5, .ref b6, .int 0, .ref b7, .ref b8, .ref b9, .ref b10])), (h2, .inr (0, [.ref d0])), (d0, .inl (cy 3, 6, .inr (.inr (.inr (.inr (fun i => if i < 6 then some (rr i) else none)))))), ((rr 0), .inl (cy 0, 200, .inl (fun _ => (-1)))), ((rr 1), .inl (cy 0, 200, .inl (fun _ => (-1)))), ((rr 2), .inl (cy 0, 200, .inl (fun _ => (-1)))), ((rr 3), .inl (cy 0, 200, .inl (fun _ => (-1)))), ((rr 4), .inl (cy 0, 200, .inl (fun _ => (-1)))), ((rr 5), .inl (cy 0, 200, .inl (fun _ => (-1))))] H := hP
  have hD : va_D A [(h0, .inr (1, [.ref a0, .ref a1, .ref a2])), (a1, .inl (cy 0, 6, .inl (fun _ => (-1)))), (a2, .inl (cy 0, 6, .inl f)), (h1, .inr (4, [.int 0, .ref b0, .ref b1, .ref b2, .ref b3, .int 0, .ref b4, .ref b5, .ref b6, .int 0, .ref b7, .ref b8, .ref b9, .ref b10])), (h2, .inr (0, [.ref d0])), (d0, .inl (cy 3, 6, .inr (.inr (.inr (.inr (fun i => if i < 6 then some (rr i) else none)))))), ((rr 0), .inl (cy 0, 200, .inl (fun _ => (-1)))), ((rr 1), .inl (cy 0, 200, .inl (fun _ => (-1)))), ((rr 2), .inl (cy 0, 200, .inl (fun _ => (-1)))), ((rr 3), .inl (cy 0, 200, .inl (fun _ => (-1)))), ((rr 4), .inl (cy 0, 200, .inl (fun _ => (-1)))), ((rr 5), .inl (cy 0, 200, .inl (fun _ => (-1))))] := hD
  obtain rfl := hw_3
  refine lv_goto (tgt := 49) hx hb dX1_settle_44 (by decide) ?_
  refine va_iast hx hb hK hP hD hS 2 0 rfl rfl (vp_in_iff.mpr (by decide)) dX1_settle_49 (fun H locs hP hD hS => ?_)
  obtain ⟨f_4, ef_4⟩ : ∃ g : Nat → Int32, g = upd f (0 : Int32).toNatClampNeg (-1) := ⟨_, rfl⟩
  have hP : va_P G vwCl [(h0, .inr (1, [.ref a0, .ref a1, .ref a2])), (a1, .inl (cy 0, 6, .inl (fun _ => (-1)))), (a2, .inl (cy 0, 6, .inl f_4)), (h1, .inr (4, [.int 0, .ref b0, .ref b1, .ref b2, .ref b3, .int 0, .ref b4, .ref b5, .ref b6, .int 0, .ref b7, .ref b8, .ref b9, .ref b10])), (h2, .inr (0, [.ref d0])), (d0, .inl (cy 3, 6, .inr (.inr (.inr (.inr (fun i => if i < 6 then some (rr i) else none)))))), ((rr 0), .inl (cy 0, 200, .inl (fun _ => (-1)))), ((rr 1), .inl (cy 0, 200, .inl (fun _ => (-1)))), ((rr 2), .inl (cy 0, 200, .inl (fun _ => (-1)))), ((rr 3), .inl (cy 0, 200, .inl (fun _ => (-1)))), ((rr 4), .inl (cy 0, 200, .inl (fun _ => (-1)))), ((rr 5), .inl (cy 0, 200, .inl (fun _ => (-1))))] H := ef_4 ▸ hP
  have hD : va_D A [(h0, .inr (1, [.ref a0, .ref a1, .ref a2])), (a1, .inl (cy 0, 6, .inl (fun _ => (-1)))), (a2, .inl (cy 0, 6, .inl f_4)), (h1, .inr (4, [.int 0, .ref b0, .ref b1, .ref b2, .ref b3, .int 0, .ref b4, .ref b5, .ref b6, .int 0, .ref b7, .ref b8, .ref b9, .ref b10])), (h2, .inr (0, [.ref d0])), (d0, .inl (cy 3, 6, .inr (.inr (.inr (.inr (fun i => if i < 6 then some (rr i) else none)))))), ((rr 0), .inl (cy 0, 200, .inl (fun _ => (-1)))), ((rr 1), .inl (cy 0, 200, .inl (fun _ => (-1)))), ((rr 2), .inl (cy 0, 200, .inl (fun _ => (-1)))), ((rr 3), .inl (cy 0, 200, .inl (fun _ => (-1)))), ((rr 4), .inl (cy 0, 200, .inl (fun _ => (-1)))), ((rr 5), .inl (cy 0, 200, .inl (fun _ => (-1))))] := ef_4 ▸ hD
  refine lv_iinc (v := (1)) (lv' := [(4, .int 1), (5, .int (-1)), (0, .ref h0), (1, .ref h1), (2, .ref h2), (3, .int x)]) hx hb dX1_settle_50 hl (k := 1) rfl (by decide) (by decide) rfl (fun ls hl => ?_)
  refine lv_goto (tgt := 3) hx hb dX1_settle_53 (by decide) ?_
  refine lv_iload hx hb dX1_settle_3 (lv_at hl 0 rfl) ?_
  refine lv_bipush (v := 6) hx hb dX1_settle_5 (by decide) ?_
  refine lv_icmp_ge (tgt := 56) hx hb dX1_settle_7 (by decide) (fun h9 => absurd h9 (by decide)) (fun _ => ?_)
  refine lv_aload_n hx hb dX1_settle_10 rfl (lv_at hl 3 rfl) ?_
  refine lv_iload hx hb dX1_settle_11 (lv_at hl 0 rfl) ?_
  refine lv_aload_n hx hb dX1_settle_13 rfl (lv_at hl 2 rfl) ?_
  refine va_get (ci := 1) (v := .ref a1) (C := RX1) (T := TX1) (N := 3) hx hb hts inX1 hown hK hP 0 rfl rfl 1 (by decide) (hts _ gm_123) (fun _ h9 => h9) rfl dX1_settle_14 ?_
  refine lv_iload hx hb dX1_settle_17 (lv_at hl 0 rfl) ?_
  refine va_iald hx hb hK hP 1 0 rfl rfl (vp_in_iff.mpr (by decide)) dX1_settle_19 ?_
  refine lv_topi (fun x_5 ex_5 => ?_)
  obtain rfl : x_5 = (-1 : Int32) := ex_5
  refine gz_afti (va_runV (As := [.int 1, .int (-1)]) (rest := []) ⟨hx, hb, hml, hown, hts⟩ (c_X4_droughtOwner l G cy H.size h1 b0 b1 b2 b3 b4 b5 b6 b7 b8 b9 b10 1 (-1) 1 (-1) (by decide) (by decide)) ⟨(gz_cb (n := 2) hts gm_551 gm_10 gm_554 ⟨by decide +kernel, by decide +kernel, by decide +kernel⟩ ⟨Nat.le_of_ble_eq_true rfl, Nat.le_of_ble_eq_true rfl⟩), hts _ gm_552, hts _ gm_553⟩ (gz_preV (ci := 4) (q0 := 0) hK hov hP hD [3] (by decide) rfl rfl rfl) rfl rfl hl.1 rfl (lv_room (Nat.le_of_ble_eq_true rfl)) dX1_settle_20 ⟨Nat.le_of_ble_eq_true rfl, Nat.le_of_ble_eq_true rfl⟩) hP hD hS hA [3] [0, 1, 2, 4, 5, 6, 7, 8, 9, 10, 11] rfl rfl (by decide) (by decide) (fun r_6 u_6 H locs hw_6 hP hD hS => ?_)
  have hP : va_P G vwCl [(h0, .inr (1, [.ref a0, .ref a1, .ref a2])), (a1, .inl (cy 0, 6, .inl (fun _ => (-1)))), (a2, .inl (cy 0, 6, .inl f_4)), (h2, .inr (0, [.ref d0])), (d0, .inl (cy 3, 6, .inr (.inr (.inr (.inr (fun i => if i < 6 then some (rr i) else none)))))), ((rr 0), .inl (cy 0, 200, .inl (fun _ => (-1)))), ((rr 1), .inl (cy 0, 200, .inl (fun _ => (-1)))), ((rr 2), .inl (cy 0, 200, .inl (fun _ => (-1)))), ((rr 3), .inl (cy 0, 200, .inl (fun _ => (-1)))), ((rr 4), .inl (cy 0, 200, .inl (fun _ => (-1)))), ((rr 5), .inl (cy 0, 200, .inl (fun _ => (-1)))), (h1, .inr (4, [.int 0, .ref b0, .ref b1, .ref b2, .ref b3, .int 0, .ref b4, .ref b5, .ref b6, .int 0, .ref b7, .ref b8, .ref b9, .ref b10]))] H := hP
  have hD : va_D A [(h0, .inr (1, [.ref a0, .ref a1, .ref a2])), (a1, .inl (cy 0, 6, .inl (fun _ => (-1)))), (a2, .inl (cy 0, 6, .inl f_4)), (h2, .inr (0, [.ref d0])), (d0, .inl (cy 3, 6, .inr (.inr (.inr (.inr (fun i => if i < 6 then some (rr i) else none)))))), ((rr 0), .inl (cy 0, 200, .inl (fun _ => (-1)))), ((rr 1), .inl (cy 0, 200, .inl (fun _ => (-1)))), ((rr 2), .inl (cy 0, 200, .inl (fun _ => (-1)))), ((rr 3), .inl (cy 0, 200, .inl (fun _ => (-1)))), ((rr 4), .inl (cy 0, 200, .inl (fun _ => (-1)))), ((rr 5), .inl (cy 0, 200, .inl (fun _ => (-1)))), (h1, .inr (4, [.int 0, .ref b0, .ref b1, .ref b2, .ref b3, .int 0, .ref b4, .ref b5, .ref b6, .int 0, .ref b7, .ref b8, .ref b9, .ref b10]))] := hD
  obtain rfl := hw_6
  refine lv_istore (lv' := [(5, .int (-1)), (4, .int 1), (0, .ref h0), (1, .ref h1), (2, .ref h2), (3, .int x)]) hx hb dX1_settle_23 hl (by decide) rfl (fun ls hl => ?_)
  refine lv_aload_n hx hb dX1_settle_25 rfl (lv_at hl 2 rfl) ?_
  refine va_get (ci := 1) (v := .ref a2) (C := RX1) (T := TX1) (N := 3) hx hb hts inX1 hown hK hP 0 rfl rfl 2 (by decide) (hts _ gm_125) (fun _ h9 => h9) rfl dX1_settle_26 ?_
  refine lv_iload hx hb dX1_settle_29 (lv_at hl 1 rfl) ?_
  refine lv_iload hx hb dX1_settle_31 (lv_at hl 0 rfl) ?_
  refine lv_iconst (v := (-1)) hx hb dX1_settle_33 (by decide) ?_
  refine lv_icmp_ne (tgt := 47) hx hb dX1_settle_34 (by decide) (fun h9 => absurd (by decide) h9) (fun _ => ?_)
  refine lv_aload_n hx hb dX1_settle_37 rfl (lv_at hl 4 rfl) ?_
  refine lv_iload hx hb dX1_settle_38 (lv_at hl 1 rfl) ?_
  refine lv_iload_n hx hb dX1_settle_40 rfl (lv_at hl 5 rfl) ?_
  refine gz_afti (va_runV (As := [.int 1, .int x]) (rest := [.int 1, .ref a2]) ⟨hx, hb, hml, hown, hts⟩ (c_X0_ownerOn l G cy H.size h2 d0 rr 1 x 1 x.toInt (by decide) rfl) ⟨(gz_cb (n := 2) hts gm_555 gm_5 gm_558 ⟨by decide +kernel, by decide +kernel, by decide +kernel⟩ ⟨Nat.le_of_ble_eq_true rfl, Nat.le_of_ble_eq_true rfl⟩), hts _ gm_556, hts _ gm_557⟩ (gz_preV (ci := 0) (q0 := 0) hK hov hP hD [3, 4, 5, 6, 7, 8, 9, 10] (by decide) rfl rfl rfl) rfl rfl hl.1 rfl (lv_room (Nat.le_of_ble_eq_true rfl)) dX1_settle_41 ⟨Nat.le_of_ble_eq_true rfl, Nat.le_of_ble_eq_true rfl⟩) hP hD hS hA [3, 4, 5, 6, 7, 8, 9, 10] [0, 1, 2, 11] rfl rfl (by decide) (by decide) (fun r_7 u_7 H locs hw_7 hP hD hS => ?_)
  have hP : va_P G vwCl [(h0, .inr (1, [.ref a0, .ref a1, .ref a2])), (a1, .inl (cy 0, 6, .inl (fun _ => (-1)))), (a2, .inl (cy 0, 6, .inl f_4)), (h1, .inr (4, [.int 0, .ref b0, .ref b1, .ref b2, .ref b3, .int 0, .ref b4, .ref b5, .ref b6, .int 0, .ref b7, .ref b8, .ref b9, .ref b10])), (h2, .inr (0, [.ref d0])), (d0, .inl (cy 3, 6, .inr (.inr (.inr (.inr (fun i => if i < 6 then some (rr i) else none)))))), ((rr 0), .inl (cy 0, 200, .inl (fun _ => (-1)))), ((rr 1), .inl (cy 0, 200, .inl (fun _ => (-1)))), ((rr 2), .inl (cy 0, 200, .inl (fun _ => (-1)))), ((rr 3), .inl (cy 0, 200, .inl (fun _ => (-1)))), ((rr 4), .inl (cy 0, 200, .inl (fun _ => (-1)))), ((rr 5), .inl (cy 0, 200, .inl (fun _ => (-1))))] H := hP
  have hD : va_D A [(h0, .inr (1, [.ref a0, .ref a1, .ref a2])), (a1, .inl (cy 0, 6, .inl (fun _ => (-1)))), (a2, .inl (cy 0, 6, .inl f_4)), (h1, .inr (4, [.int 0, .ref b0, .ref b1, .ref b2, .ref b3, .int 0, .ref b4, .ref b5, .ref b6, .int 0, .ref b7, .ref b8, .ref b9, .ref b10])), (h2, .inr (0, [.ref d0])), (d0, .inl (cy 3, 6, .inr (.inr (.inr (.inr (fun i => if i < 6 then some (rr i) else none)))))), ((rr 0), .inl (cy 0, 200, .inl (fun _ => (-1)))), ((rr 1), .inl (cy 0, 200, .inl (fun _ => (-1)))), ((rr 2), .inl (cy 0, 200, .inl (fun _ => (-1)))), ((rr 3), .inl (cy 0, 200, .inl (fun _ => (-1)))), ((rr 4), .inl (cy 0, 200, .inl (fun _ => (-1)))), ((rr 5), .inl (cy 0, 200, .inl (fun _ => (-1))))] := hD
  obtain rfl := hw_7
  refine lv_goto (tgt := 49) hx hb dX1_settle_44 (by decide) ?_
  refine va_iast hx hb hK hP hD hS 2 0 rfl rfl (vp_in_iff.mpr (by decide)) dX1_settle_49 (fun H locs hP hD hS => ?_)
  obtain ⟨f_8, ef_8⟩ : ∃ g : Nat → Int32, g = upd f_4 (1 : Int32).toNatClampNeg (-1) := ⟨_, rfl⟩
  have hP : va_P G vwCl [(h0, .inr (1, [.ref a0, .ref a1, .ref a2])), (a1, .inl (cy 0, 6, .inl (fun _ => (-1)))), (a2, .inl (cy 0, 6, .inl f_8)), (h1, .inr (4, [.int 0, .ref b0, .ref b1, .ref b2, .ref b3, .int 0, .ref b4, .ref b5, .ref b6, .int 0, .ref b7, .ref b8, .ref b9, .ref b10])), (h2, .inr (0, [.ref d0])), (d0, .inl (cy 3, 6, .inr (.inr (.inr (.inr (fun i => if i < 6 then some (rr i) else none)))))), ((rr 0), .inl (cy 0, 200, .inl (fun _ => (-1)))), ((rr 1), .inl (cy 0, 200, .inl (fun _ => (-1)))), ((rr 2), .inl (cy 0, 200, .inl (fun _ => (-1)))), ((rr 3), .inl (cy 0, 200, .inl (fun _ => (-1)))), ((rr 4), .inl (cy 0, 200, .inl (fun _ => (-1)))), ((rr 5), .inl (cy 0, 200, .inl (fun _ => (-1))))] H := ef_8 ▸ hP
  have hD : va_D A [(h0, .inr (1, [.ref a0, .ref a1, .ref a2])), (a1, .inl (cy 0, 6, .inl (fun _ => (-1)))), (a2, .inl (cy 0, 6, .inl f_8)), (h1, .inr (4, [.int 0, .ref b0, .ref b1, .ref b2, .ref b3, .int 0, .ref b4, .ref b5, .ref b6, .int 0, .ref b7, .ref b8, .ref b9, .ref b10])), (h2, .inr (0, [.ref d0])), (d0, .inl (cy 3, 6, .inr (.inr (.inr (.inr (fun i => if i < 6 then some (rr i) else none)))))), ((rr 0), .inl (cy 0, 200, .inl (fun _ => (-1)))), ((rr 1), .inl (cy 0, 200, .inl (fun _ => (-1)))), ((rr 2), .inl (cy 0, 200, .inl (fun _ => (-1)))), ((rr 3), .inl (cy 0, 200, .inl (fun _ => (-1)))), ((rr 4), .inl (cy 0, 200, .inl (fun _ => (-1)))), ((rr 5), .inl (cy 0, 200, .inl (fun _ => (-1))))] := ef_8 ▸ hD
  refine lv_iinc (v := (2)) (lv' := [(4, .int 2), (5, .int (-1)), (0, .ref h0), (1, .ref h1), (2, .ref h2), (3, .int x)]) hx hb dX1_settle_50 hl (k := 1) rfl (by decide) (by decide) rfl (fun ls hl => ?_)
  refine lv_goto (tgt := 3) hx hb dX1_settle_53 (by decide) ?_
  refine lv_iload hx hb dX1_settle_3 (lv_at hl 0 rfl) ?_
  refine lv_bipush (v := 6) hx hb dX1_settle_5 (by decide) ?_
  refine lv_icmp_ge (tgt := 56) hx hb dX1_settle_7 (by decide) (fun h9 => absurd h9 (by decide)) (fun _ => ?_)
  refine lv_aload_n hx hb dX1_settle_10 rfl (lv_at hl 3 rfl) ?_
  refine lv_iload hx hb dX1_settle_11 (lv_at hl 0 rfl) ?_
  refine lv_aload_n hx hb dX1_settle_13 rfl (lv_at hl 2 rfl) ?_
  refine va_get (ci := 1) (v := .ref a1) (C := RX1) (T := TX1) (N := 3) hx hb hts inX1 hown hK hP 0 rfl rfl 1 (by decide) (hts _ gm_123) (fun _ h9 => h9) rfl dX1_settle_14 ?_
  refine lv_iload hx hb dX1_settle_17 (lv_at hl 0 rfl) ?_
  refine va_iald hx hb hK hP 1 0 rfl rfl (vp_in_iff.mpr (by decide)) dX1_settle_19 ?_
  refine lv_topi (fun x_9 ex_9 => ?_)
  obtain rfl : x_9 = (-1 : Int32) := ex_9
  refine gz_afti (va_runV (As := [.int 2, .int (-1)]) (rest := []) ⟨hx, hb, hml, hown, hts⟩ (c_X4_droughtOwner l G cy H.size h1 b0 b1 b2 b3 b4 b5 b6 b7 b8 b9 b10 2 (-1) 2 (-1) (by decide) (by decide)) ⟨(gz_cb (n := 2) hts gm_551 gm_10 gm_554 ⟨by decide +kernel, by decide +kernel, by decide +kernel⟩ ⟨Nat.le_of_ble_eq_true rfl, Nat.le_of_ble_eq_true rfl⟩), hts _ gm_552, hts _ gm_553⟩ (gz_preV (ci := 4) (q0 := 0) hK hov hP hD [3] (by decide) rfl rfl rfl) rfl rfl hl.1 rfl (lv_room (Nat.le_of_ble_eq_true rfl)) dX1_settle_20 ⟨Nat.le_of_ble_eq_true rfl, Nat.le_of_ble_eq_true rfl⟩) hP hD hS hA [3] [0, 1, 2, 4, 5, 6, 7, 8, 9, 10, 11] rfl rfl (by decide) (by decide) (fun r_10 u_10 H locs hw_10 hP hD hS => ?_)
  have hP : va_P G vwCl [(h0, .inr (1, [.ref a0, .ref a1, .ref a2])), (a1, .inl (cy 0, 6, .inl (fun _ => (-1)))), (a2, .inl (cy 0, 6, .inl f_8)), (h2, .inr (0, [.ref d0])), (d0, .inl (cy 3, 6, .inr (.inr (.inr (.inr (fun i => if i < 6 then some (rr i) else none)))))), ((rr 0), .inl (cy 0, 200, .inl (fun _ => (-1)))), ((rr 1), .inl (cy 0, 200, .inl (fun _ => (-1)))), ((rr 2), .inl (cy 0, 200, .inl (fun _ => (-1)))), ((rr 3), .inl (cy 0, 200, .inl (fun _ => (-1)))), ((rr 4), .inl (cy 0, 200, .inl (fun _ => (-1)))), ((rr 5), .inl (cy 0, 200, .inl (fun _ => (-1)))), (h1, .inr (4, [.int 0, .ref b0, .ref b1, .ref b2, .ref b3, .int 0, .ref b4, .ref b5, .ref b6, .int 0, .ref b7, .ref b8, .ref b9, .ref b10]))] H := hP
  have hD : va_D A [(h0, .inr (1, [.ref a0, .ref a1, .ref a2])), (a1, .inl (cy 0, 6, .inl (fun _ => (-1)))), (a2, .inl (cy 0, 6, .inl f_8)), (h2, .inr (0, [.ref d0])), (d0, .inl (cy 3, 6, .inr (.inr (.inr (.inr (fun i => if i < 6 then some (rr i) else none)))))), ((rr 0), .inl (cy 0, 200, .inl (fun _ => (-1)))), ((rr 1), .inl (cy 0, 200, .inl (fun _ => (-1)))), ((rr 2), .inl (cy 0, 200, .inl (fun _ => (-1)))), ((rr 3), .inl (cy 0, 200, .inl (fun _ => (-1)))), ((rr 4), .inl (cy 0, 200, .inl (fun _ => (-1)))), ((rr 5), .inl (cy 0, 200, .inl (fun _ => (-1)))), (h1, .inr (4, [.int 0, .ref b0, .ref b1, .ref b2, .ref b3, .int 0, .ref b4, .ref b5, .ref b6, .int 0, .ref b7, .ref b8, .ref b9, .ref b10]))] := hD
  obtain rfl := hw_10
  refine lv_istore (lv' := [(5, .int (-1)), (4, .int 2), (0, .ref h0), (1, .ref h1), (2, .ref h2), (3, .int x)]) hx hb dX1_settle_23 hl (by decide) rfl (fun ls hl => ?_)
  refine lv_aload_n hx hb dX1_settle_25 rfl (lv_at hl 2 rfl) ?_
  refine va_get (ci := 1) (v := .ref a2) (C := RX1) (T := TX1) (N := 3) hx hb hts inX1 hown hK hP 0 rfl rfl 2 (by decide) (hts _ gm_125) (fun _ h9 => h9) rfl dX1_settle_26 ?_
  refine lv_iload hx hb dX1_settle_29 (lv_at hl 1 rfl) ?_
  refine lv_iload hx hb dX1_settle_31 (lv_at hl 0 rfl) ?_
  refine lv_iconst (v := (-1)) hx hb dX1_settle_33 (by decide) ?_
  refine lv_icmp_ne (tgt := 47) hx hb dX1_settle_34 (by decide) (fun h9 => absurd (by decide) h9) (fun _ => ?_)
  refine lv_aload_n hx hb dX1_settle_37 rfl (lv_at hl 4 rfl) ?_
  refine lv_iload hx hb dX1_settle_38 (lv_at hl 1 rfl) ?_
  refine lv_iload_n hx hb dX1_settle_40 rfl (lv_at hl 5 rfl) ?_
  refine gz_afti (va_runV (As := [.int 2, .int x]) (rest := [.int 2, .ref a2]) ⟨hx, hb, hml, hown, hts⟩ (c_X0_ownerOn l G cy H.size h2 d0 rr 2 x 2 x.toInt (by decide) rfl) ⟨(gz_cb (n := 2) hts gm_555 gm_5 gm_558 ⟨by decide +kernel, by decide +kernel, by decide +kernel⟩ ⟨Nat.le_of_ble_eq_true rfl, Nat.le_of_ble_eq_true rfl⟩), hts _ gm_556, hts _ gm_557⟩ (gz_preV (ci := 0) (q0 := 0) hK hov hP hD [3, 4, 5, 6, 7, 8, 9, 10] (by decide) rfl rfl rfl) rfl rfl hl.1 rfl (lv_room (Nat.le_of_ble_eq_true rfl)) dX1_settle_41 ⟨Nat.le_of_ble_eq_true rfl, Nat.le_of_ble_eq_true rfl⟩) hP hD hS hA [3, 4, 5, 6, 7, 8, 9, 10] [0, 1, 2, 11] rfl rfl (by decide) (by decide) (fun r_11 u_11 H locs hw_11 hP hD hS => ?_)
  have hP : va_P G vwCl [(h0, .inr (1, [.ref a0, .ref a1, .ref a2])), (a1, .inl (cy 0, 6, .inl (fun _ => (-1)))), (a2, .inl (cy 0, 6, .inl f_8)), (h1, .inr (4, [.int 0, .ref b0, .ref b1, .ref b2, .ref b3, .int 0, .ref b4, .ref b5, .ref b6, .int 0, .ref b7, .ref b8, .ref b9, .ref b10])), (h2, .inr (0, [.ref d0])), (d0, .inl (cy 3, 6, .inr (.inr (.inr (.inr (fun i => if i < 6 then some (rr i) else none)))))), ((rr 0), .inl (cy 0, 200, .inl (fun _ => (-1)))), ((rr 1), .inl (cy 0, 200, .inl (fun _ => (-1)))), ((rr 2), .inl (cy 0, 200, .inl (fun _ => (-1)))), ((rr 3), .inl (cy 0, 200, .inl (fun _ => (-1)))), ((rr 4), .inl (cy 0, 200, .inl (fun _ => (-1)))), ((rr 5), .inl (cy 0, 200, .inl (fun _ => (-1))))] H := hP
  have hD : va_D A [(h0, .inr (1, [.ref a0, .ref a1, .ref a2])), (a1, .inl (cy 0, 6, .inl (fun _ => (-1)))), (a2, .inl (cy 0, 6, .inl f_8)), (h1, .inr (4, [.int 0, .ref b0, .ref b1, .ref b2, .ref b3, .int 0, .ref b4, .ref b5, .ref b6, .int 0, .ref b7, .ref b8, .ref b9, .ref b10])), (h2, .inr (0, [.ref d0])), (d0, .inl (cy 3, 6, .inr (.inr (.inr (.inr (fun i => if i < 6 then some (rr i) else none)))))), ((rr 0), .inl (cy 0, 200, .inl (fun _ => (-1)))), ((rr 1), .inl (cy 0, 200, .inl (fun _ => (-1)))), ((rr 2), .inl (cy 0, 200, .inl (fun _ => (-1)))), ((rr 3), .inl (cy 0, 200, .inl (fun _ => (-1)))), ((rr 4), .inl (cy 0, 200, .inl (fun _ => (-1)))), ((rr 5), .inl (cy 0, 200, .inl (fun _ => (-1))))] := hD
  obtain rfl := hw_11
  refine lv_goto (tgt := 49) hx hb dX1_settle_44 (by decide) ?_
  refine va_iast hx hb hK hP hD hS 2 0 rfl rfl (vp_in_iff.mpr (by decide)) dX1_settle_49 (fun H locs hP hD hS => ?_)
  obtain ⟨f_12, ef_12⟩ : ∃ g : Nat → Int32, g = upd f_8 (2 : Int32).toNatClampNeg (-1) := ⟨_, rfl⟩
  have hP : va_P G vwCl [(h0, .inr (1, [.ref a0, .ref a1, .ref a2])), (a1, .inl (cy 0, 6, .inl (fun _ => (-1)))), (a2, .inl (cy 0, 6, .inl f_12)), (h1, .inr (4, [.int 0, .ref b0, .ref b1, .ref b2, .ref b3, .int 0, .ref b4, .ref b5, .ref b6, .int 0, .ref b7, .ref b8, .ref b9, .ref b10])), (h2, .inr (0, [.ref d0])), (d0, .inl (cy 3, 6, .inr (.inr (.inr (.inr (fun i => if i < 6 then some (rr i) else none)))))), ((rr 0), .inl (cy 0, 200, .inl (fun _ => (-1)))), ((rr 1), .inl (cy 0, 200, .inl (fun _ => (-1)))), ((rr 2), .inl (cy 0, 200, .inl (fun _ => (-1)))), ((rr 3), .inl (cy 0, 200, .inl (fun _ => (-1)))), ((rr 4), .inl (cy 0, 200, .inl (fun _ => (-1)))), ((rr 5), .inl (cy 0, 200, .inl (fun _ => (-1))))] H := ef_12 ▸ hP
  have hD : va_D A [(h0, .inr (1, [.ref a0, .ref a1, .ref a2])), (a1, .inl (cy 0, 6, .inl (fun _ => (-1)))), (a2, .inl (cy 0, 6, .inl f_12)), (h1, .inr (4, [.int 0, .ref b0, .ref b1, .ref b2, .ref b3, .int 0, .ref b4, .ref b5, .ref b6, .int 0, .ref b7, .ref b8, .ref b9, .ref b10])), (h2, .inr (0, [.ref d0])), (d0, .inl (cy 3, 6, .inr (.inr (.inr (.inr (fun i => if i < 6 then some (rr i) else none)))))), ((rr 0), .inl (cy 0, 200, .inl (fun _ => (-1)))), ((rr 1), .inl (cy 0, 200, .inl (fun _ => (-1)))), ((rr 2), .inl (cy 0, 200, .inl (fun _ => (-1)))), ((rr 3), .inl (cy 0, 200, .inl (fun _ => (-1)))), ((rr 4), .inl (cy 0, 200, .inl (fun _ => (-1)))), ((rr 5), .inl (cy 0, 200, .inl (fun _ => (-1))))] := ef_12 ▸ hD
  refine lv_iinc (v := (3)) (lv' := [(4, .int 3), (5, .int (-1)), (0, .ref h0), (1, .ref h1), (2, .ref h2), (3, .int x)]) hx hb dX1_settle_50 hl (k := 1) rfl (by decide) (by decide) rfl (fun ls hl => ?_)
  refine lv_goto (tgt := 3) hx hb dX1_settle_53 (by decide) ?_
  refine lv_iload hx hb dX1_settle_3 (lv_at hl 0 rfl) ?_
  refine lv_bipush (v := 6) hx hb dX1_settle_5 (by decide) ?_
  refine lv_icmp_ge (tgt := 56) hx hb dX1_settle_7 (by decide) (fun h9 => absurd h9 (by decide)) (fun _ => ?_)
  refine lv_aload_n hx hb dX1_settle_10 rfl (lv_at hl 3 rfl) ?_
  refine lv_iload hx hb dX1_settle_11 (lv_at hl 0 rfl) ?_
  refine lv_aload_n hx hb dX1_settle_13 rfl (lv_at hl 2 rfl) ?_
  refine va_get (ci := 1) (v := .ref a1) (C := RX1) (T := TX1) (N := 3) hx hb hts inX1 hown hK hP 0 rfl rfl 1 (by decide) (hts _ gm_123) (fun _ h9 => h9) rfl dX1_settle_14 ?_
  refine lv_iload hx hb dX1_settle_17 (lv_at hl 0 rfl) ?_
  refine va_iald hx hb hK hP 1 0 rfl rfl (vp_in_iff.mpr (by decide)) dX1_settle_19 ?_
  refine lv_topi (fun x_13 ex_13 => ?_)
  obtain rfl : x_13 = (-1 : Int32) := ex_13
  refine gz_afti (va_runV (As := [.int 3, .int (-1)]) (rest := []) ⟨hx, hb, hml, hown, hts⟩ (c_X4_droughtOwner l G cy H.size h1 b0 b1 b2 b3 b4 b5 b6 b7 b8 b9 b10 3 (-1) 3 (-1) (by decide) (by decide)) ⟨(gz_cb (n := 2) hts gm_551 gm_10 gm_554 ⟨by decide +kernel, by decide +kernel, by decide +kernel⟩ ⟨Nat.le_of_ble_eq_true rfl, Nat.le_of_ble_eq_true rfl⟩), hts _ gm_552, hts _ gm_553⟩ (gz_preV (ci := 4) (q0 := 0) hK hov hP hD [3] (by decide) rfl rfl rfl) rfl rfl hl.1 rfl (lv_room (Nat.le_of_ble_eq_true rfl)) dX1_settle_20 ⟨Nat.le_of_ble_eq_true rfl, Nat.le_of_ble_eq_true rfl⟩) hP hD hS hA [3] [0, 1, 2, 4, 5, 6, 7, 8, 9, 10, 11] rfl rfl (by decide) (by decide) (fun r_14 u_14 H locs hw_14 hP hD hS => ?_)
  have hP : va_P G vwCl [(h0, .inr (1, [.ref a0, .ref a1, .ref a2])), (a1, .inl (cy 0, 6, .inl (fun _ => (-1)))), (a2, .inl (cy 0, 6, .inl f_12)), (h2, .inr (0, [.ref d0])), (d0, .inl (cy 3, 6, .inr (.inr (.inr (.inr (fun i => if i < 6 then some (rr i) else none)))))), ((rr 0), .inl (cy 0, 200, .inl (fun _ => (-1)))), ((rr 1), .inl (cy 0, 200, .inl (fun _ => (-1)))), ((rr 2), .inl (cy 0, 200, .inl (fun _ => (-1)))), ((rr 3), .inl (cy 0, 200, .inl (fun _ => (-1)))), ((rr 4), .inl (cy 0, 200, .inl (fun _ => (-1)))), ((rr 5), .inl (cy 0, 200, .inl (fun _ => (-1)))), (h1, .inr (4, [.int 0, .ref b0, .ref b1, .ref b2, .ref b3, .int 0, .ref b4, .ref b5, .ref b6, .int 0, .ref b7, .ref b8, .ref b9, .ref b10]))] H := hP
  have hD : va_D A [(h0, .inr (1, [.ref a0, .ref a1, .ref a2])), (a1, .inl (cy 0, 6, .inl (fun _ => (-1)))), (a2, .inl (cy 0, 6, .inl f_12)), (h2, .inr (0, [.ref d0])), (d0, .inl (cy 3, 6, .inr (.inr (.inr (.inr (fun i => if i < 6 then some (rr i) else none)))))), ((rr 0), .inl (cy 0, 200, .inl (fun _ => (-1)))), ((rr 1), .inl (cy 0, 200, .inl (fun _ => (-1)))), ((rr 2), .inl (cy 0, 200, .inl (fun _ => (-1)))), ((rr 3), .inl (cy 0, 200, .inl (fun _ => (-1)))), ((rr 4), .inl (cy 0, 200, .inl (fun _ => (-1)))), ((rr 5), .inl (cy 0, 200, .inl (fun _ => (-1)))), (h1, .inr (4, [.int 0, .ref b0, .ref b1, .ref b2, .ref b3, .int 0, .ref b4, .ref b5, .ref b6, .int 0, .ref b7, .ref b8, .ref b9, .ref b10]))] := hD
  obtain rfl := hw_14
  refine lv_istore (lv' := [(5, .int (-1)), (4, .int 3), (0, .ref h0), (1, .ref h1), (2, .ref h2), (3, .int x)]) hx hb dX1_settle_23 hl (by decide) rfl (fun ls hl => ?_)
  refine lv_aload_n hx hb dX1_settle_25 rfl (lv_at hl 2 rfl) ?_
  refine va_get (ci := 1) (v := .ref a2) (C := RX1) (T := TX1) (N := 3) hx hb hts inX1 hown hK hP 0 rfl rfl 2 (by decide) (hts _ gm_125) (fun _ h9 => h9) rfl dX1_settle_26 ?_
  refine lv_iload hx hb dX1_settle_29 (lv_at hl 1 rfl) ?_
  refine lv_iload hx hb dX1_settle_31 (lv_at hl 0 rfl) ?_
  refine lv_iconst (v := (-1)) hx hb dX1_settle_33 (by decide) ?_
  refine lv_icmp_ne (tgt := 47) hx hb dX1_settle_34 (by decide) (fun h9 => absurd (by decide) h9) (fun _ => ?_)
  refine lv_aload_n hx hb dX1_settle_37 rfl (lv_at hl 4 rfl) ?_
  refine lv_iload hx hb dX1_settle_38 (lv_at hl 1 rfl) ?_
  refine lv_iload_n hx hb dX1_settle_40 rfl (lv_at hl 5 rfl) ?_
  refine gz_afti (va_runV (As := [.int 3, .int x]) (rest := [.int 3, .ref a2]) ⟨hx, hb, hml, hown, hts⟩ (c_X0_ownerOn l G cy H.size h2 d0 rr 3 x 3 x.toInt (by decide) rfl) ⟨(gz_cb (n := 2) hts gm_555 gm_5 gm_558 ⟨by decide +kernel, by decide +kernel, by decide +kernel⟩ ⟨Nat.le_of_ble_eq_true rfl, Nat.le_of_ble_eq_true rfl⟩), hts _ gm_556, hts _ gm_557⟩ (gz_preV (ci := 0) (q0 := 0) hK hov hP hD [3, 4, 5, 6, 7, 8, 9, 10] (by decide) rfl rfl rfl) rfl rfl hl.1 rfl (lv_room (Nat.le_of_ble_eq_true rfl)) dX1_settle_41 ⟨Nat.le_of_ble_eq_true rfl, Nat.le_of_ble_eq_true rfl⟩) hP hD hS hA [3, 4, 5, 6, 7, 8, 9, 10] [0, 1, 2, 11] rfl rfl (by decide) (by decide) (fun r_15 u_15 H locs hw_15 hP hD hS => ?_)
  have hP : va_P G vwCl [(h0, .inr (1, [.ref a0, .ref a1, .ref a2])), (a1, .inl (cy 0, 6, .inl (fun _ => (-1)))), (a2, .inl (cy 0, 6, .inl f_12)), (h1, .inr (4, [.int 0, .ref b0, .ref b1, .ref b2, .ref b3, .int 0, .ref b4, .ref b5, .ref b6, .int 0, .ref b7, .ref b8, .ref b9, .ref b10])), (h2, .inr (0, [.ref d0])), (d0, .inl (cy 3, 6, .inr (.inr (.inr (.inr (fun i => if i < 6 then some (rr i) else none)))))), ((rr 0), .inl (cy 0, 200, .inl (fun _ => (-1)))), ((rr 1), .inl (cy 0, 200, .inl (fun _ => (-1)))), ((rr 2), .inl (cy 0, 200, .inl (fun _ => (-1)))), ((rr 3), .inl (cy 0, 200, .inl (fun _ => (-1)))), ((rr 4), .inl (cy 0, 200, .inl (fun _ => (-1)))), ((rr 5), .inl (cy 0, 200, .inl (fun _ => (-1))))] H := hP
  have hD : va_D A [(h0, .inr (1, [.ref a0, .ref a1, .ref a2])), (a1, .inl (cy 0, 6, .inl (fun _ => (-1)))), (a2, .inl (cy 0, 6, .inl f_12)), (h1, .inr (4, [.int 0, .ref b0, .ref b1, .ref b2, .ref b3, .int 0, .ref b4, .ref b5, .ref b6, .int 0, .ref b7, .ref b8, .ref b9, .ref b10])), (h2, .inr (0, [.ref d0])), (d0, .inl (cy 3, 6, .inr (.inr (.inr (.inr (fun i => if i < 6 then some (rr i) else none)))))), ((rr 0), .inl (cy 0, 200, .inl (fun _ => (-1)))), ((rr 1), .inl (cy 0, 200, .inl (fun _ => (-1)))), ((rr 2), .inl (cy 0, 200, .inl (fun _ => (-1)))), ((rr 3), .inl (cy 0, 200, .inl (fun _ => (-1)))), ((rr 4), .inl (cy 0, 200, .inl (fun _ => (-1)))), ((rr 5), .inl (cy 0, 200, .inl (fun _ => (-1))))] := hD
  obtain rfl := hw_15
  refine lv_goto (tgt := 49) hx hb dX1_settle_44 (by decide) ?_
  refine va_iast hx hb hK hP hD hS 2 0 rfl rfl (vp_in_iff.mpr (by decide)) dX1_settle_49 (fun H locs hP hD hS => ?_)
  obtain ⟨f_16, ef_16⟩ : ∃ g : Nat → Int32, g = upd f_12 (3 : Int32).toNatClampNeg (-1) := ⟨_, rfl⟩
  have hP : va_P G vwCl [(h0, .inr (1, [.ref a0, .ref a1, .ref a2])), (a1, .inl (cy 0, 6, .inl (fun _ => (-1)))), (a2, .inl (cy 0, 6, .inl f_16)), (h1, .inr (4, [.int 0, .ref b0, .ref b1, .ref b2, .ref b3, .int 0, .ref b4, .ref b5, .ref b6, .int 0, .ref b7, .ref b8, .ref b9, .ref b10])), (h2, .inr (0, [.ref d0])), (d0, .inl (cy 3, 6, .inr (.inr (.inr (.inr (fun i => if i < 6 then some (rr i) else none)))))), ((rr 0), .inl (cy 0, 200, .inl (fun _ => (-1)))), ((rr 1), .inl (cy 0, 200, .inl (fun _ => (-1)))), ((rr 2), .inl (cy 0, 200, .inl (fun _ => (-1)))), ((rr 3), .inl (cy 0, 200, .inl (fun _ => (-1)))), ((rr 4), .inl (cy 0, 200, .inl (fun _ => (-1)))), ((rr 5), .inl (cy 0, 200, .inl (fun _ => (-1))))] H := ef_16 ▸ hP
  have hD : va_D A [(h0, .inr (1, [.ref a0, .ref a1, .ref a2])), (a1, .inl (cy 0, 6, .inl (fun _ => (-1)))), (a2, .inl (cy 0, 6, .inl f_16)), (h1, .inr (4, [.int 0, .ref b0, .ref b1, .ref b2, .ref b3, .int 0, .ref b4, .ref b5, .ref b6, .int 0, .ref b7, .ref b8, .ref b9, .ref b10])), (h2, .inr (0, [.ref d0])), (d0, .inl (cy 3, 6, .inr (.inr (.inr (.inr (fun i => if i < 6 then some (rr i) else none)))))), ((rr 0), .inl (cy 0, 200, .inl (fun _ => (-1)))), ((rr 1), .inl (cy 0, 200, .inl (fun _ => (-1)))), ((rr 2), .inl (cy 0, 200, .inl (fun _ => (-1)))), ((rr 3), .inl (cy 0, 200, .inl (fun _ => (-1)))), ((rr 4), .inl (cy 0, 200, .inl (fun _ => (-1)))), ((rr 5), .inl (cy 0, 200, .inl (fun _ => (-1))))] := ef_16 ▸ hD
  refine lv_iinc (v := (4)) (lv' := [(4, .int 4), (5, .int (-1)), (0, .ref h0), (1, .ref h1), (2, .ref h2), (3, .int x)]) hx hb dX1_settle_50 hl (k := 1) rfl (by decide) (by decide) rfl (fun ls hl => ?_)
  refine lv_goto (tgt := 3) hx hb dX1_settle_53 (by decide) ?_
  refine lv_iload hx hb dX1_settle_3 (lv_at hl 0 rfl) ?_
  refine lv_bipush (v := 6) hx hb dX1_settle_5 (by decide) ?_
  refine lv_icmp_ge (tgt := 56) hx hb dX1_settle_7 (by decide) (fun h9 => absurd h9 (by decide)) (fun _ => ?_)
  refine lv_aload_n hx hb dX1_settle_10 rfl (lv_at hl 3 rfl) ?_
  refine lv_iload hx hb dX1_settle_11 (lv_at hl 0 rfl) ?_
  refine lv_aload_n hx hb dX1_settle_13 rfl (lv_at hl 2 rfl) ?_
  refine va_get (ci := 1) (v := .ref a1) (C := RX1) (T := TX1) (N := 3) hx hb hts inX1 hown hK hP 0 rfl rfl 1 (by decide) (hts _ gm_123) (fun _ h9 => h9) rfl dX1_settle_14 ?_
  refine lv_iload hx hb dX1_settle_17 (lv_at hl 0 rfl) ?_
  refine va_iald hx hb hK hP 1 0 rfl rfl (vp_in_iff.mpr (by decide)) dX1_settle_19 ?_
  refine lv_topi (fun x_17 ex_17 => ?_)
  obtain rfl : x_17 = (-1 : Int32) := ex_17
  refine gz_afti (va_runV (As := [.int 4, .int (-1)]) (rest := []) ⟨hx, hb, hml, hown, hts⟩ (c_X4_droughtOwner l G cy H.size h1 b0 b1 b2 b3 b4 b5 b6 b7 b8 b9 b10 4 (-1) 4 (-1) (by decide) (by decide)) ⟨(gz_cb (n := 2) hts gm_551 gm_10 gm_554 ⟨by decide +kernel, by decide +kernel, by decide +kernel⟩ ⟨Nat.le_of_ble_eq_true rfl, Nat.le_of_ble_eq_true rfl⟩), hts _ gm_552, hts _ gm_553⟩ (gz_preV (ci := 4) (q0 := 0) hK hov hP hD [3] (by decide) rfl rfl rfl) rfl rfl hl.1 rfl (lv_room (Nat.le_of_ble_eq_true rfl)) dX1_settle_20 ⟨Nat.le_of_ble_eq_true rfl, Nat.le_of_ble_eq_true rfl⟩) hP hD hS hA [3] [0, 1, 2, 4, 5, 6, 7, 8, 9, 10, 11] rfl rfl (by decide) (by decide) (fun r_18 u_18 H locs hw_18 hP hD hS => ?_)
  have hP : va_P G vwCl [(h0, .inr (1, [.ref a0, .ref a1, .ref a2])), (a1, .inl (cy 0, 6, .inl (fun _ => (-1)))), (a2, .inl (cy 0, 6, .inl f_16)), (h2, .inr (0, [.ref d0])), (d0, .inl (cy 3, 6, .inr (.inr (.inr (.inr (fun i => if i < 6 then some (rr i) else none)))))), ((rr 0), .inl (cy 0, 200, .inl (fun _ => (-1)))), ((rr 1), .inl (cy 0, 200, .inl (fun _ => (-1)))), ((rr 2), .inl (cy 0, 200, .inl (fun _ => (-1)))), ((rr 3), .inl (cy 0, 200, .inl (fun _ => (-1)))), ((rr 4), .inl (cy 0, 200, .inl (fun _ => (-1)))), ((rr 5), .inl (cy 0, 200, .inl (fun _ => (-1)))), (h1, .inr (4, [.int 0, .ref b0, .ref b1, .ref b2, .ref b3, .int 0, .ref b4, .ref b5, .ref b6, .int 0, .ref b7, .ref b8, .ref b9, .ref b10]))] H := hP
  have hD : va_D A [(h0, .inr (1, [.ref a0, .ref a1, .ref a2])), (a1, .inl (cy 0, 6, .inl (fun _ => (-1)))), (a2, .inl (cy 0, 6, .inl f_16)), (h2, .inr (0, [.ref d0])), (d0, .inl (cy 3, 6, .inr (.inr (.inr (.inr (fun i => if i < 6 then some (rr i) else none)))))), ((rr 0), .inl (cy 0, 200, .inl (fun _ => (-1)))), ((rr 1), .inl (cy 0, 200, .inl (fun _ => (-1)))), ((rr 2), .inl (cy 0, 200, .inl (fun _ => (-1)))), ((rr 3), .inl (cy 0, 200, .inl (fun _ => (-1)))), ((rr 4), .inl (cy 0, 200, .inl (fun _ => (-1)))), ((rr 5), .inl (cy 0, 200, .inl (fun _ => (-1)))), (h1, .inr (4, [.int 0, .ref b0, .ref b1, .ref b2, .ref b3, .int 0, .ref b4, .ref b5, .ref b6, .int 0, .ref b7, .ref b8, .ref b9, .ref b10]))] := hD
  obtain rfl := hw_18
  refine lv_istore (lv' := [(5, .int (-1)), (4, .int 4), (0, .ref h0), (1, .ref h1), (2, .ref h2), (3, .int x)]) hx hb dX1_settle_23 hl (by decide) rfl (fun ls hl => ?_)
  refine lv_aload_n hx hb dX1_settle_25 rfl (lv_at hl 2 rfl) ?_
  refine va_get (ci := 1) (v := .ref a2) (C := RX1) (T := TX1) (N := 3) hx hb hts inX1 hown hK hP 0 rfl rfl 2 (by decide) (hts _ gm_125) (fun _ h9 => h9) rfl dX1_settle_26 ?_
  refine lv_iload hx hb dX1_settle_29 (lv_at hl 1 rfl) ?_
  refine lv_iload hx hb dX1_settle_31 (lv_at hl 0 rfl) ?_
  refine lv_iconst (v := (-1)) hx hb dX1_settle_33 (by decide) ?_
  refine lv_icmp_ne (tgt := 47) hx hb dX1_settle_34 (by decide) (fun h9 => absurd (by decide) h9) (fun _ => ?_)
  refine lv_aload_n hx hb dX1_settle_37 rfl (lv_at hl 4 rfl) ?_
  refine lv_iload hx hb dX1_settle_38 (lv_at hl 1 rfl) ?_
  refine lv_iload_n hx hb dX1_settle_40 rfl (lv_at hl 5 rfl) ?_
  refine gz_afti (va_runV (As := [.int 4, .int x]) (rest := [.int 4, .ref a2]) ⟨hx, hb, hml, hown, hts⟩ (c_X0_ownerOn l G cy H.size h2 d0 rr 4 x 4 x.toInt (by decide) rfl) ⟨(gz_cb (n := 2) hts gm_555 gm_5 gm_558 ⟨by decide +kernel, by decide +kernel, by decide +kernel⟩ ⟨Nat.le_of_ble_eq_true rfl, Nat.le_of_ble_eq_true rfl⟩), hts _ gm_556, hts _ gm_557⟩ (gz_preV (ci := 0) (q0 := 0) hK hov hP hD [3, 4, 5, 6, 7, 8, 9, 10] (by decide) rfl rfl rfl) rfl rfl hl.1 rfl (lv_room (Nat.le_of_ble_eq_true rfl)) dX1_settle_41 ⟨Nat.le_of_ble_eq_true rfl, Nat.le_of_ble_eq_true rfl⟩) hP hD hS hA [3, 4, 5, 6, 7, 8, 9, 10] [0, 1, 2, 11] rfl rfl (by decide) (by decide) (fun r_19 u_19 H locs hw_19 hP hD hS => ?_)
  have hP : va_P G vwCl [(h0, .inr (1, [.ref a0, .ref a1, .ref a2])), (a1, .inl (cy 0, 6, .inl (fun _ => (-1)))), (a2, .inl (cy 0, 6, .inl f_16)), (h1, .inr (4, [.int 0, .ref b0, .ref b1, .ref b2, .ref b3, .int 0, .ref b4, .ref b5, .ref b6, .int 0, .ref b7, .ref b8, .ref b9, .ref b10])), (h2, .inr (0, [.ref d0])), (d0, .inl (cy 3, 6, .inr (.inr (.inr (.inr (fun i => if i < 6 then some (rr i) else none)))))), ((rr 0), .inl (cy 0, 200, .inl (fun _ => (-1)))), ((rr 1), .inl (cy 0, 200, .inl (fun _ => (-1)))), ((rr 2), .inl (cy 0, 200, .inl (fun _ => (-1)))), ((rr 3), .inl (cy 0, 200, .inl (fun _ => (-1)))), ((rr 4), .inl (cy 0, 200, .inl (fun _ => (-1)))), ((rr 5), .inl (cy 0, 200, .inl (fun _ => (-1))))] H := hP
  have hD : va_D A [(h0, .inr (1, [.ref a0, .ref a1, .ref a2])), (a1, .inl (cy 0, 6, .inl (fun _ => (-1)))), (a2, .inl (cy 0, 6, .inl f_16)), (h1, .inr (4, [.int 0, .ref b0, .ref b1, .ref b2, .ref b3, .int 0, .ref b4, .ref b5, .ref b6, .int 0, .ref b7, .ref b8, .ref b9, .ref b10])), (h2, .inr (0, [.ref d0])), (d0, .inl (cy 3, 6, .inr (.inr (.inr (.inr (fun i => if i < 6 then some (rr i) else none)))))), ((rr 0), .inl (cy 0, 200, .inl (fun _ => (-1)))), ((rr 1), .inl (cy 0, 200, .inl (fun _ => (-1)))), ((rr 2), .inl (cy 0, 200, .inl (fun _ => (-1)))), ((rr 3), .inl (cy 0, 200, .inl (fun _ => (-1)))), ((rr 4), .inl (cy 0, 200, .inl (fun _ => (-1)))), ((rr 5), .inl (cy 0, 200, .inl (fun _ => (-1))))] := hD
  obtain rfl := hw_19
  refine lv_goto (tgt := 49) hx hb dX1_settle_44 (by decide) ?_
  refine va_iast hx hb hK hP hD hS 2 0 rfl rfl (vp_in_iff.mpr (by decide)) dX1_settle_49 (fun H locs hP hD hS => ?_)
  obtain ⟨f_20, ef_20⟩ : ∃ g : Nat → Int32, g = upd f_16 (4 : Int32).toNatClampNeg (-1) := ⟨_, rfl⟩
  have hP : va_P G vwCl [(h0, .inr (1, [.ref a0, .ref a1, .ref a2])), (a1, .inl (cy 0, 6, .inl (fun _ => (-1)))), (a2, .inl (cy 0, 6, .inl f_20)), (h1, .inr (4, [.int 0, .ref b0, .ref b1, .ref b2, .ref b3, .int 0, .ref b4, .ref b5, .ref b6, .int 0, .ref b7, .ref b8, .ref b9, .ref b10])), (h2, .inr (0, [.ref d0])), (d0, .inl (cy 3, 6, .inr (.inr (.inr (.inr (fun i => if i < 6 then some (rr i) else none)))))), ((rr 0), .inl (cy 0, 200, .inl (fun _ => (-1)))), ((rr 1), .inl (cy 0, 200, .inl (fun _ => (-1)))), ((rr 2), .inl (cy 0, 200, .inl (fun _ => (-1)))), ((rr 3), .inl (cy 0, 200, .inl (fun _ => (-1)))), ((rr 4), .inl (cy 0, 200, .inl (fun _ => (-1)))), ((rr 5), .inl (cy 0, 200, .inl (fun _ => (-1))))] H := ef_20 ▸ hP
  have hD : va_D A [(h0, .inr (1, [.ref a0, .ref a1, .ref a2])), (a1, .inl (cy 0, 6, .inl (fun _ => (-1)))), (a2, .inl (cy 0, 6, .inl f_20)), (h1, .inr (4, [.int 0, .ref b0, .ref b1, .ref b2, .ref b3, .int 0, .ref b4, .ref b5, .ref b6, .int 0, .ref b7, .ref b8, .ref b9, .ref b10])), (h2, .inr (0, [.ref d0])), (d0, .inl (cy 3, 6, .inr (.inr (.inr (.inr (fun i => if i < 6 then some (rr i) else none)))))), ((rr 0), .inl (cy 0, 200, .inl (fun _ => (-1)))), ((rr 1), .inl (cy 0, 200, .inl (fun _ => (-1)))), ((rr 2), .inl (cy 0, 200, .inl (fun _ => (-1)))), ((rr 3), .inl (cy 0, 200, .inl (fun _ => (-1)))), ((rr 4), .inl (cy 0, 200, .inl (fun _ => (-1)))), ((rr 5), .inl (cy 0, 200, .inl (fun _ => (-1))))] := ef_20 ▸ hD
  refine lv_iinc (v := (5)) (lv' := [(4, .int 5), (5, .int (-1)), (0, .ref h0), (1, .ref h1), (2, .ref h2), (3, .int x)]) hx hb dX1_settle_50 hl (k := 1) rfl (by decide) (by decide) rfl (fun ls hl => ?_)
  refine lv_goto (tgt := 3) hx hb dX1_settle_53 (by decide) ?_
  refine lv_iload hx hb dX1_settle_3 (lv_at hl 0 rfl) ?_
  refine lv_bipush (v := 6) hx hb dX1_settle_5 (by decide) ?_
  refine lv_icmp_ge (tgt := 56) hx hb dX1_settle_7 (by decide) (fun h9 => absurd h9 (by decide)) (fun _ => ?_)
  refine lv_aload_n hx hb dX1_settle_10 rfl (lv_at hl 3 rfl) ?_
  refine lv_iload hx hb dX1_settle_11 (lv_at hl 0 rfl) ?_
  refine lv_aload_n hx hb dX1_settle_13 rfl (lv_at hl 2 rfl) ?_
  refine va_get (ci := 1) (v := .ref a1) (C := RX1) (T := TX1) (N := 3) hx hb hts inX1 hown hK hP 0 rfl rfl 1 (by decide) (hts _ gm_123) (fun _ h9 => h9) rfl dX1_settle_14 ?_
  refine lv_iload hx hb dX1_settle_17 (lv_at hl 0 rfl) ?_
  refine va_iald hx hb hK hP 1 0 rfl rfl (vp_in_iff.mpr (by decide)) dX1_settle_19 ?_
  refine lv_topi (fun x_21 ex_21 => ?_)
  obtain rfl : x_21 = (-1 : Int32) := ex_21
  refine gz_afti (va_runV (As := [.int 5, .int (-1)]) (rest := []) ⟨hx, hb, hml, hown, hts⟩ (c_X4_droughtOwner l G cy H.size h1 b0 b1 b2 b3 b4 b5 b6 b7 b8 b9 b10 5 (-1) 5 (-1) (by decide) (by decide)) ⟨(gz_cb (n := 2) hts gm_551 gm_10 gm_554 ⟨by decide +kernel, by decide +kernel, by decide +kernel⟩ ⟨Nat.le_of_ble_eq_true rfl, Nat.le_of_ble_eq_true rfl⟩), hts _ gm_552, hts _ gm_553⟩ (gz_preV (ci := 4) (q0 := 0) hK hov hP hD [3] (by decide) rfl rfl rfl) rfl rfl hl.1 rfl (lv_room (Nat.le_of_ble_eq_true rfl)) dX1_settle_20 ⟨Nat.le_of_ble_eq_true rfl, Nat.le_of_ble_eq_true rfl⟩) hP hD hS hA [3] [0, 1, 2, 4, 5, 6, 7, 8, 9, 10, 11] rfl rfl (by decide) (by decide) (fun r_22 u_22 H locs hw_22 hP hD hS => ?_)
  have hP : va_P G vwCl [(h0, .inr (1, [.ref a0, .ref a1, .ref a2])), (a1, .inl (cy 0, 6, .inl (fun _ => (-1)))), (a2, .inl (cy 0, 6, .inl f_20)), (h2, .inr (0, [.ref d0])), (d0, .inl (cy 3, 6, .inr (.inr (.inr (.inr (fun i => if i < 6 then some (rr i) else none)))))), ((rr 0), .inl (cy 0, 200, .inl (fun _ => (-1)))), ((rr 1), .inl (cy 0, 200, .inl (fun _ => (-1)))), ((rr 2), .inl (cy 0, 200, .inl (fun _ => (-1)))), ((rr 3), .inl (cy 0, 200, .inl (fun _ => (-1)))), ((rr 4), .inl (cy 0, 200, .inl (fun _ => (-1)))), ((rr 5), .inl (cy 0, 200, .inl (fun _ => (-1)))), (h1, .inr (4, [.int 0, .ref b0, .ref b1, .ref b2, .ref b3, .int 0, .ref b4, .ref b5, .ref b6, .int 0, .ref b7, .ref b8, .ref b9, .ref b10]))] H := hP
  have hD : va_D A [(h0, .inr (1, [.ref a0, .ref a1, .ref a2])), (a1, .inl (cy 0, 6, .inl (fun _ => (-1)))), (a2, .inl (cy 0, 6, .inl f_20)), (h2, .inr (0, [.ref d0])), (d0, .inl (cy 3, 6, .inr (.inr (.inr (.inr (fun i => if i < 6 then some (rr i) else none)))))), ((rr 0), .inl (cy 0, 200, .inl (fun _ => (-1)))), ((rr 1), .inl (cy 0, 200, .inl (fun _ => (-1)))), ((rr 2), .inl (cy 0, 200, .inl (fun _ => (-1)))), ((rr 3), .inl (cy 0, 200, .inl (fun _ => (-1)))), ((rr 4), .inl (cy 0, 200, .inl (fun _ => (-1)))), ((rr 5), .inl (cy 0, 200, .inl (fun _ => (-1)))), (h1, .inr (4, [.int 0, .ref b0, .ref b1, .ref b2, .ref b3, .int 0, .ref b4, .ref b5, .ref b6, .int 0, .ref b7, .ref b8, .ref b9, .ref b10]))] := hD
  obtain rfl := hw_22
  refine lv_istore (lv' := [(5, .int (-1)), (4, .int 5), (0, .ref h0), (1, .ref h1), (2, .ref h2), (3, .int x)]) hx hb dX1_settle_23 hl (by decide) rfl (fun ls hl => ?_)
  refine lv_aload_n hx hb dX1_settle_25 rfl (lv_at hl 2 rfl) ?_
  refine va_get (ci := 1) (v := .ref a2) (C := RX1) (T := TX1) (N := 3) hx hb hts inX1 hown hK hP 0 rfl rfl 2 (by decide) (hts _ gm_125) (fun _ h9 => h9) rfl dX1_settle_26 ?_
  refine lv_iload hx hb dX1_settle_29 (lv_at hl 1 rfl) ?_
  refine lv_iload hx hb dX1_settle_31 (lv_at hl 0 rfl) ?_
  refine lv_iconst (v := (-1)) hx hb dX1_settle_33 (by decide) ?_
  refine lv_icmp_ne (tgt := 47) hx hb dX1_settle_34 (by decide) (fun h9 => absurd (by decide) h9) (fun _ => ?_)
  refine lv_aload_n hx hb dX1_settle_37 rfl (lv_at hl 4 rfl) ?_
  refine lv_iload hx hb dX1_settle_38 (lv_at hl 1 rfl) ?_
  refine lv_iload_n hx hb dX1_settle_40 rfl (lv_at hl 5 rfl) ?_
  refine gz_afti (va_runV (As := [.int 5, .int x]) (rest := [.int 5, .ref a2]) ⟨hx, hb, hml, hown, hts⟩ (c_X0_ownerOn l G cy H.size h2 d0 rr 5 x 5 x.toInt (by decide) rfl) ⟨(gz_cb (n := 2) hts gm_555 gm_5 gm_558 ⟨by decide +kernel, by decide +kernel, by decide +kernel⟩ ⟨Nat.le_of_ble_eq_true rfl, Nat.le_of_ble_eq_true rfl⟩), hts _ gm_556, hts _ gm_557⟩ (gz_preV (ci := 0) (q0 := 0) hK hov hP hD [3, 4, 5, 6, 7, 8, 9, 10] (by decide) rfl rfl rfl) rfl rfl hl.1 rfl (lv_room (Nat.le_of_ble_eq_true rfl)) dX1_settle_41 ⟨Nat.le_of_ble_eq_true rfl, Nat.le_of_ble_eq_true rfl⟩) hP hD hS hA [3, 4, 5, 6, 7, 8, 9, 10] [0, 1, 2, 11] rfl rfl (by decide) (by decide) (fun r_23 u_23 H locs hw_23 hP hD hS => ?_)
  have hP : va_P G vwCl [(h0, .inr (1, [.ref a0, .ref a1, .ref a2])), (a1, .inl (cy 0, 6, .inl (fun _ => (-1)))), (a2, .inl (cy 0, 6, .inl f_20)), (h1, .inr (4, [.int 0, .ref b0, .ref b1, .ref b2, .ref b3, .int 0, .ref b4, .ref b5, .ref b6, .int 0, .ref b7, .ref b8, .ref b9, .ref b10])), (h2, .inr (0, [.ref d0])), (d0, .inl (cy 3, 6, .inr (.inr (.inr (.inr (fun i => if i < 6 then some (rr i) else none)))))), ((rr 0), .inl (cy 0, 200, .inl (fun _ => (-1)))), ((rr 1), .inl (cy 0, 200, .inl (fun _ => (-1)))), ((rr 2), .inl (cy 0, 200, .inl (fun _ => (-1)))), ((rr 3), .inl (cy 0, 200, .inl (fun _ => (-1)))), ((rr 4), .inl (cy 0, 200, .inl (fun _ => (-1)))), ((rr 5), .inl (cy 0, 200, .inl (fun _ => (-1))))] H := hP
  have hD : va_D A [(h0, .inr (1, [.ref a0, .ref a1, .ref a2])), (a1, .inl (cy 0, 6, .inl (fun _ => (-1)))), (a2, .inl (cy 0, 6, .inl f_20)), (h1, .inr (4, [.int 0, .ref b0, .ref b1, .ref b2, .ref b3, .int 0, .ref b4, .ref b5, .ref b6, .int 0, .ref b7, .ref b8, .ref b9, .ref b10])), (h2, .inr (0, [.ref d0])), (d0, .inl (cy 3, 6, .inr (.inr (.inr (.inr (fun i => if i < 6 then some (rr i) else none)))))), ((rr 0), .inl (cy 0, 200, .inl (fun _ => (-1)))), ((rr 1), .inl (cy 0, 200, .inl (fun _ => (-1)))), ((rr 2), .inl (cy 0, 200, .inl (fun _ => (-1)))), ((rr 3), .inl (cy 0, 200, .inl (fun _ => (-1)))), ((rr 4), .inl (cy 0, 200, .inl (fun _ => (-1)))), ((rr 5), .inl (cy 0, 200, .inl (fun _ => (-1))))] := hD
  obtain rfl := hw_23
  refine lv_goto (tgt := 49) hx hb dX1_settle_44 (by decide) ?_
  refine va_iast hx hb hK hP hD hS 2 0 rfl rfl (vp_in_iff.mpr (by decide)) dX1_settle_49 (fun H locs hP hD hS => ?_)
  obtain ⟨f_24, ef_24⟩ : ∃ g : Nat → Int32, g = upd f_20 (5 : Int32).toNatClampNeg (-1) := ⟨_, rfl⟩
  have hP : va_P G vwCl [(h0, .inr (1, [.ref a0, .ref a1, .ref a2])), (a1, .inl (cy 0, 6, .inl (fun _ => (-1)))), (a2, .inl (cy 0, 6, .inl f_24)), (h1, .inr (4, [.int 0, .ref b0, .ref b1, .ref b2, .ref b3, .int 0, .ref b4, .ref b5, .ref b6, .int 0, .ref b7, .ref b8, .ref b9, .ref b10])), (h2, .inr (0, [.ref d0])), (d0, .inl (cy 3, 6, .inr (.inr (.inr (.inr (fun i => if i < 6 then some (rr i) else none)))))), ((rr 0), .inl (cy 0, 200, .inl (fun _ => (-1)))), ((rr 1), .inl (cy 0, 200, .inl (fun _ => (-1)))), ((rr 2), .inl (cy 0, 200, .inl (fun _ => (-1)))), ((rr 3), .inl (cy 0, 200, .inl (fun _ => (-1)))), ((rr 4), .inl (cy 0, 200, .inl (fun _ => (-1)))), ((rr 5), .inl (cy 0, 200, .inl (fun _ => (-1))))] H := ef_24 ▸ hP
  have hD : va_D A [(h0, .inr (1, [.ref a0, .ref a1, .ref a2])), (a1, .inl (cy 0, 6, .inl (fun _ => (-1)))), (a2, .inl (cy 0, 6, .inl f_24)), (h1, .inr (4, [.int 0, .ref b0, .ref b1, .ref b2, .ref b3, .int 0, .ref b4, .ref b5, .ref b6, .int 0, .ref b7, .ref b8, .ref b9, .ref b10])), (h2, .inr (0, [.ref d0])), (d0, .inl (cy 3, 6, .inr (.inr (.inr (.inr (fun i => if i < 6 then some (rr i) else none)))))), ((rr 0), .inl (cy 0, 200, .inl (fun _ => (-1)))), ((rr 1), .inl (cy 0, 200, .inl (fun _ => (-1)))), ((rr 2), .inl (cy 0, 200, .inl (fun _ => (-1)))), ((rr 3), .inl (cy 0, 200, .inl (fun _ => (-1)))), ((rr 4), .inl (cy 0, 200, .inl (fun _ => (-1)))), ((rr 5), .inl (cy 0, 200, .inl (fun _ => (-1))))] := ef_24 ▸ hD
  refine lv_iinc (v := (6)) (lv' := [(4, .int 6), (5, .int (-1)), (0, .ref h0), (1, .ref h1), (2, .ref h2), (3, .int x)]) hx hb dX1_settle_50 hl (k := 1) rfl (by decide) (by decide) rfl (fun ls hl => ?_)
  refine lv_goto (tgt := 3) hx hb dX1_settle_53 (by decide) ?_
  refine lv_iload hx hb dX1_settle_3 (lv_at hl 0 rfl) ?_
  refine lv_bipush (v := 6) hx hb dX1_settle_5 (by decide) ?_
  refine lv_icmp_ge (tgt := 56) hx hb dX1_settle_7 (by decide) (fun _ => ?_) (fun h9 => absurd (by decide) h9)
  exact gz_vret (cf := (fun (u : Nat → Int32) => [(h0, .inr (1, [.ref a0, .ref a1, .ref a2])), (a1, .inl (cy 0, 6, .inl (fun _ => (-1)))), (a2, .inl (cy 0, 6, .inl u)), (h1, .inr (4, [.int 0, .ref b0, .ref b1, .ref b2, .ref b3, .int 0, .ref b4, .ref b5, .ref b6, .int 0, .ref b7, .ref b8, .ref b9, .ref b10])), (h2, .inr (0, [.ref d0])), (d0, .inl (cy 3, 6, .inr (.inr (.inr (.inr (fun i => if i < 6 then some (rr i) else none)))))), ((rr 0), .inl (cy 0, 200, .inl (fun _ => (-1)))), ((rr 1), .inl (cy 0, 200, .inl (fun _ => (-1)))), ((rr 2), .inl (cy 0, 200, .inl (fun _ => (-1)))), ((rr 3), .inl (cy 0, 200, .inl (fun _ => (-1)))), ((rr 4), .inl (cy 0, 200, .inl (fun _ => (-1)))), ((rr 5), .inl (cy 0, 200, .inl (fun _ => (-1))))])) (post := (fun (u : Nat → Int32) => True)) hx hb hr hlocks hK hP hD hS f_24 [0, 1, 2, 3, 4, 5, 6, 7, 8, 9, 10, 11] trivial (by decide) rfl (Nat.le_of_ble_eq_true rfl) (Nat.le_of_ble_eq_true rfl) dX1_settle_56

set_option maxHeartbeats 4000000 in
set_option maxRecDepth 100000 in
/-- WellCourt$Day.grow -/
theorem c_X1_grow (l : Launch) (G : va_G) (cy : Nat → ClassId) (sz : Nat) (h0 : Nat) (a0 : Nat) (a1 : Nat) (a2 : Nat) (h1 : Nat) (h2 : Nat) (b0 : Nat) (b1 : Nat) (b2 : Nat)  : gMv l yX1_grow cX1_grow 4 ({ frames := 1, cells := 0, slots := 0, locals := 21 }) G cy sz [.ref h0, .ref h1, .ref h2] [(h0, .inr (1, [.ref a0, .ref a1, .ref a2])), (h2, .inr (3, [.ref b0, .ref b1, .ref b2])), (b0, .inl (cy 0, 6, .inl (fun _ => 0)))] (fun (u : Unit) => True) (fun (u : Unit) => [(h0, .inr (1, [.ref a0, .ref a1, .ref a2])), (h2, .inr (3, [.ref b0, .ref b1, .ref b2])), (b0, .inl (cy 0, 6, .inl (fun _ => 0)))]) := by
  refine gz_start (fun A => gQv G cy _ _ A) (by decide) (Nat.le_of_ble_eq_true rfl) ?_
  intro p e s m below meth c A ls H hx hb hr hml hlocks hin hown hts hK hov hsz hP hD hS hA hl
  have hl : lv_has ls 4 [(0, .ref h0), (1, .ref h1), (2, .ref h2)] := hl
  refine lv_iconst (v := 0) hx hb dX1_grow_0 (by decide) ?_
  refine lv_istore_n (lv' := [(3, .int 0), (0, .ref h0), (1, .ref h1), (2, .ref h2)]) hx hb dX1_grow_1 rfl hl (by decide) rfl (fun ls hl => ?_)
  refine lv_iload_n hx hb dX1_grow_2 rfl (lv_at hl 0 rfl) ?_
  refine lv_bipush (v := 6) hx hb dX1_grow_3 (by decide) ?_
  refine lv_icmp_ge (tgt := 62) hx hb dX1_grow_5 (by decide) (fun h9 => absurd h9 (by decide)) (fun _ => ?_)
  refine lv_aload_n hx hb dX1_grow_8 rfl (lv_at hl 3 rfl) ?_
  refine lv_iload_n hx hb dX1_grow_9 rfl (lv_at hl 0 rfl) ?_
  refine gz_afti (va_runV (As := [.int 0]) (rest := []) ⟨hx, hb, hml, hown, hts⟩ (c_X3_isThere l G cy H.size h2 b0 b1 b2 0 0 (by decide) (by first | decide | omega) (by first | decide | omega)) ⟨(gz_cb (n := 1) hts gm_579 gm_4 gm_350 ⟨by decide +kernel, by decide +kernel, by decide +kernel⟩ ⟨Nat.le_of_ble_eq_true rfl, Nat.le_of_ble_eq_true rfl⟩), hts _ gm_348, hts _ gm_349⟩ (gz_preV (ci := 3) (q0 := 0) hK hov hP hD [1, 2] (by decide) rfl rfl rfl) rfl rfl hl.1 rfl (lv_room (Nat.le_of_ble_eq_true rfl)) dX1_grow_10 ⟨Nat.le_of_ble_eq_true rfl, Nat.le_of_ble_eq_true rfl⟩) hP hD hS hA [1, 2] [0] rfl rfl (by decide) (by decide) (fun r_1 u_1 H locs hw_1 hP hD hS => ?_)
  have hP : va_P G vwCl [(h0, .inr (1, [.ref a0, .ref a1, .ref a2])), (h2, .inr (3, [.ref b0, .ref b1, .ref b2])), (b0, .inl (cy 0, 6, .inl (fun _ => 0)))] H := hP
  have hD : va_D A [(h0, .inr (1, [.ref a0, .ref a1, .ref a2])), (h2, .inr (3, [.ref b0, .ref b1, .ref b2])), (b0, .inl (cy 0, 6, .inl (fun _ => 0)))] := hD
  obtain rfl := hw_1
  refine lv_if_eq (tgt := 56) hx hb dX1_grow_13 (by decide) (fun _ => ?_) (fun h9 => absurd (by decide) h9)
  refine lv_iinc (v := (1)) (lv' := [(3, .int 1), (0, .ref h0), (1, .ref h1), (2, .ref h2)]) hx hb dX1_grow_56 hl (k := 0) rfl (by decide) (by decide) rfl (fun ls hl => ?_)
  refine lv_goto (tgt := 2) hx hb dX1_grow_59 (by decide) ?_
  refine lv_iload_n hx hb dX1_grow_2 rfl (lv_at hl 0 rfl) ?_
  refine lv_bipush (v := 6) hx hb dX1_grow_3 (by decide) ?_
  refine lv_icmp_ge (tgt := 62) hx hb dX1_grow_5 (by decide) (fun h9 => absurd h9 (by decide)) (fun _ => ?_)
  refine lv_aload_n hx hb dX1_grow_8 rfl (lv_at hl 3 rfl) ?_
  refine lv_iload_n hx hb dX1_grow_9 rfl (lv_at hl 0 rfl) ?_
  refine gz_afti (va_runV (As := [.int 1]) (rest := []) ⟨hx, hb, hml, hown, hts⟩ (c_X3_isThere l G cy H.size h2 b0 b1 b2 1 1 (by decide) (by first | decide | omega) (by first | decide | omega)) ⟨(gz_cb (n := 1) hts gm_579 gm_4 gm_350 ⟨by decide +kernel, by decide +kernel, by decide +kernel⟩ ⟨Nat.le_of_ble_eq_true rfl, Nat.le_of_ble_eq_true rfl⟩), hts _ gm_348, hts _ gm_349⟩ (gz_preV (ci := 3) (q0 := 0) hK hov hP hD [1, 2] (by decide) rfl rfl rfl) rfl rfl hl.1 rfl (lv_room (Nat.le_of_ble_eq_true rfl)) dX1_grow_10 ⟨Nat.le_of_ble_eq_true rfl, Nat.le_of_ble_eq_true rfl⟩) hP hD hS hA [1, 2] [0] rfl rfl (by decide) (by decide) (fun r_2 u_2 H locs hw_2 hP hD hS => ?_)
  have hP : va_P G vwCl [(h0, .inr (1, [.ref a0, .ref a1, .ref a2])), (h2, .inr (3, [.ref b0, .ref b1, .ref b2])), (b0, .inl (cy 0, 6, .inl (fun _ => 0)))] H := hP
  have hD : va_D A [(h0, .inr (1, [.ref a0, .ref a1, .ref a2])), (h2, .inr (3, [.ref b0, .ref b1, .ref b2])), (b0, .inl (cy 0, 6, .inl (fun _ => 0)))] := hD
  obtain rfl := hw_2
  refine lv_if_eq (tgt := 56) hx hb dX1_grow_13 (by decide) (fun _ => ?_) (fun h9 => absurd (by decide) h9)
  refine lv_iinc (v := (2)) (lv' := [(3, .int 2), (0, .ref h0), (1, .ref h1), (2, .ref h2)]) hx hb dX1_grow_56 hl (k := 0) rfl (by decide) (by decide) rfl (fun ls hl => ?_)
  refine lv_goto (tgt := 2) hx hb dX1_grow_59 (by decide) ?_
  refine lv_iload_n hx hb dX1_grow_2 rfl (lv_at hl 0 rfl) ?_
  refine lv_bipush (v := 6) hx hb dX1_grow_3 (by decide) ?_
  refine lv_icmp_ge (tgt := 62) hx hb dX1_grow_5 (by decide) (fun h9 => absurd h9 (by decide)) (fun _ => ?_)
  refine lv_aload_n hx hb dX1_grow_8 rfl (lv_at hl 3 rfl) ?_
  refine lv_iload_n hx hb dX1_grow_9 rfl (lv_at hl 0 rfl) ?_
  refine gz_afti (va_runV (As := [.int 2]) (rest := []) ⟨hx, hb, hml, hown, hts⟩ (c_X3_isThere l G cy H.size h2 b0 b1 b2 2 2 (by decide) (by first | decide | omega) (by first | decide | omega)) ⟨(gz_cb (n := 1) hts gm_579 gm_4 gm_350 ⟨by decide +kernel, by decide +kernel, by decide +kernel⟩ ⟨Nat.le_of_ble_eq_true rfl, Nat.le_of_ble_eq_true rfl⟩), hts _ gm_348, hts _ gm_349⟩ (gz_preV (ci := 3) (q0 := 0) hK hov hP hD [1, 2] (by decide) rfl rfl rfl) rfl rfl hl.1 rfl (lv_room (Nat.le_of_ble_eq_true rfl)) dX1_grow_10 ⟨Nat.le_of_ble_eq_true rfl, Nat.le_of_ble_eq_true rfl⟩) hP hD hS hA [1, 2] [0] rfl rfl (by decide) (by decide) (fun r_3 u_3 H locs hw_3 hP hD hS => ?_)
  have hP : va_P G vwCl [(h0, .inr (1, [.ref a0, .ref a1, .ref a2])), (h2, .inr (3, [.ref b0, .ref b1, .ref b2])), (b0, .inl (cy 0, 6, .inl (fun _ => 0)))] H := hP
  have hD : va_D A [(h0, .inr (1, [.ref a0, .ref a1, .ref a2])), (h2, .inr (3, [.ref b0, .ref b1, .ref b2])), (b0, .inl (cy 0, 6, .inl (fun _ => 0)))] := hD
  obtain rfl := hw_3
  refine lv_if_eq (tgt := 56) hx hb dX1_grow_13 (by decide) (fun _ => ?_) (fun h9 => absurd (by decide) h9)
  refine lv_iinc (v := (3)) (lv' := [(3, .int 3), (0, .ref h0), (1, .ref h1), (2, .ref h2)]) hx hb dX1_grow_56 hl (k := 0) rfl (by decide) (by decide) rfl (fun ls hl => ?_)
  refine lv_goto (tgt := 2) hx hb dX1_grow_59 (by decide) ?_
  refine lv_iload_n hx hb dX1_grow_2 rfl (lv_at hl 0 rfl) ?_
  refine lv_bipush (v := 6) hx hb dX1_grow_3 (by decide) ?_
  refine lv_icmp_ge (tgt := 62) hx hb dX1_grow_5 (by decide) (fun h9 => absurd h9 (by decide)) (fun _ => ?_)
  refine lv_aload_n hx hb dX1_grow_8 rfl (lv_at hl 3 rfl) ?_
  refine lv_iload_n hx hb dX1_grow_9 rfl (lv_at hl 0 rfl) ?_
  refine gz_afti (va_runV (As := [.int 3]) (rest := []) ⟨hx, hb, hml, hown, hts⟩ (c_X3_isThere l G cy H.size h2 b0 b1 b2 3 3 (by decide) (by first | decide | omega) (by first | decide | omega)) ⟨(gz_cb (n := 1) hts gm_579 gm_4 gm_350 ⟨by decide +kernel, by decide +kernel, by decide +kernel⟩ ⟨Nat.le_of_ble_eq_true rfl, Nat.le_of_ble_eq_true rfl⟩), hts _ gm_348, hts _ gm_349⟩ (gz_preV (ci := 3) (q0 := 0) hK hov hP hD [1, 2] (by decide) rfl rfl rfl) rfl rfl hl.1 rfl (lv_room (Nat.le_of_ble_eq_true rfl)) dX1_grow_10 ⟨Nat.le_of_ble_eq_true rfl, Nat.le_of_ble_eq_true rfl⟩) hP hD hS hA [1, 2] [0] rfl rfl (by decide) (by decide) (fun r_4 u_4 H locs hw_4 hP hD hS => ?_)
  have hP : va_P G vwCl [(h0, .inr (1, [.ref a0, .ref a1, .ref a2])), (h2, .inr (3, [.ref b0, .ref b1, .ref b2])), (b0, .inl (cy 0, 6, .inl (fun _ => 0)))] H := hP
  have hD : va_D A [(h0, .inr (1, [.ref a0, .ref a1, .ref a2])), (h2, .inr (3, [.ref b0, .ref b1, .ref b2])), (b0, .inl (cy 0, 6, .inl (fun _ => 0)))] := hD
  obtain rfl := hw_4
  refine lv_if_eq (tgt := 56) hx hb dX1_grow_13 (by decide) (fun _ => ?_) (fun h9 => absurd (by decide) h9)
  refine lv_iinc (v := (4)) (lv' := [(3, .int 4), (0, .ref h0), (1, .ref h1), (2, .ref h2)]) hx hb dX1_grow_56 hl (k := 0) rfl (by decide) (by decide) rfl (fun ls hl => ?_)
  refine lv_goto (tgt := 2) hx hb dX1_grow_59 (by decide) ?_
  refine lv_iload_n hx hb dX1_grow_2 rfl (lv_at hl 0 rfl) ?_
  refine lv_bipush (v := 6) hx hb dX1_grow_3 (by decide) ?_
  refine lv_icmp_ge (tgt := 62) hx hb dX1_grow_5 (by decide) (fun h9 => absurd h9 (by decide)) (fun _ => ?_)
  refine lv_aload_n hx hb dX1_grow_8 rfl (lv_at hl 3 rfl) ?_
  refine lv_iload_n hx hb dX1_grow_9 rfl (lv_at hl 0 rfl) ?_
  refine gz_afti (va_runV (As := [.int 4]) (rest := []) ⟨hx, hb, hml, hown, hts⟩ (c_X3_isThere l G cy H.size h2 b0 b1 b2 4 4 (by decide) (by first | decide | omega) (by first | decide | omega)) ⟨(gz_cb (n := 1) hts gm_579 gm_4 gm_350 ⟨by decide +kernel, by decide +kernel, by decide +kernel⟩ ⟨Nat.le_of_ble_eq_true rfl, Nat.le_of_ble_eq_true rfl⟩), hts _ gm_348, hts _ gm_349⟩ (gz_preV (ci := 3) (q0 := 0) hK hov hP hD [1, 2] (by decide) rfl rfl rfl) rfl rfl hl.1 rfl (lv_room (Nat.le_of_ble_eq_true rfl)) dX1_grow_10 ⟨Nat.le_of_ble_eq_true rfl, Nat.le_of_ble_eq_true rfl⟩) hP hD hS hA [1, 2] [0] rfl rfl (by decide) (by decide) (fun r_5 u_5 H locs hw_5 hP hD hS => ?_)
  have hP : va_P G vwCl [(h0, .inr (1, [.ref a0, .ref a1, .ref a2])), (h2, .inr (3, [.ref b0, .ref b1, .ref b2])), (b0, .inl (cy 0, 6, .inl (fun _ => 0)))] H := hP
  have hD : va_D A [(h0, .inr (1, [.ref a0, .ref a1, .ref a2])), (h2, .inr (3, [.ref b0, .ref b1, .ref b2])), (b0, .inl (cy 0, 6, .inl (fun _ => 0)))] := hD
  obtain rfl := hw_5
  refine lv_if_eq (tgt := 56) hx hb dX1_grow_13 (by decide) (fun _ => ?_) (fun h9 => absurd (by decide) h9)
  refine lv_iinc (v := (5)) (lv' := [(3, .int 5), (0, .ref h0), (1, .ref h1), (2, .ref h2)]) hx hb dX1_grow_56 hl (k := 0) rfl (by decide) (by decide) rfl (fun ls hl => ?_)
  refine lv_goto (tgt := 2) hx hb dX1_grow_59 (by decide) ?_
  refine lv_iload_n hx hb dX1_grow_2 rfl (lv_at hl 0 rfl) ?_
  refine lv_bipush (v := 6) hx hb dX1_grow_3 (by decide) ?_
  refine lv_icmp_ge (tgt := 62) hx hb dX1_grow_5 (by decide) (fun h9 => absurd h9 (by decide)) (fun _ => ?_)
  refine lv_aload_n hx hb dX1_grow_8 rfl (lv_at hl 3 rfl) ?_
  refine lv_iload_n hx hb dX1_grow_9 rfl (lv_at hl 0 rfl) ?_
  refine gz_afti (va_runV (As := [.int 5]) (rest := []) ⟨hx, hb, hml, hown, hts⟩ (c_X3_isThere l G cy H.size h2 b0 b1 b2 5 5 (by decide) (by first | decide | omega) (by first | decide | omega)) ⟨(gz_cb (n := 1) hts gm_579 gm_4 gm_350 ⟨by decide +kernel, by decide +kernel, by decide +kernel⟩ ⟨Nat.le_of_ble_eq_true rfl, Nat.le_of_ble_eq_true rfl⟩), hts _ gm_348, hts _ gm_349⟩ (gz_preV (ci := 3) (q0 := 0) hK hov hP hD [1, 2] (by decide) rfl rfl rfl) rfl rfl hl.1 rfl (lv_room (Nat.le_of_ble_eq_true rfl)) dX1_grow_10 ⟨Nat.le_of_ble_eq_true rfl, Nat.le_of_ble_eq_true rfl⟩) hP hD hS hA [1, 2] [0] rfl rfl (by decide) (by decide) (fun r_6 u_6 H locs hw_6 hP hD hS => ?_)
  have hP : va_P G vwCl [(h0, .inr (1, [.ref a0, .ref a1, .ref a2])), (h2, .inr (3, [.ref b0, .ref b1, .ref b2])), (b0, .inl (cy 0, 6, .inl (fun _ => 0)))] H := hP
  have hD : va_D A [(h0, .inr (1, [.ref a0, .ref a1, .ref a2])), (h2, .inr (3, [.ref b0, .ref b1, .ref b2])), (b0, .inl (cy 0, 6, .inl (fun _ => 0)))] := hD
  obtain rfl := hw_6
  refine lv_if_eq (tgt := 56) hx hb dX1_grow_13 (by decide) (fun _ => ?_) (fun h9 => absurd (by decide) h9)
  refine lv_iinc (v := (6)) (lv' := [(3, .int 6), (0, .ref h0), (1, .ref h1), (2, .ref h2)]) hx hb dX1_grow_56 hl (k := 0) rfl (by decide) (by decide) rfl (fun ls hl => ?_)
  refine lv_goto (tgt := 2) hx hb dX1_grow_59 (by decide) ?_
  refine lv_iload_n hx hb dX1_grow_2 rfl (lv_at hl 0 rfl) ?_
  refine lv_bipush (v := 6) hx hb dX1_grow_3 (by decide) ?_
  refine lv_icmp_ge (tgt := 62) hx hb dX1_grow_5 (by decide) (fun _ => ?_) (fun h9 => absurd (by decide) h9)
  exact gz_vret (cf := (fun (u : Unit) => [(h0, .inr (1, [.ref a0, .ref a1, .ref a2])), (h2, .inr (3, [.ref b0, .ref b1, .ref b2])), (b0, .inl (cy 0, 6, .inl (fun _ => 0)))])) (post := (fun (u : Unit) => True)) hx hb hr hlocks hK hP hD hS () [0, 1, 2] trivial (by decide) rfl (Nat.le_of_ble_eq_true rfl) (Nat.le_of_ble_eq_true rfl) dX1_grow_62

set_option maxHeartbeats 4000000 in
set_option maxRecDepth 100000 in
/-- WellCourt.settleToday -/
theorem c_settleToday (l : Launch) (G : va_G) (cy : Nat → ClassId) (sz : Nat) (h0 : Nat) (g0 : Nat) (g1 : Nat) (g2 : Nat) (g3 : Nat) (g4 : Nat) (g5 : Nat) (g6 : Nat) (g7 : Nat) (g8 : Nat) (g9 : Nat) (z : Int32) (g14 : Nat) (g15 : Nat) (g16 : Nat) (g17 : Nat) (g24 : Nat) (g25 : Nat) (g26 : Nat) (g27 : Nat) (g28 : Nat) (g29 : Nat) (g30 : Nat) (g31 : Nat) (g32 : Nat) (g33 : Nat) (g34 : Nat) (rO : Nat → Nat) (x : Int32) (Xx : Int) (kx : x.toInt = Xx) : gMv l yX9_settleToday cX9_settleToday 1 ({ frames := 3, cells := 0, slots := 0, locals := 67 }) G cy sz [.ref h0] [(h0, .inr (9, [.ref g0, .ref g1, .ref g2, .ref g3, .ref g4, .ref g5, .ref g6, .ref g7, .ref g8, .ref g9, .int x, .int z])), (g7, .inr (4, [.int 0, .ref g24, .ref g25, .ref g26, .ref g27, .int 0, .ref g28, .ref g29, .ref g30, .int 0, .ref g31, .ref g32, .ref g33, .ref g34])), (g4, .inr (1, [.ref g15, .ref g16, .ref g17])), (g16, .inl (cy 0, 6, .inl (fun _ => (-1)))), (g17, .inl (cy 0, 6, .inl (fun _ => (-1)))), (g3, .inr (0, [.ref g14])), (g14, .inl (cy 3, 6, .inr (.inr (.inr (.inr (fun i => if i < 6 then some (rO i) else none)))))), ((rO 0), .inl (cy 0, 200, .inl (fun _ => (-1)))), ((rO 1), .inl (cy 0, 200, .inl (fun _ => (-1)))), ((rO 2), .inl (cy 0, 200, .inl (fun _ => (-1)))), ((rO 3), .inl (cy 0, 200, .inl (fun _ => (-1)))), ((rO 4), .inl (cy 0, 200, .inl (fun _ => (-1)))), ((rO 5), .inl (cy 0, 200, .inl (fun _ => (-1))))] (fun (u : Unit) => True) (fun (u : Unit) => [(h0, .inr (9, [.ref g0, .ref g1, .ref g2, .ref g3, .ref g4, .ref g5, .ref g6, .ref g7, .ref g8, .ref g9, .int x, .int z])), (g7, .inr (4, [.int 0, .ref g24, .ref g25, .ref g26, .ref g27, .int 0, .ref g28, .ref g29, .ref g30, .int 0, .ref g31, .ref g32, .ref g33, .ref g34]))]) := by
  refine gz_start (fun A => gQv G cy _ _ A) (by decide) (Nat.le_of_ble_eq_true rfl) ?_
  intro p e s m below meth c A ls H hx hb hr hml hlocks hin hown hts hK hov hsz hP hD hS hA hl
  have hl : lv_has ls 1 [(0, .ref h0)] := hl
  refine lv_aload_n hx hb dX9_settleToday_0 rfl (lv_at hl 0 rfl) ?_
  refine va_get (ci := 9) (v := .ref g4) (C := RX9) (T := TX9) (N := 12) hx hb hts inX9 hown hK hP 0 rfl rfl 4 (by decide) (hts _ gm_295) (fun _ h9 => h9) rfl dX9_settleToday_1 ?_
  refine lv_aload_n hx hb dX9_settleToday_4 rfl (lv_at hl 0 rfl) ?_
  refine va_get (ci := 9) (v := .ref g7) (C := RX9) (T := TX9) (N := 12) hx hb hts inX9 hown hK hP 0 rfl rfl 7 (by decide) (hts _ gm_298) (fun _ h9 => h9) rfl dX9_settleToday_5 ?_
  refine lv_aload_n hx hb dX9_settleToday_8 rfl (lv_at hl 0 rfl) ?_
  refine va_get (ci := 9) (v := .ref g3) (C := RX9) (T := TX9) (N := 12) hx hb hts inX9 hown hK hP 0 rfl rfl 3 (by decide) (hts _ gm_294) (fun _ h9 => h9) rfl dX9_settleToday_9 ?_
  refine lv_aload_n hx hb dX9_settleToday_12 rfl (lv_at hl 0 rfl) ?_
  refine va_get (ci := 9) (v := .int x) (C := RX9) (T := TX9) (N := 12) hx hb hts inX9 hown hK hP 0 rfl rfl 10 (by decide) (hts _ gm_301) (fun _ h9 => h9) rfl dX9_settleToday_13 ?_
  refine gz_aftv (va_runV (As := [.ref g7, .ref g3, .int x]) (rest := []) ⟨hx, hb, hml, hown, hts⟩ (c_X1_settle l G cy H.size g4 g15 g16 g17 (fun _ => (-1)) g7 g24 g25 g26 g27 g28 g29 g30 g31 g32 g33 g34 g3 g14 rO x x.toInt rfl) ⟨(gz_cb (n := 3) hts gm_547 gm_7 gm_550 ⟨by decide +kernel, by decide +kernel, by decide +kernel⟩ ⟨Nat.le_of_ble_eq_true rfl, Nat.le_of_ble_eq_true rfl⟩), hts _ gm_548, hts _ gm_549⟩ (gz_preV (ci := 1) (q0 := 0) hK hov hP hD [2, 3, 4, 1, 5, 6, 7, 8, 9, 10, 11, 12] (by decide) rfl rfl rfl) rfl rfl hl.1 rfl (lv_room (Nat.le_of_ble_eq_true rfl)) dX9_settleToday_16 ⟨Nat.le_of_ble_eq_true rfl, Nat.le_of_ble_eq_true rfl⟩) hP hD hS hA [2, 3, 4, 1, 5, 6, 7, 8, 9, 10, 11, 12] [0] rfl rfl (by decide) (by decide) (fun u_1 H locs hw_1 hP hD hS => ?_)
  have hP : va_P G vwCl [(h0, .inr (9, [.ref g0, .ref g1, .ref g2, .ref g3, .ref g4, .ref g5, .ref g6, .ref g7, .ref g8, .ref g9, .int x, .int z])), (g4, .inr (1, [.ref g15, .ref g16, .ref g17])), (g16, .inl (cy 0, 6, .inl (fun _ => (-1)))), (g17, .inl (cy 0, 6, .inl u_1)), (g7, .inr (4, [.int 0, .ref g24, .ref g25, .ref g26, .ref g27, .int 0, .ref g28, .ref g29, .ref g30, .int 0, .ref g31, .ref g32, .ref g33, .ref g34])), (g3, .inr (0, [.ref g14])), (g14, .inl (cy 3, 6, .inr (.inr (.inr (.inr (fun i => if i < 6 then some (rO i) else none)))))), ((rO 0), .inl (cy 0, 200, .inl (fun _ => (-1)))), ((rO 1), .inl (cy 0, 200, .inl (fun _ => (-1)))), ((rO 2), .inl (cy 0, 200, .inl (fun _ => (-1)))), ((rO 3), .inl (cy 0, 200, .inl (fun _ => (-1)))), ((rO 4), .inl (cy 0, 200, .inl (fun _ => (-1)))), ((rO 5), .inl (cy 0, 200, .inl (fun _ => (-1))))] H := hP
  have hD : va_D A [(h0, .inr (9, [.ref g0, .ref g1, .ref g2, .ref g3, .ref g4, .ref g5, .ref g6, .ref g7, .ref g8, .ref g9, .int x, .int z])), (g4, .inr (1, [.ref g15, .ref g16, .ref g17])), (g16, .inl (cy 0, 6, .inl (fun _ => (-1)))), (g17, .inl (cy 0, 6, .inl u_1)), (g7, .inr (4, [.int 0, .ref g24, .ref g25, .ref g26, .ref g27, .int 0, .ref g28, .ref g29, .ref g30, .int 0, .ref g31, .ref g32, .ref g33, .ref g34])), (g3, .inr (0, [.ref g14])), (g14, .inl (cy 3, 6, .inr (.inr (.inr (.inr (fun i => if i < 6 then some (rO i) else none)))))), ((rO 0), .inl (cy 0, 200, .inl (fun _ => (-1)))), ((rO 1), .inl (cy 0, 200, .inl (fun _ => (-1)))), ((rO 2), .inl (cy 0, 200, .inl (fun _ => (-1)))), ((rO 3), .inl (cy 0, 200, .inl (fun _ => (-1)))), ((rO 4), .inl (cy 0, 200, .inl (fun _ => (-1)))), ((rO 5), .inl (cy 0, 200, .inl (fun _ => (-1))))] := hD
  refine lv_aload_n hx hb dX9_settleToday_19 rfl (lv_at hl 0 rfl) ?_
  refine va_get (ci := 9) (v := .ref g3) (C := RX9) (T := TX9) (N := 12) hx hb hts inX9 hown hK hP 0 rfl rfl 3 (by decide) (hts _ gm_294) (fun _ h9 => h9) rfl dX9_settleToday_20 ?_
  refine lv_aload_n hx hb dX9_settleToday_23 rfl (lv_at hl 0 rfl) ?_
  refine va_get (ci := 9) (v := .ref g4) (C := RX9) (T := TX9) (N := 12) hx hb hts inX9 hown hK hP 0 rfl rfl 4 (by decide) (hts _ gm_295) (fun _ h9 => h9) rfl dX9_settleToday_24 ?_
  refine lv_aload_n hx hb dX9_settleToday_27 rfl (lv_at hl 0 rfl) ?_
  refine va_get (ci := 9) (v := .int x) (C := RX9) (T := TX9) (N := 12) hx hb hts inX9 hown hK hP 0 rfl rfl 10 (by decide) (hts _ gm_301) (fun _ h9 => h9) rfl dX9_settleToday_28 ?_
  refine gz_aftv (va_runV (As := [.ref g4, .int x]) (rest := []) ⟨hx, hb, hml, hown, hts⟩ (c_X0_keep l G cy H.size g3 g14 rO g4 g15 g16 g17 u_1 x x.toInt rfl) ⟨(gz_cb (n := 2) hts gm_563 gm_5 gm_566 ⟨by decide +kernel, by decide +kernel, by decide +kernel⟩ ⟨Nat.le_of_ble_eq_true rfl, Nat.le_of_ble_eq_true rfl⟩), hts _ gm_564, hts _ gm_565⟩ (gz_preV (ci := 0) (q0 := 0) hK hov hP hD [5, 6, 7, 8, 9, 10, 11, 12, 1, 3] (by decide) rfl rfl rfl) rfl rfl hl.1 rfl (lv_room (Nat.le_of_ble_eq_true rfl)) dX9_settleToday_31 ⟨Nat.le_of_ble_eq_true rfl, Nat.le_of_ble_eq_true rfl⟩) hP hD hS hA [5, 6, 7, 8, 9, 10, 11, 12, 1, 3] [0, 2, 4] rfl rfl (by decide) (by decide) (fun u_2 H locs hw_2 hP hD hS => ?_)
  have hP : va_P G vwCl [(h0, .inr (9, [.ref g0, .ref g1, .ref g2, .ref g3, .ref g4, .ref g5, .ref g6, .ref g7, .ref g8, .ref g9, .int x, .int z])), (g16, .inl (cy 0, 6, .inl (fun _ => (-1)))), (g7, .inr (4, [.int 0, .ref g24, .ref g25, .ref g26, .ref g27, .int 0, .ref g28, .ref g29, .ref g30, .int 0, .ref g31, .ref g32, .ref g33, .ref g34]))] H := hP
  have hD : va_D A [(h0, .inr (9, [.ref g0, .ref g1, .ref g2, .ref g3, .ref g4, .ref g5, .ref g6, .ref g7, .ref g8, .ref g9, .int x, .int z])), (g16, .inl (cy 0, 6, .inl (fun _ => (-1)))), (g7, .inr (4, [.int 0, .ref g24, .ref g25, .ref g26, .ref g27, .int 0, .ref g28, .ref g29, .ref g30, .int 0, .ref g31, .ref g32, .ref g33, .ref g34]))] := hD
  exact gz_vret (cf := (fun (u : Unit) => [(h0, .inr (9, [.ref g0, .ref g1, .ref g2, .ref g3, .ref g4, .ref g5, .ref g6, .ref g7, .ref g8, .ref g9, .int x, .int z])), (g7, .inr (4, [.int 0, .ref g24, .ref g25, .ref g26, .ref g27, .int 0, .ref g28, .ref g29, .ref g30, .int 0, .ref g31, .ref g32, .ref g33, .ref g34]))])) (post := (fun (u : Unit) => True)) hx hb hr hlocks hK hP hD hS () [0, 2] trivial (by decide) rfl (Nat.le_of_ble_eq_true rfl) (Nat.le_of_ble_eq_true rfl) dX9_settleToday_34

set_option maxHeartbeats 4000000 in
set_option maxRecDepth 100000 in
/-- WellCourt$Ledger.sum -/
theorem c_X5_sum (l : Launch) (G : va_G) (cy : Nat → ClassId) (sz : Nat) (h0 : Nat) (a0 : Nat) (x : Int32) (y : Int32) (z : Int32) (b : Int32) (Xx : Int) (Xy : Int) (Xz : Int) (Xb : Int) (kx : x.toInt = Xx) (ky : y.toInt = Xy) (kz : z.toInt = Xz) (kb : b.toInt = Xb)  : gMi l yX5_sum cX5_sum 7 (some .int) ({ frames := 0, cells := 0, slots := 0, locals := 0 }) G cy sz [.ref h0, .int x, .int y, .int z, .int b] [(h0, .inr (5, [.ref a0, .int 0]))] (fun (r : Int32) (u : Unit) => r = 0) (fun (u : Unit) => [(h0, .inr (5, [.ref a0, .int 0]))]) := by
  refine gz_start (fun A => gQi G cy _ _ A) (by decide) (Nat.le_of_ble_eq_true rfl) ?_
  intro p e s m below meth c A ls H hx hb hr hml hlocks hin hown hts hK hov hsz hP hD hS hA hl
  have hl : lv_has ls 7 [(0, .ref h0), (1, .int x), (2, .int y), (3, .int z), (4, .int b)] := hl
  refine lv_iconst (v := 0) hx hb dX5_sum_0 (by decide) ?_
  refine lv_istore (lv' := [(5, .int 0), (0, .ref h0), (1, .int x), (2, .int y), (3, .int z), (4, .int b)]) hx hb dX5_sum_1 hl (by decide) rfl (fun ls hl => ?_)
  refine lv_iconst (v := 0) hx hb dX5_sum_3 (by decide) ?_
  refine lv_istore (lv' := [(6, .int 0), (5, .int 0), (0, .ref h0), (1, .int x), (2, .int y), (3, .int z), (4, .int b)]) hx hb dX5_sum_4 hl (by decide) rfl (fun ls hl => ?_)
  refine lv_iload hx hb dX5_sum_6 (lv_at hl 0 rfl) ?_
  refine lv_aload_n hx hb dX5_sum_8 rfl (lv_at hl 2 rfl) ?_
  refine va_get (ci := 5) (v := .int 0) (C := RX5) (T := TX5) (N := 2) hx hb hts inX5 hown hK hP 0 rfl rfl 1 (by decide) (hts _ gm_143) (fun _ h9 => h9) rfl dX5_sum_9 ?_
  refine lv_icmp_ge (tgt := 64) hx hb dX5_sum_12 (by decide) (fun _ => ?_) (fun h9 => absurd (by decide) h9)
  refine lv_iload hx hb dX5_sum_64 (lv_at hl 1 rfl) ?_
  exact gz_iret (cf := (fun (u : Unit) => [(h0, .inr (5, [.ref a0, .int 0]))])) (post := (fun (r : Int32) (u : Unit) => r = 0)) hx hb hr hlocks hK hP hD hS () [0] rfl rfl (by decide) rfl (Nat.le_of_ble_eq_true rfl) (Nat.le_of_ble_eq_true rfl) dX5_sum_66

set_option maxHeartbeats 4000000 in
set_option maxRecDepth 100000 in
/-- WellCourt$Ledger.sumKnown -/
theorem c_X5_sumKnown (l : Launch) (G : va_G) (cy : Nat → ClassId) (sz : Nat) (h0 : Nat) (a0 : Nat) (x : Int32) (y : Int32) (z : Int32) (b : Int32) (d : Int32) (Xx : Int) (Xy : Int) (Xz : Int) (Xb : Int) (Xd : Int) (kx : x.toInt = Xx) (ky : y.toInt = Xy) (kz : z.toInt = Xz) (kb : b.toInt = Xb) (kd : d.toInt = Xd)  : gMi l yX5_sumKnown cX5_sumKnown 8 (some .int) ({ frames := 0, cells := 0, slots := 0, locals := 0 }) G cy sz [.ref h0, .int x, .int y, .int z, .int b, .int d] [(h0, .inr (5, [.ref a0, .int 0]))] (fun (r : Int32) (u : Unit) => r = 0) (fun (u : Unit) => [(h0, .inr (5, [.ref a0, .int 0]))]) := by
  refine gz_start (fun A => gQi G cy _ _ A) (by decide) (Nat.le_of_ble_eq_true rfl) ?_
  intro p e s m below meth c A ls H hx hb hr hml hlocks hin hown hts hK hov hsz hP hD hS hA hl
  have hl : lv_has ls 8 [(0, .ref h0), (1, .int x), (2, .int y), (3, .int z), (4, .int b), (5, .int d)] := hl
  refine lv_iconst (v := 0) hx hb dX5_sumKnown_0 (by decide) ?_
  refine lv_istore (lv' := [(6, .int 0), (0, .ref h0), (1, .int x), (2, .int y), (3, .int z), (4, .int b), (5, .int d)]) hx hb dX5_sumKnown_1 hl (by decide) rfl (fun ls hl => ?_)
  refine lv_iconst (v := 0) hx hb dX5_sumKnown_3 (by decide) ?_
  refine lv_istore (lv' := [(7, .int 0), (6, .int 0), (0, .ref h0), (1, .int x), (2, .int y), (3, .int z), (4, .int b), (5, .int d)]) hx hb dX5_sumKnown_4 hl (by decide) rfl (fun ls hl => ?_)
  refine lv_iload hx hb dX5_sumKnown_6 (lv_at hl 0 rfl) ?_
  refine lv_aload_n hx hb dX5_sumKnown_8 rfl (lv_at hl 2 rfl) ?_
  refine va_get (ci := 5) (v := .int 0) (C := RX5) (T := TX5) (N := 2) hx hb hts inX5 hown hK hP 0 rfl rfl 1 (by decide) (hts _ gm_143) (fun _ h9 => h9) rfl dX5_sumKnown_9 ?_
  refine lv_icmp_ge (tgt := 75) hx hb dX5_sumKnown_12 (by decide) (fun _ => ?_) (fun h9 => absurd (by decide) h9)
  refine lv_iload hx hb dX5_sumKnown_75 (lv_at hl 1 rfl) ?_
  exact gz_iret (cf := (fun (u : Unit) => [(h0, .inr (5, [.ref a0, .int 0]))])) (post := (fun (r : Int32) (u : Unit) => r = 0)) hx hb hr hlocks hK hP hD hS () [0] rfl rfl (by decide) rfl (Nat.le_of_ble_eq_true rfl) (Nat.le_of_ble_eq_true rfl) dX5_sumKnown_77

set_option maxHeartbeats 4000000 in
set_option maxRecDepth 100000 in
/-- WellCourt$Calendar.exchange -/
theorem c_X0_exchange (l : Launch) (G : va_G) (cy : Nat → ClassId) (sz : Nat) (h0 : Nat) (a0 : Nat) (rr : Nat → Nat) (x : Int32) (y : Int32) (z : Int32) (Xx : Int) (Xy : Int) (Xz : Int) (kx : x.toInt = Xx) (ky : y.toInt = Xy) (kz : z.toInt = Xz) : gMi l yX0_exchange cX0_exchange 6 (some .int) ({ frames := 2, cells := 0, slots := 0, locals := 42 }) G cy sz [.ref h0, .int x, .int y, .int z] [(h0, .inr (0, [.ref a0])), (a0, .inl (cy 3, 6, .inr (.inr (.inr (.inr (fun i => if i < 6 then some (rr i) else none)))))), ((rr 0), .inl (cy 0, 200, .inl (fun _ => (-1)))), ((rr 1), .inl (cy 0, 200, .inl (fun _ => (-1)))), ((rr 2), .inl (cy 0, 200, .inl (fun _ => (-1)))), ((rr 3), .inl (cy 0, 200, .inl (fun _ => (-1)))), ((rr 4), .inl (cy 0, 200, .inl (fun _ => (-1)))), ((rr 5), .inl (cy 0, 200, .inl (fun _ => (-1))))] (fun (r : Int32) (u : Unit) => r = (-1)) (fun (u : Unit) => [(h0, .inr (0, [.ref a0])), (a0, .inl (cy 3, 6, .inr (.inr (.inr (.inr (fun i => if i < 6 then some (rr i) else none)))))), ((rr 0), .inl (cy 0, 200, .inl (fun _ => (-1)))), ((rr 1), .inl (cy 0, 200, .inl (fun _ => (-1)))), ((rr 2), .inl (cy 0, 200, .inl (fun _ => (-1)))), ((rr 3), .inl (cy 0, 200, .inl (fun _ => (-1)))), ((rr 4), .inl (cy 0, 200, .inl (fun _ => (-1)))), ((rr 5), .inl (cy 0, 200, .inl (fun _ => (-1))))]) := by
  refine gz_start (fun A => gQi G cy _ _ A) (by decide) (Nat.le_of_ble_eq_true rfl) ?_
  intro p e s m below meth c A ls H hx hb hr hml hlocks hin hown hts hK hov hsz hP hD hS hA hl
  have hl : lv_has ls 6 [(0, .ref h0), (1, .int x), (2, .int y), (3, .int z)] := hl
  refine lv_aload_n hx hb dX0_exchange_0 rfl (lv_at hl 0 rfl) ?_
  refine lv_iload_n hx hb dX0_exchange_1 rfl (lv_at hl 1 rfl) ?_
  refine lv_iload_n hx hb dX0_exchange_2 rfl (lv_at hl 2 rfl) ?_
  refine gz_afti (va_runV (As := [.int x, .int y]) (rest := []) ⟨hx, hb, hml, hown, hts⟩ (c_X0_ownerOn l G cy H.size h0 a0 rr x y x.toInt y.toInt rfl rfl) ⟨(gz_cb (n := 2) hts gm_634 gm_5 gm_558 ⟨by decide +kernel, by decide +kernel, by decide +kernel⟩ ⟨Nat.le_of_ble_eq_true rfl, Nat.le_of_ble_eq_true rfl⟩), hts _ gm_556, hts _ gm_557⟩ (gz_preV (ci := 0) (q0 := 0) hK hov hP hD [0, 1, 2, 3, 4, 5, 6, 7] (by decide) rfl rfl rfl) rfl rfl hl.1 rfl (lv_room (Nat.le_of_ble_eq_true rfl)) dX0_exchange_3 ⟨Nat.le_of_ble_eq_true rfl, Nat.le_of_ble_eq_true rfl⟩) hP hD hS hA [0, 1, 2, 3, 4, 5, 6, 7] [] rfl rfl (by decide) (by decide) (fun r_1 u_1 H locs hw_1 hP hD hS => ?_)
  have hP : va_P G vwCl [(h0, .inr (0, [.ref a0])), (a0, .inl (cy 3, 6, .inr (.inr (.inr (.inr (fun i => if i < 6 then some (rr i) else none)))))), ((rr 0), .inl (cy 0, 200, .inl (fun _ => (-1)))), ((rr 1), .inl (cy 0, 200, .inl (fun _ => (-1)))), ((rr 2), .inl (cy 0, 200, .inl (fun _ => (-1)))), ((rr 3), .inl (cy 0, 200, .inl (fun _ => (-1)))), ((rr 4), .inl (cy 0, 200, .inl (fun _ => (-1)))), ((rr 5), .inl (cy 0, 200, .inl (fun _ => (-1))))] H := hP
  have hD : va_D A [(h0, .inr (0, [.ref a0])), (a0, .inl (cy 3, 6, .inr (.inr (.inr (.inr (fun i => if i < 6 then some (rr i) else none)))))), ((rr 0), .inl (cy 0, 200, .inl (fun _ => (-1)))), ((rr 1), .inl (cy 0, 200, .inl (fun _ => (-1)))), ((rr 2), .inl (cy 0, 200, .inl (fun _ => (-1)))), ((rr 3), .inl (cy 0, 200, .inl (fun _ => (-1)))), ((rr 4), .inl (cy 0, 200, .inl (fun _ => (-1)))), ((rr 5), .inl (cy 0, 200, .inl (fun _ => (-1))))] := hD
  obtain rfl := hw_1
  refine lv_istore (lv' := [(4, .int (-1)), (0, .ref h0), (1, .int x), (2, .int y), (3, .int z)]) hx hb dX0_exchange_6 hl (by decide) rfl (fun ls hl => ?_)
  refine lv_iload hx hb dX0_exchange_8 (lv_at hl 0 rfl) ?_
  refine lv_iconst (v := (-1)) hx hb dX0_exchange_10 (by decide) ?_
  refine lv_icmp_eq (tgt := 20) hx hb dX0_exchange_11 (by decide) (fun _ => ?_) (fun h9 => absurd (by decide) h9)
  refine lv_iconst (v := (-1)) hx hb dX0_exchange_20 (by decide) ?_
  exact gz_iret (cf := (fun (u : Unit) => [(h0, .inr (0, [.ref a0])), (a0, .inl (cy 3, 6, .inr (.inr (.inr (.inr (fun i => if i < 6 then some (rr i) else none)))))), ((rr 0), .inl (cy 0, 200, .inl (fun _ => (-1)))), ((rr 1), .inl (cy 0, 200, .inl (fun _ => (-1)))), ((rr 2), .inl (cy 0, 200, .inl (fun _ => (-1)))), ((rr 3), .inl (cy 0, 200, .inl (fun _ => (-1)))), ((rr 4), .inl (cy 0, 200, .inl (fun _ => (-1)))), ((rr 5), .inl (cy 0, 200, .inl (fun _ => (-1))))])) (post := (fun (r : Int32) (u : Unit) => r = (-1))) hx hb hr hlocks hK hP hD hS () [0, 1, 2, 3, 4, 5, 6, 7] rfl rfl (by decide) rfl (Nat.le_of_ble_eq_true rfl) (Nat.le_of_ble_eq_true rfl) dX0_exchange_21

set_option maxHeartbeats 4000000 in
set_option maxRecDepth 100000 in
/-- WellCourt$Planner.actOf -/
theorem c_X6_actOf (l : Launch) (G : va_G) (cy : Nat → ClassId) (sz : Nat) (h0 : Nat) (h1 : Nat) (h2 : Nat) (h3 : Nat) (h4 : Nat) (a0 : Nat) (a1 : Nat) (a2 : Nat) (a3 : Nat) (a4 : Nat) (a5 : Nat) (x : Int32) (y : Int32) (Xx : Int) (Xy : Int) (kx : x.toInt = Xx) (ky : y.toInt = Xy)  : gMi l yX6_actOf cX6_actOf 3 (some .int) ({ frames := 1, cells := 0, slots := 0, locals := 20 }) G cy sz [.ref h0, .int x, .int y] [(h0, .inr (6, [.ref h1, .ref h2, .ref h3, .ref h4, .int 0, .ref a0, .ref a1, .ref a2, .ref a3, .ref a4, .int 0, .int 0, .ref a5, .int 0, .int 0]))] (fun (r : Int32) (u : Unit) => r = (-1)) (fun (u : Unit) => [(h0, .inr (6, [.ref h1, .ref h2, .ref h3, .ref h4, .int 0, .ref a0, .ref a1, .ref a2, .ref a3, .ref a4, .int 0, .int 0, .ref a5, .int 0, .int 0]))]) := by
  refine gz_start (fun A => gQi G cy _ _ A) (by decide) (Nat.le_of_ble_eq_true rfl) ?_
  intro p e s m below meth c A ls H hx hb hr hml hlocks hin hown hts hK hov hsz hP hD hS hA hl
  have hl : lv_has ls 3 [(0, .ref h0), (1, .int x), (2, .int y)] := hl
  refine lv_iload_n hx hb dX6_actOf_0 rfl (lv_at hl 1 rfl) ?_
  refine gz_afti (va_runSN (As := [.int x]) (rest := []) ⟨hx, hb, hml, hown, hts⟩ (c_isHerd l G cy H.size x x.toInt rfl) ⟨(va_cnB 1 hts (gz_good gm_695) rfl rfl rfl (hov.2.2 _ gn_720) (hts _ gm_1) ⟨by decide +kernel, by decide +kernel, by decide +kernel⟩ ⟨Nat.le_of_ble_eq_true rfl, Nat.le_of_ble_eq_true rfl⟩), hts _ gm_694, trivial⟩ (gz_preS hK hov hP hD [] (by decide) rfl) rfl rfl hl.1 rfl (lv_room (Nat.le_of_ble_eq_true rfl)) dX6_actOf_1 ⟨Nat.le_of_ble_eq_true rfl, Nat.le_of_ble_eq_true rfl⟩) hP hD hS hA [] [0] rfl rfl (by decide) (by decide) (fun r_1 u_1 H locs hw_1 hP hD hS => ?_)
  have hP : va_P G vwCl [(h0, .inr (6, [.ref h1, .ref h2, .ref h3, .ref h4, .int 0, .ref a0, .ref a1, .ref a2, .ref a3, .ref a4, .int 0, .int 0, .ref a5, .int 0, .int 0]))] H := hP
  have hD : va_D A [(h0, .inr (6, [.ref h1, .ref h2, .ref h3, .ref h4, .int 0, .ref a0, .ref a1, .ref a2, .ref a3, .ref a4, .int 0, .int 0, .ref a5, .int 0, .int 0]))] := hD
  rcases hw_1 with ⟨rfl, hw_1_0, hw_1_1⟩ | ⟨rfl, hw_1_0⟩
  · skip
    refine lv_if_eq (tgt := 28) hx hb dX6_actOf_4 (by decide) (fun h9 => absurd h9 (by decide)) (fun _ => ?_)
    refine lv_iload_n hx hb dX6_actOf_7 rfl (lv_at hl 2 rfl) ?_
    refine lv_aload_n hx hb dX6_actOf_8 rfl (lv_at hl 0 rfl) ?_
    refine va_get (ci := 6) (v := .int 0) (C := RX6) (T := TX6) (N := 15) hx hb hts inX6 hown hK hP 0 rfl rfl 13 (by decide) (hts _ gm_258) (fun _ h9 => h9) rfl dX6_actOf_9 ?_
    refine lv_icmp_le (tgt := 28) hx hb dX6_actOf_12 (by decide) (fun c_2 => ?_) (fun c_2 => ?_)
    · have ic_2 := gz_le (rfl : y.toInt = y.toInt) (by decide : (0 : Int32).toInt = 0) c_2
      refine lv_iconst (v := (-1)) hx hb dX6_actOf_28 (by decide) ?_
      exact gz_iret (cf := (fun (u : Unit) => [(h0, .inr (6, [.ref h1, .ref h2, .ref h3, .ref h4, .int 0, .ref a0, .ref a1, .ref a2, .ref a3, .ref a4, .int 0, .int 0, .ref a5, .int 0, .int 0]))])) (post := (fun (r : Int32) (u : Unit) => r = (-1))) hx hb hr hlocks hK hP hD hS () [0] rfl rfl (by decide) rfl (Nat.le_of_ble_eq_true rfl) (Nat.le_of_ble_eq_true rfl) dX6_actOf_29
    · have ic_2 := gz_nle (rfl : y.toInt = y.toInt) (by decide : (0 : Int32).toInt = 0) c_2
      refine lv_iload_n hx hb dX6_actOf_15 rfl (lv_at hl 2 rfl) ?_
      refine lv_aload_n hx hb dX6_actOf_16 rfl (lv_at hl 0 rfl) ?_
      refine va_get (ci := 6) (v := .int 0) (C := RX6) (T := TX6) (N := 15) hx hb hts inX6 hown hK hP 0 rfl rfl 13 (by decide) (hts _ gm_258) (fun _ h9 => h9) rfl dX6_actOf_17 ?_
      refine lv_aload_n hx hb dX6_actOf_20 rfl (lv_at hl 0 rfl) ?_
      refine va_get (ci := 6) (v := .int 0) (C := RX6) (T := TX6) (N := 15) hx hb hts inX6 hown hK hP 0 rfl rfl 14 (by decide) (hts _ gm_259) (fun _ h9 => h9) rfl dX6_actOf_21 ?_
      refine lv_iadd hx hb dX6_actOf_24 ?_
      refine lv_topi (fun x_3 ex_3 => ?_)
      obtain rfl : x_3 = (0 : Int32) := ex_3.trans (by decide)
      refine lv_icmp_le (tgt := 30) hx hb dX6_actOf_25 (by decide) (fun c_4 => ?_) (fun c_4 => ?_)
      · have ic_4 := gz_le (rfl : y.toInt = y.toInt) (by decide : (0 : Int32).toInt = 0) c_4
        refine lv_aload_n hx hb dX6_actOf_30 rfl (lv_at hl 0 rfl) ?_
        refine va_get (ci := 6) (v := .ref a5) (C := RX6) (T := TX6) (N := 15) hx hb hts inX6 hown hK hP 0 rfl rfl 12 (by decide) (hts _ gm_257) (fun _ h9 => h9) rfl dX6_actOf_31 ?_
        refine lv_iload_n hx hb dX6_actOf_34 rfl (lv_at hl 2 rfl) ?_
        refine lv_aload_n hx hb dX6_actOf_35 rfl (lv_at hl 0 rfl) ?_
        refine va_get (ci := 6) (v := .int 0) (C := RX6) (T := TX6) (N := 15) hx hb hts inX6 hown hK hP 0 rfl rfl 13 (by decide) (hts _ gm_258) (fun _ h9 => h9) rfl dX6_actOf_36 ?_
        refine lv_isub hx hb dX6_actOf_39 ?_
        refine lv_topi (fun x_5 ex_5 => ?_)
        refine lv_iconst (v := 1) hx hb dX6_actOf_40 (by decide) ?_
        refine lv_isub hx hb dX6_actOf_41 ?_
        refine lv_topi (fun x_6 ex_6 => ?_)
        refine lv_iconst (v := 4) hx hb dX6_actOf_42 (by decide) ?_
        refine lv_imul hx hb dX6_actOf_43 ?_
        refine lv_topi (fun x_7 ex_7 => ?_)
        refine lv_iload_n hx hb dX6_actOf_44 rfl (lv_at hl 1 rfl) ?_
        refine lv_iadd hx hb dX6_actOf_45 ?_
        refine lv_topi (fun x_8 ex_8 => ?_)
        exfalso; omega
      · have ic_4 := gz_nle (rfl : y.toInt = y.toInt) (by decide : (0 : Int32).toInt = 0) c_4
        refine lv_iconst (v := (-1)) hx hb dX6_actOf_28 (by decide) ?_
        exact gz_iret (cf := (fun (u : Unit) => [(h0, .inr (6, [.ref h1, .ref h2, .ref h3, .ref h4, .int 0, .ref a0, .ref a1, .ref a2, .ref a3, .ref a4, .int 0, .int 0, .ref a5, .int 0, .int 0]))])) (post := (fun (r : Int32) (u : Unit) => r = (-1))) hx hb hr hlocks hK hP hD hS () [0] rfl rfl (by decide) rfl (Nat.le_of_ble_eq_true rfl) (Nat.le_of_ble_eq_true rfl) dX6_actOf_29
  · skip
    refine lv_if_eq (tgt := 28) hx hb dX6_actOf_4 (by decide) (fun _ => ?_) (fun h9 => absurd (by decide) h9)
    refine lv_iconst (v := (-1)) hx hb dX6_actOf_28 (by decide) ?_
    exact gz_iret (cf := (fun (u : Unit) => [(h0, .inr (6, [.ref h1, .ref h2, .ref h3, .ref h4, .int 0, .ref a0, .ref a1, .ref a2, .ref a3, .ref a4, .int 0, .int 0, .ref a5, .int 0, .int 0]))])) (post := (fun (r : Int32) (u : Unit) => r = (-1))) hx hb hr hlocks hK hP hD hS () [0] rfl rfl (by decide) rfl (Nat.le_of_ble_eq_true rfl) (Nat.le_of_ble_eq_true rfl) dX6_actOf_29
