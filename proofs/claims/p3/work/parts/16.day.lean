theorem gm_5 : (Jvm.Cond.initialized "WellCourt$Calendar") ∈ gz_T := gz_at 5 (by decide +kernel) rfl
theorem gm_17 : (Jvm.Cond.initialized "java/lang/Math") ∈ gz_T := gz_at 17 (by decide +kernel) rfl
theorem gm_109 : (Jvm.Cond.fieldLink "WellCourt$Calendar" (11 : Nat) "WellCourt$Calendar" "owners" "[[I") ∈ gz_T := gz_at 109 (by decide +kernel) rfl
theorem gm_123 : (Jvm.Cond.fieldLink "WellCourt$Day" (15 : Nat) "WellCourt$Day" "morning" "[I") ∈ gz_T := gz_at 123 (by decide +kernel) rfl
theorem gm_125 : (Jvm.Cond.fieldLink "WellCourt$Day" (18 : Nat) "WellCourt$Day" "owner" "[I") ∈ gz_T := gz_at 125 (by decide +kernel) rfl
theorem gm_536 : (Jvm.Cond.methodLink "WellCourt$Calendar" (29 : Nat) ({ cls := "java/lang/Math", name := "max", desc := "(II)I" } : Jvm.MethodName)) ∈ gz_T := gz_at 536 (by decide +kernel) rfl
theorem gm_537 : (Jvm.Cond.static ({ cls := "java/lang/Math", name := "max", desc := "(II)I" } : Jvm.MethodName)) ∈ gz_T := gz_at 537 (by decide +kernel) rfl
theorem gm_538 : (Jvm.Cond.code ({ cls := "java/lang/Math", name := "max", desc := "(II)I" } : Jvm.MethodName) prog_15_method_65_code (2 : Nat) (Option.some Jvm.ClassFile.FieldType.int)) ∈ gz_T := gz_at 538 (by decide +kernel) rfl
theorem gm_539 : (Jvm.Cond.methodLink "WellCourt$Calendar" (35 : Nat) ({ cls := "WellCourt$Law", name := "turnOn", desc := "(II)I" } : Jvm.MethodName)) ∈ gz_T := gz_at 539 (by decide +kernel) rfl
theorem gm_540 : (Jvm.Cond.instanceMethod ({ cls := "WellCourt$Law", name := "turnOn", desc := "(II)I" } : Jvm.MethodName)) ∈ gz_T := gz_at 540 (by decide +kernel) rfl
theorem gm_541 : (Jvm.Cond.selects "WellCourt$Law" ({ cls := "WellCourt$Law", name := "turnOn", desc := "(II)I" } : Jvm.MethodName) ({ cls := "WellCourt$Law", name := "turnOn", desc := "(II)I" } : Jvm.MethodName)) ∈ gz_T := gz_at 541 (by decide +kernel) rfl
theorem gm_542 : (Jvm.Cond.code ({ cls := "WellCourt$Law", name := "turnOn", desc := "(II)I" } : Jvm.MethodName) prog_6_method_9_code (4 : Nat) (Option.some Jvm.ClassFile.FieldType.int)) ∈ gz_T := gz_at 542 (by decide +kernel) rfl
theorem gm_551 : (Jvm.Cond.methodLink "WellCourt$Day" (51 : Nat) ({ cls := "WellCourt$Law", name := "droughtOwner", desc := "(II)I" } : Jvm.MethodName)) ∈ gz_T := gz_at 551 (by decide +kernel) rfl
theorem gm_552 : (Jvm.Cond.instanceMethod ({ cls := "WellCourt$Law", name := "droughtOwner", desc := "(II)I" } : Jvm.MethodName)) ∈ gz_T := gz_at 552 (by decide +kernel) rfl
theorem gm_553 : (Jvm.Cond.selects "WellCourt$Law" ({ cls := "WellCourt$Law", name := "droughtOwner", desc := "(II)I" } : Jvm.MethodName) ({ cls := "WellCourt$Law", name := "droughtOwner", desc := "(II)I" } : Jvm.MethodName)) ∈ gz_T := gz_at 553 (by decide +kernel) rfl
theorem gm_554 : (Jvm.Cond.code ({ cls := "WellCourt$Law", name := "droughtOwner", desc := "(II)I" } : Jvm.MethodName) prog_6_method_12_code (4 : Nat) (Option.some Jvm.ClassFile.FieldType.int)) ∈ gz_T := gz_at 554 (by decide +kernel) rfl
theorem gm_555 : (Jvm.Cond.methodLink "WellCourt$Day" (56 : Nat) ({ cls := "WellCourt$Calendar", name := "ownerOn", desc := "(II)I" } : Jvm.MethodName)) ∈ gz_T := gz_at 555 (by decide +kernel) rfl
theorem gm_556 : (Jvm.Cond.instanceMethod ({ cls := "WellCourt$Calendar", name := "ownerOn", desc := "(II)I" } : Jvm.MethodName)) ∈ gz_T := gz_at 556 (by decide +kernel) rfl
theorem gm_557 : (Jvm.Cond.selects "WellCourt$Calendar" ({ cls := "WellCourt$Calendar", name := "ownerOn", desc := "(II)I" } : Jvm.MethodName) ({ cls := "WellCourt$Calendar", name := "ownerOn", desc := "(II)I" } : Jvm.MethodName)) ∈ gz_T := gz_at 557 (by decide +kernel) rfl
theorem gm_558 : (Jvm.Cond.code ({ cls := "WellCourt$Calendar", name := "ownerOn", desc := "(II)I" } : Jvm.MethodName) prog_2_method_2_code (3 : Nat) (Option.some Jvm.ClassFile.FieldType.int)) ∈ gz_T := gz_at 558 (by decide +kernel) rfl
theorem gm_561 : (Jvm.Cond.static ({ cls := "WellCourt", name := "isDate", desc := "(I)Z" } : Jvm.MethodName)) ∈ gz_T := gz_at 561 (by decide +kernel) rfl
theorem gm_562 : (Jvm.Cond.code ({ cls := "WellCourt", name := "isDate", desc := "(I)Z" } : Jvm.MethodName) prog_1_method_33_code (1 : Nat) (Option.some Jvm.ClassFile.FieldType.boolean)) ∈ gz_T := gz_at 562 (by decide +kernel) rfl
theorem gm_579 : (Jvm.Cond.methodLink "WellCourt$Day" (33 : Nat) ({ cls := "WellCourt$Land", name := "isThere", desc := "(I)Z" } : Jvm.MethodName)) ∈ gz_T := gz_at 579 (by decide +kernel) rfl
theorem gm_580 : (Jvm.Cond.methodLink "WellCourt$Day" (45 : Nat) ({ cls := "java/lang/Math", name := "min", desc := "(II)I" } : Jvm.MethodName)) ∈ gz_T := gz_at 580 (by decide +kernel) rfl
theorem gm_581 : (Jvm.Cond.static ({ cls := "java/lang/Math", name := "min", desc := "(II)I" } : Jvm.MethodName)) ∈ gz_T := gz_at 581 (by decide +kernel) rfl
theorem gm_582 : (Jvm.Cond.code ({ cls := "java/lang/Math", name := "min", desc := "(II)I" } : Jvm.MethodName) prog_15_method_69_code (2 : Nat) (Option.some Jvm.ClassFile.FieldType.int)) ∈ gz_T := gz_at 582 (by decide +kernel) rfl
theorem gm_609 : (Jvm.Cond.methodLink "WellCourt$Day" (61 : Nat) ({ cls := "WellCourt$Law", name := "areWed", desc := "(II)Z" } : Jvm.MethodName)) ∈ gz_T := gz_at 609 (by decide +kernel) rfl
theorem gm_610 : (Jvm.Cond.instanceMethod ({ cls := "WellCourt$Law", name := "areWed", desc := "(II)Z" } : Jvm.MethodName)) ∈ gz_T := gz_at 610 (by decide +kernel) rfl
theorem gm_611 : (Jvm.Cond.selects "WellCourt$Law" ({ cls := "WellCourt$Law", name := "areWed", desc := "(II)Z" } : Jvm.MethodName) ({ cls := "WellCourt$Law", name := "areWed", desc := "(II)Z" } : Jvm.MethodName)) ∈ gz_T := gz_at 611 (by decide +kernel) rfl
theorem gm_612 : (Jvm.Cond.code ({ cls := "WellCourt$Law", name := "areWed", desc := "(II)Z" } : Jvm.MethodName) prog_6_method_10_code (3 : Nat) (Option.some Jvm.ClassFile.FieldType.boolean)) ∈ gz_T := gz_at 612 (by decide +kernel) rfl
theorem gm_614 : (Jvm.Cond.methodLink "WellCourt$Day" (65 : Nat) ({ cls := "WellCourt$Law", name := "leadsDry", desc := "(II)Z" } : Jvm.MethodName)) ∈ gz_T := gz_at 614 (by decide +kernel) rfl
theorem gm_615 : (Jvm.Cond.instanceMethod ({ cls := "WellCourt$Law", name := "leadsDry", desc := "(II)Z" } : Jvm.MethodName)) ∈ gz_T := gz_at 615 (by decide +kernel) rfl
theorem gm_616 : (Jvm.Cond.selects "WellCourt$Law" ({ cls := "WellCourt$Law", name := "leadsDry", desc := "(II)Z" } : Jvm.MethodName) ({ cls := "WellCourt$Law", name := "leadsDry", desc := "(II)Z" } : Jvm.MethodName)) ∈ gz_T := gz_at 616 (by decide +kernel) rfl
theorem gm_617 : (Jvm.Cond.code ({ cls := "WellCourt$Law", name := "leadsDry", desc := "(II)Z" } : Jvm.MethodName) prog_6_method_11_code (3 : Nat) (Option.some Jvm.ClassFile.FieldType.boolean)) ∈ gz_T := gz_at 617 (by decide +kernel) rfl
theorem gm_622 : (Jvm.Cond.methodLink "WellCourt$Day" (68 : Nat) ({ cls := "WellCourt$Law", name := "manyOfGuest", desc := "(III)I" } : Jvm.MethodName)) ∈ gz_T := gz_at 622 (by decide +kernel) rfl
theorem gm_623 : (Jvm.Cond.instanceMethod ({ cls := "WellCourt$Law", name := "manyOfGuest", desc := "(III)I" } : Jvm.MethodName)) ∈ gz_T := gz_at 623 (by decide +kernel) rfl
theorem gm_624 : (Jvm.Cond.selects "WellCourt$Law" ({ cls := "WellCourt$Law", name := "manyOfGuest", desc := "(III)I" } : Jvm.MethodName) ({ cls := "WellCourt$Law", name := "manyOfGuest", desc := "(III)I" } : Jvm.MethodName)) ∈ gz_T := gz_at 624 (by decide +kernel) rfl
theorem gm_625 : (Jvm.Cond.code ({ cls := "WellCourt$Law", name := "manyOfGuest", desc := "(III)I" } : Jvm.MethodName) prog_6_method_13_code (5 : Nat) (Option.some Jvm.ClassFile.FieldType.int)) ∈ gz_T := gz_at 625 (by decide +kernel) rfl
theorem gm_634 : (Jvm.Cond.methodLink "WellCourt$Calendar" (46 : Nat) ({ cls := "WellCourt$Calendar", name := "ownerOn", desc := "(II)I" } : Jvm.MethodName)) ∈ gz_T := gz_at 634 (by decide +kernel) rfl
theorem gn_83 : (Jvm.Cond.fieldLinkNest "WellCourt$Day" (42 : Nat) "WellCourt$Land" "cap" "[I" "WellCourt") ∈ gzN := gz_nest 83 (by decide +kernel) rfl
theorem gn_86 : (Jvm.Cond.fieldLinkNest "WellCourt$Day" (39 : Nat) "WellCourt$Land" "rate" "[I" "WellCourt") ∈ gzN := gz_nest 86 (by decide +kernel) rfl
theorem gn_126 : (Jvm.Cond.fieldLinkNest "WellCourt$Calendar" (40 : Nat) "WellCourt$Day" "owner" "[I" "WellCourt") ∈ gzN := gz_nest 126 (by decide +kernel) rfl
theorem gn_559 : (Jvm.Cond.methodLinkNest "WellCourt$Calendar" (22 : Nat) ({ cls := "WellCourt", name := "isWell", desc := "(I)Z" } : Jvm.MethodName) "WellCourt") ∈ gzN := gz_nest 559 (by decide +kernel) rfl
theorem gn_560 : (Jvm.Cond.methodLinkNest "WellCourt$Calendar" (26 : Nat) ({ cls := "WellCourt", name := "isDate", desc := "(I)Z" } : Jvm.MethodName) "WellCourt") ∈ gzN := gz_nest 560 (by decide +kernel) rfl
theorem inX0 : ∀ w ∈ u_ws RX0 TX0 1, w ∈ gz_T := gz_inX [110] (by decide +kernel) (by decide +kernel)
theorem dX0_exchange_0 : decode cX0_exchange 0 = .ok (.aload_n 0, 1) := by decide +kernel
theorem dX0_exchange_1 : decode cX0_exchange 1 = .ok (.iload_n 1, 1) := by decide +kernel
theorem dX0_exchange_2 : decode cX0_exchange 2 = .ok (.iload_n 2, 1) := by decide +kernel
theorem dX0_exchange_3 : decode cX0_exchange 3 = .ok (.invokevirtual 46, 3) := by decide +kernel
theorem dX0_exchange_6 : decode cX0_exchange 6 = .ok (.istore 4, 2) := by decide +kernel
theorem dX0_exchange_8 : decode cX0_exchange 8 = .ok (.iload 4, 2) := by decide +kernel
theorem dX0_exchange_10 : decode cX0_exchange 10 = .ok (.iconst (-1), 1) := by decide +kernel
theorem dX0_exchange_11 : decode cX0_exchange 11 = .ok (.if_icmp .eq 9, 3) := by decide +kernel
theorem dX0_exchange_14 : decode cX0_exchange 14 = .ok (.iload 4, 2) := by decide +kernel
theorem dX0_exchange_16 : decode cX0_exchange 16 = .ok (.iload_n 3, 1) := by decide +kernel
theorem dX0_exchange_17 : decode cX0_exchange 17 = .ok (.if_icmp .ne 5, 3) := by decide +kernel
theorem dX0_exchange_20 : decode cX0_exchange 20 = .ok (.iconst (-1), 1) := by decide +kernel
theorem dX0_exchange_21 : decode cX0_exchange 21 = .ok (.ireturn, 1) := by decide +kernel
theorem dX0_exchange_22 : decode cX0_exchange 22 = .ok (.iload_n 2, 1) := by decide +kernel
theorem dX0_exchange_23 : decode cX0_exchange 23 = .ok (.iconst 1, 1) := by decide +kernel
theorem dX0_exchange_24 : decode cX0_exchange 24 = .ok (.iadd, 1) := by decide +kernel
theorem dX0_exchange_25 : decode cX0_exchange 25 = .ok (.istore 5, 2) := by decide +kernel
theorem dX0_exchange_27 : decode cX0_exchange 27 = .ok (.iload 5, 2) := by decide +kernel
theorem dX0_exchange_29 : decode cX0_exchange 29 = .ok (.sipush 199, 3) := by decide +kernel
theorem dX0_exchange_32 : decode cX0_exchange 32 = .ok (.if_icmp .gt 45, 3) := by decide +kernel
theorem dX0_exchange_35 : decode cX0_exchange 35 = .ok (.aload_n 0, 1) := by decide +kernel
theorem dX0_exchange_36 : decode cX0_exchange 36 = .ok (.getfield 11, 3) := by decide +kernel
theorem dX0_exchange_39 : decode cX0_exchange 39 = .ok (.iload_n 1, 1) := by decide +kernel
theorem dX0_exchange_40 : decode cX0_exchange 40 = .ok (.aaload, 1) := by decide +kernel
theorem dX0_exchange_41 : decode cX0_exchange 41 = .ok (.iload 5, 2) := by decide +kernel
theorem dX0_exchange_43 : decode cX0_exchange 43 = .ok (.iaload, 1) := by decide +kernel
theorem dX0_exchange_44 : decode cX0_exchange 44 = .ok (.iload_n 3, 1) := by decide +kernel
theorem dX0_exchange_45 : decode cX0_exchange 45 = .ok (.if_icmp .ne 26, 3) := by decide +kernel
theorem dX0_exchange_48 : decode cX0_exchange 48 = .ok (.aload_n 0, 1) := by decide +kernel
theorem dX0_exchange_49 : decode cX0_exchange 49 = .ok (.getfield 11, 3) := by decide +kernel
theorem dX0_exchange_52 : decode cX0_exchange 52 = .ok (.iload_n 1, 1) := by decide +kernel
theorem dX0_exchange_53 : decode cX0_exchange 53 = .ok (.aaload, 1) := by decide +kernel
theorem dX0_exchange_54 : decode cX0_exchange 54 = .ok (.iload_n 2, 1) := by decide +kernel
theorem dX0_exchange_55 : decode cX0_exchange 55 = .ok (.iload_n 3, 1) := by decide +kernel
theorem dX0_exchange_56 : decode cX0_exchange 56 = .ok (.iastore, 1) := by decide +kernel
theorem dX0_exchange_57 : decode cX0_exchange 57 = .ok (.aload_n 0, 1) := by decide +kernel
theorem dX0_exchange_58 : decode cX0_exchange 58 = .ok (.getfield 11, 3) := by decide +kernel
theorem dX0_exchange_61 : decode cX0_exchange 61 = .ok (.iload_n 1, 1) := by decide +kernel
theorem dX0_exchange_62 : decode cX0_exchange 62 = .ok (.aaload, 1) := by decide +kernel
theorem dX0_exchange_63 : decode cX0_exchange 63 = .ok (.iload 5, 2) := by decide +kernel
theorem dX0_exchange_65 : decode cX0_exchange 65 = .ok (.iload 4, 2) := by decide +kernel
theorem dX0_exchange_67 : decode cX0_exchange 67 = .ok (.iastore, 1) := by decide +kernel
theorem dX0_exchange_68 : decode cX0_exchange 68 = .ok (.iload 5, 2) := by decide +kernel
theorem dX0_exchange_70 : decode cX0_exchange 70 = .ok (.ireturn, 1) := by decide +kernel
theorem dX0_exchange_71 : decode cX0_exchange 71 = .ok (.iinc 5 1, 3) := by decide +kernel
theorem dX0_exchange_74 : decode cX0_exchange 74 = .ok (.goto (-47), 3) := by decide +kernel
theorem dX0_exchange_77 : decode cX0_exchange 77 = .ok (.iconst (-1), 1) := by decide +kernel
theorem dX0_exchange_78 : decode cX0_exchange 78 = .ok (.ireturn, 1) := by decide +kernel
theorem dX0_keep_0 : decode cX0_keep 0 = .ok (.iconst 0, 1) := by decide +kernel
theorem dX0_keep_1 : decode cX0_keep 1 = .ok (.istore_n 3, 1) := by decide +kernel
theorem dX0_keep_2 : decode cX0_keep 2 = .ok (.iload_n 3, 1) := by decide +kernel
theorem dX0_keep_3 : decode cX0_keep 3 = .ok (.bipush 6, 2) := by decide +kernel
theorem dX0_keep_5 : decode cX0_keep 5 = .ok (.if_icmp .ge 30, 3) := by decide +kernel
theorem dX0_keep_8 : decode cX0_keep 8 = .ok (.iload_n 2, 1) := by decide +kernel
theorem dX0_keep_9 : decode cX0_keep 9 = .ok (.invokestatic 26, 3) := by decide +kernel
theorem dX0_keep_12 : decode cX0_keep 12 = .ok (.ifCond .eq 23, 3) := by decide +kernel
theorem dX0_keep_15 : decode cX0_keep 15 = .ok (.aload_n 0, 1) := by decide +kernel
theorem dX0_keep_16 : decode cX0_keep 16 = .ok (.getfield 11, 3) := by decide +kernel
theorem dX0_keep_19 : decode cX0_keep 19 = .ok (.iload_n 3, 1) := by decide +kernel
theorem dX0_keep_20 : decode cX0_keep 20 = .ok (.aaload, 1) := by decide +kernel
theorem dX0_keep_21 : decode cX0_keep 21 = .ok (.iload_n 2, 1) := by decide +kernel
theorem dX0_keep_22 : decode cX0_keep 22 = .ok (.aload_n 1, 1) := by decide +kernel
theorem dX0_keep_23 : decode cX0_keep 23 = .ok (.getfield 40, 3) := by decide +kernel
theorem dX0_keep_26 : decode cX0_keep 26 = .ok (.iload_n 3, 1) := by decide +kernel
theorem dX0_keep_27 : decode cX0_keep 27 = .ok (.iaload, 1) := by decide +kernel
theorem dX0_keep_28 : decode cX0_keep 28 = .ok (.iastore, 1) := by decide +kernel
theorem dX0_keep_29 : decode cX0_keep 29 = .ok (.iinc 3 1, 3) := by decide +kernel
theorem dX0_keep_32 : decode cX0_keep 32 = .ok (.goto (-30), 3) := by decide +kernel
theorem dX0_keep_35 : decode cX0_keep 35 = .ok (.return_, 1) := by decide +kernel
theorem dX0_ownerOn_0 : decode cX0_ownerOn 0 = .ok (.iload_n 1, 1) := by decide +kernel
theorem dX0_ownerOn_1 : decode cX0_ownerOn 1 = .ok (.invokestatic 22, 3) := by decide +kernel
theorem dX0_ownerOn_4 : decode cX0_ownerOn 4 = .ok (.ifCond .eq 21, 3) := by decide +kernel
theorem dX0_ownerOn_7 : decode cX0_ownerOn 7 = .ok (.iload_n 2, 1) := by decide +kernel
theorem dX0_ownerOn_8 : decode cX0_ownerOn 8 = .ok (.invokestatic 26, 3) := by decide +kernel
theorem dX0_ownerOn_11 : decode cX0_ownerOn 11 = .ok (.ifCond .eq 14, 3) := by decide +kernel
theorem dX0_ownerOn_14 : decode cX0_ownerOn 14 = .ok (.aload_n 0, 1) := by decide +kernel
theorem dX0_ownerOn_15 : decode cX0_ownerOn 15 = .ok (.getfield 11, 3) := by decide +kernel
theorem dX0_ownerOn_18 : decode cX0_ownerOn 18 = .ok (.iload_n 1, 1) := by decide +kernel
theorem dX0_ownerOn_19 : decode cX0_ownerOn 19 = .ok (.aaload, 1) := by decide +kernel
theorem dX0_ownerOn_20 : decode cX0_ownerOn 20 = .ok (.iload_n 2, 1) := by decide +kernel
theorem dX0_ownerOn_21 : decode cX0_ownerOn 21 = .ok (.iaload, 1) := by decide +kernel
theorem dX0_ownerOn_22 : decode cX0_ownerOn 22 = .ok (.goto 4, 3) := by decide +kernel
theorem dX0_ownerOn_25 : decode cX0_ownerOn 25 = .ok (.iconst (-1), 1) := by decide +kernel
theorem dX0_ownerOn_26 : decode cX0_ownerOn 26 = .ok (.ireturn, 1) := by decide +kernel
theorem dX0_tellTurns_0 : decode cX0_tellTurns 0 = .ok (.iconst 0, 1) := by decide +kernel
theorem dX0_tellTurns_1 : decode cX0_tellTurns 1 = .ok (.istore_n 3, 1) := by decide +kernel
theorem dX0_tellTurns_2 : decode cX0_tellTurns 2 = .ok (.iload_n 3, 1) := by decide +kernel
theorem dX0_tellTurns_3 : decode cX0_tellTurns 3 = .ok (.bipush 6, 2) := by decide +kernel
theorem dX0_tellTurns_5 : decode cX0_tellTurns 5 = .ok (.if_icmp .ge 46, 3) := by decide +kernel
theorem dX0_tellTurns_8 : decode cX0_tellTurns 8 = .ok (.iload_n 2, 1) := by decide +kernel
theorem dX0_tellTurns_9 : decode cX0_tellTurns 9 = .ok (.iconst 0, 1) := by decide +kernel
theorem dX0_tellTurns_10 : decode cX0_tellTurns 10 = .ok (.invokestatic 29, 3) := by decide +kernel
theorem dX0_tellTurns_13 : decode cX0_tellTurns 13 = .ok (.istore 4, 2) := by decide +kernel
theorem dX0_tellTurns_15 : decode cX0_tellTurns 15 = .ok (.iload 4, 2) := by decide +kernel
theorem dX0_tellTurns_17 : decode cX0_tellTurns 17 = .ok (.sipush 199, 3) := by decide +kernel
theorem dX0_tellTurns_20 : decode cX0_tellTurns 20 = .ok (.if_icmp .gt 25, 3) := by decide +kernel
theorem dX0_tellTurns_23 : decode cX0_tellTurns 23 = .ok (.aload_n 0, 1) := by decide +kernel
theorem dX0_tellTurns_24 : decode cX0_tellTurns 24 = .ok (.getfield 11, 3) := by decide +kernel
theorem dX0_tellTurns_27 : decode cX0_tellTurns 27 = .ok (.iload_n 3, 1) := by decide +kernel
theorem dX0_tellTurns_28 : decode cX0_tellTurns 28 = .ok (.aaload, 1) := by decide +kernel
theorem dX0_tellTurns_29 : decode cX0_tellTurns 29 = .ok (.iload 4, 2) := by decide +kernel
theorem dX0_tellTurns_31 : decode cX0_tellTurns 31 = .ok (.aload_n 1, 1) := by decide +kernel
theorem dX0_tellTurns_32 : decode cX0_tellTurns 32 = .ok (.iload_n 3, 1) := by decide +kernel
theorem dX0_tellTurns_33 : decode cX0_tellTurns 33 = .ok (.iload 4, 2) := by decide +kernel
theorem dX0_tellTurns_35 : decode cX0_tellTurns 35 = .ok (.invokevirtual 35, 3) := by decide +kernel
theorem dX0_tellTurns_38 : decode cX0_tellTurns 38 = .ok (.iastore, 1) := by decide +kernel
theorem dX0_tellTurns_39 : decode cX0_tellTurns 39 = .ok (.iinc 4 1, 3) := by decide +kernel
theorem dX0_tellTurns_42 : decode cX0_tellTurns 42 = .ok (.goto (-27), 3) := by decide +kernel
theorem dX0_tellTurns_45 : decode cX0_tellTurns 45 = .ok (.iinc 3 1, 3) := by decide +kernel
theorem dX0_tellTurns_48 : decode cX0_tellTurns 48 = .ok (.goto (-46), 3) := by decide +kernel
theorem dX0_tellTurns_51 : decode cX0_tellTurns 51 = .ok (.return_, 1) := by decide +kernel
theorem dX1_grow_0 : decode cX1_grow 0 = .ok (.iconst 0, 1) := by decide +kernel
theorem dX1_grow_1 : decode cX1_grow 1 = .ok (.istore_n 3, 1) := by decide +kernel
theorem dX1_grow_2 : decode cX1_grow 2 = .ok (.iload_n 3, 1) := by decide +kernel
theorem dX1_grow_3 : decode cX1_grow 3 = .ok (.bipush 6, 2) := by decide +kernel
theorem dX1_grow_5 : decode cX1_grow 5 = .ok (.if_icmp .ge 57, 3) := by decide +kernel
theorem dX1_grow_8 : decode cX1_grow 8 = .ok (.aload_n 2, 1) := by decide +kernel
theorem dX1_grow_9 : decode cX1_grow 9 = .ok (.iload_n 3, 1) := by decide +kernel
theorem dX1_grow_10 : decode cX1_grow 10 = .ok (.invokevirtual 33, 3) := by decide +kernel
theorem dX1_grow_13 : decode cX1_grow 13 = .ok (.ifCond .eq 43, 3) := by decide +kernel
theorem dX1_grow_16 : decode cX1_grow 16 = .ok (.aload_n 0, 1) := by decide +kernel
theorem dX1_grow_17 : decode cX1_grow 17 = .ok (.getfield 9, 3) := by decide +kernel
theorem dX1_grow_20 : decode cX1_grow 20 = .ok (.iload_n 3, 1) := by decide +kernel
theorem dX1_grow_21 : decode cX1_grow 21 = .ok (.aload_n 1, 1) := by decide +kernel
theorem dX1_grow_22 : decode cX1_grow 22 = .ok (.getfield 9, 3) := by decide +kernel
theorem dX1_grow_25 : decode cX1_grow 25 = .ok (.iload_n 3, 1) := by decide +kernel
theorem dX1_grow_26 : decode cX1_grow 26 = .ok (.iaload, 1) := by decide +kernel
theorem dX1_grow_27 : decode cX1_grow 27 = .ok (.aload_n 2, 1) := by decide +kernel
theorem dX1_grow_28 : decode cX1_grow 28 = .ok (.getfield 39, 3) := by decide +kernel
theorem dX1_grow_31 : decode cX1_grow 31 = .ok (.iload_n 3, 1) := by decide +kernel
theorem dX1_grow_32 : decode cX1_grow 32 = .ok (.iaload, 1) := by decide +kernel
theorem dX1_grow_33 : decode cX1_grow 33 = .ok (.iadd, 1) := by decide +kernel
theorem dX1_grow_34 : decode cX1_grow 34 = .ok (.aload_n 2, 1) := by decide +kernel
theorem dX1_grow_35 : decode cX1_grow 35 = .ok (.getfield 42, 3) := by decide +kernel
theorem dX1_grow_38 : decode cX1_grow 38 = .ok (.iload_n 3, 1) := by decide +kernel
theorem dX1_grow_39 : decode cX1_grow 39 = .ok (.iaload, 1) := by decide +kernel
theorem dX1_grow_40 : decode cX1_grow 40 = .ok (.invokestatic 45, 3) := by decide +kernel
theorem dX1_grow_43 : decode cX1_grow 43 = .ok (.iastore, 1) := by decide +kernel
theorem dX1_grow_44 : decode cX1_grow 44 = .ok (.aload_n 0, 1) := by decide +kernel
theorem dX1_grow_45 : decode cX1_grow 45 = .ok (.getfield 15, 3) := by decide +kernel
theorem dX1_grow_48 : decode cX1_grow 48 = .ok (.iload_n 3, 1) := by decide +kernel
theorem dX1_grow_49 : decode cX1_grow 49 = .ok (.aload_n 0, 1) := by decide +kernel
theorem dX1_grow_50 : decode cX1_grow 50 = .ok (.getfield 9, 3) := by decide +kernel
theorem dX1_grow_53 : decode cX1_grow 53 = .ok (.iload_n 3, 1) := by decide +kernel
theorem dX1_grow_54 : decode cX1_grow 54 = .ok (.iaload, 1) := by decide +kernel
theorem dX1_grow_55 : decode cX1_grow 55 = .ok (.iastore, 1) := by decide +kernel
theorem dX1_grow_56 : decode cX1_grow 56 = .ok (.iinc 3 1, 3) := by decide +kernel
theorem dX1_grow_59 : decode cX1_grow 59 = .ok (.goto (-57), 3) := by decide +kernel
theorem dX1_grow_62 : decode cX1_grow 62 = .ok (.return_, 1) := by decide +kernel
theorem dX1_guestMany_0 : decode cX1_guestMany 0 = .ok (.aload_n 1, 1) := by decide +kernel
theorem dX1_guestMany_1 : decode cX1_guestMany 1 = .ok (.iload_n 3, 1) := by decide +kernel
theorem dX1_guestMany_2 : decode cX1_guestMany 2 = .ok (.iload_n 2, 1) := by decide +kernel
theorem dX1_guestMany_3 : decode cX1_guestMany 3 = .ok (.aload_n 0, 1) := by decide +kernel
theorem dX1_guestMany_4 : decode cX1_guestMany 4 = .ok (.getfield 18, 3) := by decide +kernel
theorem dX1_guestMany_7 : decode cX1_guestMany 7 = .ok (.iload_n 2, 1) := by decide +kernel
theorem dX1_guestMany_8 : decode cX1_guestMany 8 = .ok (.iaload, 1) := by decide +kernel
theorem dX1_guestMany_9 : decode cX1_guestMany 9 = .ok (.invokevirtual 68, 3) := by decide +kernel
theorem dX1_guestMany_12 : decode cX1_guestMany 12 = .ok (.ireturn, 1) := by decide +kernel
theorem dX1_isRight_0 : decode cX1_isRight 0 = .ok (.aload_n 0, 1) := by decide +kernel
theorem dX1_isRight_1 : decode cX1_isRight 1 = .ok (.getfield 18, 3) := by decide +kernel
theorem dX1_isRight_4 : decode cX1_isRight 4 = .ok (.iload_n 2, 1) := by decide +kernel
theorem dX1_isRight_5 : decode cX1_isRight 5 = .ok (.iaload, 1) := by decide +kernel
theorem dX1_isRight_6 : decode cX1_isRight 6 = .ok (.iload_n 3, 1) := by decide +kernel
theorem dX1_isRight_7 : decode cX1_isRight 7 = .ok (.if_icmp .eq 17, 3) := by decide +kernel
theorem dX1_isRight_10 : decode cX1_isRight 10 = .ok (.aload_n 1, 1) := by decide +kernel
theorem dX1_isRight_11 : decode cX1_isRight 11 = .ok (.aload_n 0, 1) := by decide +kernel
theorem dX1_isRight_12 : decode cX1_isRight 12 = .ok (.getfield 18, 3) := by decide +kernel
theorem dX1_isRight_15 : decode cX1_isRight 15 = .ok (.iload_n 2, 1) := by decide +kernel
theorem dX1_isRight_16 : decode cX1_isRight 16 = .ok (.iaload, 1) := by decide +kernel
theorem dX1_isRight_17 : decode cX1_isRight 17 = .ok (.iload_n 3, 1) := by decide +kernel
theorem dX1_isRight_18 : decode cX1_isRight 18 = .ok (.invokevirtual 61, 3) := by decide +kernel
theorem dX1_isRight_21 : decode cX1_isRight 21 = .ok (.ifCond .eq 5, 3) := by decide +kernel
theorem dX1_isRight_24 : decode cX1_isRight 24 = .ok (.iconst 1, 1) := by decide +kernel
theorem dX1_isRight_25 : decode cX1_isRight 25 = .ok (.ireturn, 1) := by decide +kernel
theorem dX1_isRight_26 : decode cX1_isRight 26 = .ok (.iconst 0, 1) := by decide +kernel
theorem dX1_isRight_27 : decode cX1_isRight 27 = .ok (.istore 4, 2) := by decide +kernel
theorem dX1_isRight_29 : decode cX1_isRight 29 = .ok (.iload 4, 2) := by decide +kernel
theorem dX1_isRight_31 : decode cX1_isRight 31 = .ok (.bipush 6, 2) := by decide +kernel
theorem dX1_isRight_33 : decode cX1_isRight 33 = .ok (.if_icmp .ge 42, 3) := by decide +kernel
theorem dX1_isRight_36 : decode cX1_isRight 36 = .ok (.aload_n 0, 1) := by decide +kernel
theorem dX1_isRight_37 : decode cX1_isRight 37 = .ok (.getfield 18, 3) := by decide +kernel
theorem dX1_isRight_40 : decode cX1_isRight 40 = .ok (.iload 4, 2) := by decide +kernel
theorem dX1_isRight_42 : decode cX1_isRight 42 = .ok (.iaload, 1) := by decide +kernel
theorem dX1_isRight_43 : decode cX1_isRight 43 = .ok (.iload_n 3, 1) := by decide +kernel
theorem dX1_isRight_44 : decode cX1_isRight 44 = .ok (.if_icmp .ne 25, 3) := by decide +kernel
theorem dX1_isRight_47 : decode cX1_isRight 47 = .ok (.aload_n 0, 1) := by decide +kernel
theorem dX1_isRight_48 : decode cX1_isRight 48 = .ok (.getfield 15, 3) := by decide +kernel
theorem dX1_isRight_51 : decode cX1_isRight 51 = .ok (.iload 4, 2) := by decide +kernel
theorem dX1_isRight_53 : decode cX1_isRight 53 = .ok (.iaload, 1) := by decide +kernel
theorem dX1_isRight_54 : decode cX1_isRight 54 = .ok (.ifCond .ne 15, 3) := by decide +kernel
theorem dX1_isRight_57 : decode cX1_isRight 57 = .ok (.aload_n 1, 1) := by decide +kernel
theorem dX1_isRight_58 : decode cX1_isRight 58 = .ok (.iload 4, 2) := by decide +kernel
theorem dX1_isRight_60 : decode cX1_isRight 60 = .ok (.iload_n 2, 1) := by decide +kernel
theorem dX1_isRight_61 : decode cX1_isRight 61 = .ok (.invokevirtual 65, 3) := by decide +kernel
theorem dX1_isRight_64 : decode cX1_isRight 64 = .ok (.ifCond .eq 5, 3) := by decide +kernel
theorem dX1_isRight_67 : decode cX1_isRight 67 = .ok (.iconst 1, 1) := by decide +kernel
theorem dX1_isRight_68 : decode cX1_isRight 68 = .ok (.ireturn, 1) := by decide +kernel
theorem dX1_isRight_69 : decode cX1_isRight 69 = .ok (.iinc 4 1, 3) := by decide +kernel
theorem dX1_isRight_72 : decode cX1_isRight 72 = .ok (.goto (-43), 3) := by decide +kernel
theorem dX1_isRight_75 : decode cX1_isRight 75 = .ok (.iconst 0, 1) := by decide +kernel
theorem dX1_isRight_76 : decode cX1_isRight 76 = .ok (.ireturn, 1) := by decide +kernel
theorem dX1_settle_0 : decode cX1_settle 0 = .ok (.iconst 0, 1) := by decide +kernel
theorem dX1_settle_1 : decode cX1_settle 1 = .ok (.istore 4, 2) := by decide +kernel
theorem dX1_settle_3 : decode cX1_settle 3 = .ok (.iload 4, 2) := by decide +kernel
theorem dX1_settle_5 : decode cX1_settle 5 = .ok (.bipush 6, 2) := by decide +kernel
theorem dX1_settle_7 : decode cX1_settle 7 = .ok (.if_icmp .ge 49, 3) := by decide +kernel
theorem dX1_settle_10 : decode cX1_settle 10 = .ok (.aload_n 1, 1) := by decide +kernel
theorem dX1_settle_11 : decode cX1_settle 11 = .ok (.iload 4, 2) := by decide +kernel
theorem dX1_settle_13 : decode cX1_settle 13 = .ok (.aload_n 0, 1) := by decide +kernel
theorem dX1_settle_14 : decode cX1_settle 14 = .ok (.getfield 15, 3) := by decide +kernel
theorem dX1_settle_17 : decode cX1_settle 17 = .ok (.iload 4, 2) := by decide +kernel
theorem dX1_settle_19 : decode cX1_settle 19 = .ok (.iaload, 1) := by decide +kernel
theorem dX1_settle_20 : decode cX1_settle 20 = .ok (.invokevirtual 51, 3) := by decide +kernel
theorem dX1_settle_23 : decode cX1_settle 23 = .ok (.istore 5, 2) := by decide +kernel
theorem dX1_settle_25 : decode cX1_settle 25 = .ok (.aload_n 0, 1) := by decide +kernel
theorem dX1_settle_26 : decode cX1_settle 26 = .ok (.getfield 18, 3) := by decide +kernel
theorem dX1_settle_29 : decode cX1_settle 29 = .ok (.iload 4, 2) := by decide +kernel
theorem dX1_settle_31 : decode cX1_settle 31 = .ok (.iload 5, 2) := by decide +kernel
theorem dX1_settle_33 : decode cX1_settle 33 = .ok (.iconst (-1), 1) := by decide +kernel
theorem dX1_settle_34 : decode cX1_settle 34 = .ok (.if_icmp .ne 13, 3) := by decide +kernel
theorem dX1_settle_37 : decode cX1_settle 37 = .ok (.aload_n 2, 1) := by decide +kernel
theorem dX1_settle_38 : decode cX1_settle 38 = .ok (.iload 4, 2) := by decide +kernel
theorem dX1_settle_40 : decode cX1_settle 40 = .ok (.iload_n 3, 1) := by decide +kernel
theorem dX1_settle_41 : decode cX1_settle 41 = .ok (.invokevirtual 56, 3) := by decide +kernel
theorem dX1_settle_44 : decode cX1_settle 44 = .ok (.goto 5, 3) := by decide +kernel
theorem dX1_settle_47 : decode cX1_settle 47 = .ok (.iload 5, 2) := by decide +kernel
theorem dX1_settle_49 : decode cX1_settle 49 = .ok (.iastore, 1) := by decide +kernel
theorem dX1_settle_50 : decode cX1_settle 50 = .ok (.iinc 4 1, 3) := by decide +kernel
theorem dX1_settle_53 : decode cX1_settle 53 = .ok (.goto (-50), 3) := by decide +kernel
theorem dX1_settle_56 : decode cX1_settle 56 = .ok (.return_, 1) := by decide +kernel
set_option maxHeartbeats 4000000 in
set_option maxRecDepth 100000 in
/-- WellCourt$Calendar.ownerOn -/
theorem s_X0_ownerOn (l : Launch) (G : va_G) (cy : Nat → ClassId) (sK sV : Nat → Nat) (ad : Nat → Nat → Nat) (sz : Nat) (st : gS) (hB : gBd bX st) (x : Int32) (y : Int32) (Xx : Int) (Xy : Int) (kx : x.toInt = Xx) (ky : y.toInt = Xy) : gsMi l yX0_ownerOn cX0_ownerOn 3 (some .int) ({ frames := 1, cells := 0, slots := 0, locals := 20 } : Room) G cy sK sV (shX cy ad) cnX ad sz [.ref (ad 9 0), .int x, .int y] st (fun (r : Int32) (u : gS) => gBN bX kX [] st u ∧ (((0 ≤ Xx ∧ Xx ≤ 5 ∧ 0 ≤ Xy ∧ Xy ≤ 199) ∨ r.toInt = -1))) := by
  refine gs_start (fun A => gsQi G (shX cy ad) cnX ad _ A) (by decide) (Nat.le_of_ble_eq_true rfl) ?_
  intro p e s m below meth c A ls H hx hb hr hml hlocks hown hts hK hov hE hI hM hm hS hA hl
  have hl : lv_has ls 3 [(0, .ref (ad 9 0)), (1, .int x), (2, .int y)] := hl
  have hB_st : gBN bX kX [] st st := gBN.rf hB
  refine lv_iload_n hx hb dX0_ownerOn_0 rfl (lv_at hl 1 rfl) ?_
  refine gs_calli (va_runSN (As := [.int x]) (rest := []) ⟨hx, hb, hml, hown, hts⟩ (s_isWell l G cy sK sV ad H.size st hB_st.1 x x.toInt rfl ) ⟨(va_cnB 1 hts (gz_good gm_346) rfl rfl rfl (hov.2.2 _ gn_559) (hts _ gm_1) ⟨by decide +kernel, by decide +kernel, by decide +kernel⟩ ⟨Nat.le_of_ble_eq_true rfl, Nat.le_of_ble_eq_true rfl⟩), hts _ gm_345, trivial⟩ (gs_preS hK hov hE hI hM hm hS hA) rfl rfl hl.1 rfl (lv_room (Nat.le_of_ble_eq_true rfl)) dX0_ownerOn_1 ⟨Nat.le_of_ble_eq_true rfl, Nat.le_of_ble_eq_true rfl⟩) hm hS hA (fun r_1 st_1 H locs hw_1 hM hS => ?_)
  obtain ⟨n_1, hw_1⟩ := hw_1
  have n_1 := gBN.nil n_1
  subst n_1
  rcases hw_1 with ⟨rfl, hw_1_0, hw_1_1⟩ | ⟨rfl, hw_1_0⟩
  · skip
    refine lv_if_eq (tgt := 25) hx hb dX0_ownerOn_4 (by decide) (fun h9 => absurd h9 (by decide)) (fun _ => ?_)
    refine lv_iload_n hx hb dX0_ownerOn_7 rfl (lv_at hl 2 rfl) ?_
    refine gs_calli (va_runSN (As := [.int y]) (rest := []) ⟨hx, hb, hml, hown, hts⟩ (s_isDate l G cy sK sV ad H.size st hB_st.1 y y.toInt rfl ) ⟨(va_cnB 1 hts (gz_good gm_562) rfl rfl rfl (hov.2.2 _ gn_560) (hts _ gm_1) ⟨by decide +kernel, by decide +kernel, by decide +kernel⟩ ⟨Nat.le_of_ble_eq_true rfl, Nat.le_of_ble_eq_true rfl⟩), hts _ gm_561, trivial⟩ (gs_preS hK hov hE hI hM hm hS hA) rfl rfl hl.1 rfl (lv_room (Nat.le_of_ble_eq_true rfl)) dX0_ownerOn_8 ⟨Nat.le_of_ble_eq_true rfl, Nat.le_of_ble_eq_true rfl⟩) hm hS hA (fun r_2 st_2 H locs hw_2 hM hS => ?_)
    obtain ⟨n_2, hw_2⟩ := hw_2
    have n_2 := gBN.nil n_2
    subst n_2
    rcases hw_2 with ⟨rfl, hw_2_0, hw_2_1⟩ | ⟨rfl, hw_2_0⟩
    · skip
      refine lv_if_eq (tgt := 25) hx hb dX0_ownerOn_11 (by decide) (fun h9 => absurd h9 (by decide)) (fun _ => ?_)
      refine lv_aload_n hx hb dX0_ownerOn_14 rfl (lv_at hl 0 rfl) ?_
      refine gs_get (C := RX0) (T := TX0) (N := 1) hx hb hts inX0 hown hK hM 9 0 0 (by decide) rfl rfl (by decide) (hts _ gm_109) (fun _ h9 => h9) rfl dX0_ownerOn_15 ?_
      refine lv_iload_n hx hb dX0_ownerOn_18 rfl (lv_at hl 1 rfl) ?_
      have h_3 : x.toNatClampNeg < 6 := gs_lt (vp_in_iff.mpr ⟨by omega, by omega⟩)
      refine gs_alda hx hb hK hM 10 0 (by decide) rfl (vp_in_iff.mpr ⟨by omega, by omega⟩) (a := ad 11 x.toNatClampNeg) (if_pos h_3) dX0_ownerOn_19 ?_
      refine lv_iload_n hx hb dX0_ownerOn_20 rfl (lv_at hl 2 rfl) ?_
      refine gs_iald hx hb hK hM 11 x.toNatClampNeg h_3 rfl (vp_in_iff.mpr ⟨by omega, by omega⟩) dX0_ownerOn_21 ?_
      refine lv_topi (fun x_4 ex_4 => ?_)
      have qx_4 : x_4.toInt = (st 11 x.toNatClampNeg (y.toNatClampNeg)).toInt := congrArg Int32.toInt ex_4
      refine lv_goto (tgt := 26) hx hb dX0_ownerOn_22 (by decide) ?_
      exact gs_iret hx hb hr hlocks hM hS rfl ⟨hB_st, (by omega)⟩ (by exact Nat.le_refl _) (by exact Nat.le_refl _) dX0_ownerOn_26
    · skip
      refine lv_if_eq (tgt := 25) hx hb dX0_ownerOn_11 (by decide) (fun _ => ?_) (fun h9 => absurd (by decide) h9)
      refine lv_iconst (v := (-1)) hx hb dX0_ownerOn_25 (by decide) ?_
      exact gs_iret hx hb hr hlocks hM hS rfl ⟨hB_st, (by have hl0 : ((-1) : Int32).toInt = -1 := (by decide); omega)⟩ (by exact Nat.le_refl _) (by exact Nat.le_refl _) dX0_ownerOn_26
  · skip
    refine lv_if_eq (tgt := 25) hx hb dX0_ownerOn_4 (by decide) (fun _ => ?_) (fun h9 => absurd (by decide) h9)
    refine lv_iconst (v := (-1)) hx hb dX0_ownerOn_25 (by decide) ?_
    exact gs_iret hx hb hr hlocks hM hS rfl ⟨hB_st, (by have hl0 : ((-1) : Int32).toInt = -1 := (by decide); omega)⟩ (by exact Nat.le_refl _) (by exact Nat.le_refl _) dX0_ownerOn_26

set_option maxHeartbeats 4000000 in
set_option maxRecDepth 100000 in
/-- WellCourt$Calendar.tellTurns -/
theorem s_X0_tellTurns (l : Launch) (G : va_G) (cy : Nat → ClassId) (sK sV : Nat → Nat) (ad : Nat → Nat → Nat) (sz : Nat) (st : gS) (hB : gBd bX st) (z : Int32) (x : Int32) (Xx : Int) (kx : x.toInt = Xx) (hz_z : (0 : Int) ≤ z.toInt ∧ z.toInt ≤ (1 : Int)) : gsMv l yX0_tellTurns cX0_tellTurns 5 ({ frames := 1, cells := 0, slots := 0, locals := 23 } : Room) G cy sK sV (shX cy ad) cnX ad sz [.ref (ad 9 0), .ref (ad 25 z.toNatClampNeg), .int x] st (fun (u : gS) => gBN bX kX [1100] st u ∧ (True)) := by
  refine gs_start (fun A => gsQv G (shX cy ad) cnX ad _ A) (by decide) (Nat.le_of_ble_eq_true rfl) ?_
  intro p e s m below meth c A ls H hx hb hr hml hlocks hown hts hK hov hE hI hM hm hS hA hl
  have hl : lv_has ls 5 [(0, .ref (ad 9 0)), (1, .ref (ad 25 z.toNatClampNeg)), (2, .int x)] := hl
  have hB_st : gBN bX kX [1100] st st := gBN.rf hB
  generalize hQe : MQ below _ _ s _ _ A = Q
  refine lv_iconst (v := 0) hx hb dX0_tellTurns_0 (by decide) ?_
  refine lv_istore_n (lv' := [(3, .int 0), (0, .ref (ad 9 0)), (1, .ref (ad 25 z.toNatClampNeg)), (2, .int x)]) hx hb dX0_tellTurns_1 rfl hl (by decide) rfl (fun ls hl => ?_)
  have lp1 : ∀ (n1 : Nat) (sv1 : gS) (y1_0 : Int32) (H : Heap) (locs : List Loc) (ls : Array Slot), (6 - y1_0.toInt).toNat < n1 → gBN bX kX [1100] st sv1 → (0 ≤ y1_0.toInt) → gM G (shX cy ad) cnX ad sv1 H → va_S A s.heap H locs → lv_has ls 5 [(3, .int y1_0), (0, .ref (ad 9 0)), (1, .ref (ad 25 z.toNatClampNeg)), (2, .int x)] → W p l e ({ frames := 1, cells := 0, slots := 0, locals := 23 } : Room) s m [.ref (ad 9 0), .ref (ad 25 z.toNatClampNeg), .int x].toArray below meth c H locs 0 0 Q (F0 m 2 ls []) := by
    intro n1
    induction n1 with
    | zero => intro sv1 y1_0 H locs ls h9; exact absurd h9 (Nat.not_lt_zero _)
    | succ n1 ih_1 =>
      intro sv1 y1_0 H locs ls hme1 hB_sv1 hv1_0 hM hS hl
      refine lv_iload_n hx hb dX0_tellTurns_2 rfl (lv_at hl 0 rfl) ?_
      refine lv_bipush (v := 6) hx hb dX0_tellTurns_3 (by decide) ?_
      refine lv_icmp_ge (tgt := 51) hx hb dX0_tellTurns_5 (by decide) (fun c_2 => ?_) (fun c_2 => ?_)
      · have ic_2 := gz_le (by decide : (6 : Int32).toInt = 6) (rfl : y1_0.toInt = y1_0.toInt) c_2
        rw [← hQe]
        exact gs_vret hx hb hr hlocks hM hS ⟨hB_sv1, trivial⟩ (by exact Nat.le_refl _) (by exact Nat.le_refl _) dX0_tellTurns_51
      · have ic_2 := gz_nle (by decide : (6 : Int32).toInt = 6) (rfl : y1_0.toInt = y1_0.toInt) c_2
        refine lv_iload_n hx hb dX0_tellTurns_8 rfl (lv_at hl 3 rfl) ?_
        refine lv_iconst (v := 0) hx hb dX0_tellTurns_9 (by decide) ?_
        refine va_mmax hx hb (hml.trans hl.1.symm) hown (hts _ gm_536) (hts _ gm_537) (hts _ gm_17) (hts _ gm_538) (Nat.le_of_ble_eq_true rfl) (Nat.le_of_ble_eq_true rfl) (Nat.le_of_ble_eq_true rfl) (Nat.le_of_ble_eq_true rfl) dX0_tellTurns_10 ?_
        refine lv_topi (fun x_3 ex_3 => ?_)
        have tx_3 := gs_max ex_3
        have ux_3 : (0 : Int32).toInt = 0 := (by decide)
        refine lv_istore (lv' := [(4, .int x_3), (3, .int y1_0), (0, .ref (ad 9 0)), (1, .ref (ad 25 z.toNatClampNeg)), (2, .int x)]) hx hb dX0_tellTurns_13 hl (by decide) rfl (fun ls hl => ?_)
        have lp4 : ∀ (n4 : Nat) (sv4 : gS) (y4_0 : Int32) (H : Heap) (locs : List Loc) (ls : Array Slot), (200 - y4_0.toInt).toNat < n4 → gBN bX kX [1100] st sv4 → (0 ≤ y4_0.toInt) → gM G (shX cy ad) cnX ad sv4 H → va_S A s.heap H locs → lv_has ls 5 [(4, .int y4_0), (3, .int y1_0), (0, .ref (ad 9 0)), (1, .ref (ad 25 z.toNatClampNeg)), (2, .int x)] → W p l e ({ frames := 1, cells := 0, slots := 0, locals := 23 } : Room) s m [.ref (ad 9 0), .ref (ad 25 z.toNatClampNeg), .int x].toArray below meth c H locs 0 0 Q (F0 m 15 ls []) := by
          intro n4
          induction n4 with
          | zero => intro sv4 y4_0 H locs ls h9; exact absurd h9 (Nat.not_lt_zero _)
          | succ n4 ih_4 =>
            intro sv4 y4_0 H locs ls hme4 hB_sv4 hv4_0 hM hS hl
            refine lv_iload hx hb dX0_tellTurns_15 (lv_at hl 0 rfl) ?_
            refine lv_sipush (v := 199) hx hb dX0_tellTurns_17 (by decide) ?_
            refine lv_icmp_gt (tgt := 45) hx hb dX0_tellTurns_20 (by decide) (fun c_5 => ?_) (fun c_5 => ?_)
            · have ic_5 := gz_lt (by decide : (199 : Int32).toInt = 199) (rfl : y4_0.toInt = y4_0.toInt) c_5
              obtain ⟨x_6, ex_6⟩ : ∃ y : Int32, y = y1_0 + 1 := ⟨_, rfl⟩
              try have tx_6 : x_6.toInt = y1_0.toInt + 1 := by rw [ex_6]; exact gz_addP (x := y1_0.toInt) (y := 1) rfl (by decide) (by omega) (by omega)
              refine lv_iinc (v := (x_6)) (lv' := [(3, .int x_6), (4, .int y4_0), (0, .ref (ad 9 0)), (1, .ref (ad 25 z.toNatClampNeg)), (2, .int x)]) hx hb dX0_tellTurns_45 hl (k := 1) rfl (by rw [ex_6]; rfl) (by decide) rfl (fun ls hl => ?_)
              refine lv_goto (tgt := 2) hx hb dX0_tellTurns_48 (by decide) ?_
              exact ih_1 sv4 (x_6 : Int32) H _ ls (by omega) hB_sv4 (by omega) hM hS (lv_sub hl [0, 2, 3, 4] rfl)
            · have ic_5 := gz_nlt (by decide : (199 : Int32).toInt = 199) (rfl : y4_0.toInt = y4_0.toInt) c_5
              refine lv_aload_n hx hb dX0_tellTurns_23 rfl (lv_at hl 2 rfl) ?_
              refine gs_get (C := RX0) (T := TX0) (N := 1) hx hb hts inX0 hown hK hM 9 0 0 (by decide) rfl rfl (by decide) (hts _ gm_109) (fun _ h9 => h9) rfl dX0_tellTurns_24 ?_
              refine lv_iload_n hx hb dX0_tellTurns_27 rfl (lv_at hl 1 rfl) ?_
              have h_7 : y1_0.toNatClampNeg < 6 := gs_lt (vp_in_iff.mpr ⟨by omega, by omega⟩)
              refine gs_alda hx hb hK hM 10 0 (by decide) rfl (vp_in_iff.mpr ⟨by omega, by omega⟩) (a := ad 11 y1_0.toNatClampNeg) (if_pos h_7) dX0_tellTurns_28 ?_
              refine lv_iload hx hb dX0_tellTurns_29 (lv_at hl 0 rfl) ?_
              refine lv_aload_n hx hb dX0_tellTurns_31 rfl (lv_at hl 3 rfl) ?_
              refine lv_iload_n hx hb dX0_tellTurns_32 rfl (lv_at hl 1 rfl) ?_
              refine lv_iload hx hb dX0_tellTurns_33 (lv_at hl 0 rfl) ?_
              refine gs_calli (va_runV (As := [.int y1_0, .int y4_0]) (rest := [.int y4_0, .ref (ad 11 y1_0.toNatClampNeg)]) ⟨hx, hb, hml, hown, hts⟩ (s_X4_turnOn l G cy sK sV ad H.size sv4 hB_sv4.1 z y1_0 y4_0 y1_0.toInt y4_0.toInt rfl rfl hz_z (by first | decide | omega) (by first | decide | omega) (by first | decide | omega)) ⟨(gz_cb (n := 2) hts gm_539 gm_10 gm_542 ⟨by decide +kernel, by decide +kernel, by decide +kernel⟩ ⟨Nat.le_of_ble_eq_true rfl, Nat.le_of_ble_eq_true rfl⟩), hts _ gm_540, hts _ gm_541⟩ (gs_preV hK hov hE hI hM hm hS hA 25 z.toNatClampNeg (gs_sel hz_z) rfl rfl) rfl rfl hl.1 rfl (lv_room (Nat.le_of_ble_eq_true rfl)) dX0_tellTurns_35 ⟨Nat.le_of_ble_eq_true rfl, Nat.le_of_ble_eq_true rfl⟩) hm hS hA (fun r_8 st_8 H locs hw_8 hM hS => ?_)
              obtain ⟨n_8, hw_8⟩ := hw_8
              have n_8 := gBN.nil n_8
              subst n_8
              refine gs_iast hx hb hK hI hm hM hS 11 y1_0.toNatClampNeg h_7 (fun _ => rfl) (vp_in_iff.mpr ⟨by omega, by omega⟩) dX0_tellTurns_38 (fun st_9 H locs est_9 hM hS => ?_)
              have hB_st_9 : gBN bX kX [1100] st st_9 := by rw [est_9]; exact hB_sv4.up (show (1100 : Nat) ∈ _ from by decide) (gi_lo _) (gi_hi _)
              obtain ⟨x_10, ex_10⟩ : ∃ y : Int32, y = y4_0 + 1 := ⟨_, rfl⟩
              try have tx_10 : x_10.toInt = y4_0.toInt + 1 := by rw [ex_10]; exact gz_addP (x := y4_0.toInt) (y := 1) rfl (by decide) (by omega) (by omega)
              refine lv_iinc (v := (x_10)) (lv' := [(4, .int x_10), (3, .int y1_0), (0, .ref (ad 9 0)), (1, .ref (ad 25 z.toNatClampNeg)), (2, .int x)]) hx hb dX0_tellTurns_39 hl (k := 0) rfl (by rw [ex_10]; rfl) (by decide) rfl (fun ls hl => ?_)
              refine lv_goto (tgt := 15) hx hb dX0_tellTurns_42 (by decide) ?_
              exact ih_4 st_9 (x_10 : Int32) H _ ls (by omega) hB_st_9 (by omega) hM hS (lv_sub hl [0, 1, 2, 3, 4] rfl)
        exact lp4 ((200 - (x_3 : Int32).toInt).toNat + 1) sv1 (x_3 : Int32) H _ ls (Nat.lt_succ_self _) hB_sv1 (by omega) hM hS (lv_sub hl [0, 1, 2, 3, 4] rfl)
  exact lp1 ((6 - ((0 : Int32) : Int32).toInt).toNat + 1) st ((0 : Int32) : Int32) H _ ls (Nat.lt_succ_self _) hB_st (by have hl0 : (0 : Int32).toInt = 0 := (by decide); omega) hM hS (lv_sub hl [0, 1, 2, 3] rfl)

set_option maxHeartbeats 4000000 in
set_option maxRecDepth 100000 in
/-- WellCourt$Calendar.keep -/
theorem s_X0_keep (l : Launch) (G : va_G) (cy : Nat → ClassId) (sK sV : Nat → Nat) (ad : Nat → Nat → Nat) (sz : Nat) (st : gS) (hB : gBd bX st) (i : Nat) (x : Int32) (Xx : Int) (kx : x.toInt = Xx) (hi_i : i < 16) : gsMv l yX0_keep cX0_keep 4 ({ frames := 1, cells := 0, slots := 0, locals := 20 } : Room) G cy sK sV (shX cy ad) cnX ad sz [.ref (ad 9 0), .ref (ad 12 i), .int x] st (fun (u : gS) => gBN bX kX [1100] st u ∧ (True)) := by
  refine gs_start (fun A => gsQv G (shX cy ad) cnX ad _ A) (by decide) (Nat.le_of_ble_eq_true rfl) ?_
  intro p e s m below meth c A ls H hx hb hr hml hlocks hown hts hK hov hE hI hM hm hS hA hl
  have hl : lv_has ls 4 [(0, .ref (ad 9 0)), (1, .ref (ad 12 i)), (2, .int x)] := hl
  have hB_st : gBN bX kX [1100] st st := gBN.rf hB
  generalize hQe : MQ below _ _ s _ _ A = Q
  refine lv_iconst (v := 0) hx hb dX0_keep_0 (by decide) ?_
  refine lv_istore_n (lv' := [(3, .int 0), (0, .ref (ad 9 0)), (1, .ref (ad 12 i)), (2, .int x)]) hx hb dX0_keep_1 rfl hl (by decide) rfl (fun ls hl => ?_)
  have lp1 : ∀ (n1 : Nat) (sv1 : gS) (y1_0 : Int32) (H : Heap) (locs : List Loc) (ls : Array Slot), (6 - y1_0.toInt).toNat < n1 → gBN bX kX [1100] st sv1 → (0 ≤ y1_0.toInt) → gM G (shX cy ad) cnX ad sv1 H → va_S A s.heap H locs → lv_has ls 4 [(3, .int y1_0), (0, .ref (ad 9 0)), (1, .ref (ad 12 i)), (2, .int x)] → W p l e ({ frames := 1, cells := 0, slots := 0, locals := 20 } : Room) s m [.ref (ad 9 0), .ref (ad 12 i), .int x].toArray below meth c H locs 0 0 Q (F0 m 2 ls []) := by
    intro n1
    induction n1 with
    | zero => intro sv1 y1_0 H locs ls h9; exact absurd h9 (Nat.not_lt_zero _)
    | succ n1 ih_1 =>
      intro sv1 y1_0 H locs ls hme1 hB_sv1 hv1_0 hM hS hl
      refine lv_iload_n hx hb dX0_keep_2 rfl (lv_at hl 0 rfl) ?_
      refine lv_bipush (v := 6) hx hb dX0_keep_3 (by decide) ?_
      refine lv_icmp_ge (tgt := 35) hx hb dX0_keep_5 (by decide) (fun c_2 => ?_) (fun c_2 => ?_)
      · have ic_2 := gz_le (by decide : (6 : Int32).toInt = 6) (rfl : y1_0.toInt = y1_0.toInt) c_2
        rw [← hQe]
        exact gs_vret hx hb hr hlocks hM hS ⟨hB_sv1, trivial⟩ (by exact Nat.le_refl _) (by exact Nat.le_refl _) dX0_keep_35
      · have ic_2 := gz_nle (by decide : (6 : Int32).toInt = 6) (rfl : y1_0.toInt = y1_0.toInt) c_2
        refine lv_iload_n hx hb dX0_keep_8 rfl (lv_at hl 3 rfl) ?_
        refine gs_calli (va_runSN (As := [.int x]) (rest := []) ⟨hx, hb, hml, hown, hts⟩ (s_isDate l G cy sK sV ad H.size sv1 hB_sv1.1 x x.toInt rfl ) ⟨(va_cnB 1 hts (gz_good gm_562) rfl rfl rfl (hov.2.2 _ gn_560) (hts _ gm_1) ⟨by decide +kernel, by decide +kernel, by decide +kernel⟩ ⟨Nat.le_of_ble_eq_true rfl, Nat.le_of_ble_eq_true rfl⟩), hts _ gm_561, trivial⟩ (gs_preS hK hov hE hI hM hm hS hA) rfl rfl hl.1 rfl (lv_room (Nat.le_of_ble_eq_true rfl)) dX0_keep_9 ⟨Nat.le_of_ble_eq_true rfl, Nat.le_of_ble_eq_true rfl⟩) hm hS hA (fun r_3 st_3 H locs hw_3 hM hS => ?_)
        obtain ⟨n_3, hw_3⟩ := hw_3
        have n_3 := gBN.nil n_3
        subst n_3
        rcases hw_3 with ⟨rfl, hw_3_0, hw_3_1⟩ | ⟨rfl, hw_3_0⟩
        · skip
          refine lv_if_eq (tgt := 35) hx hb dX0_keep_12 (by decide) (fun h9 => absurd h9 (by decide)) (fun _ => ?_)
          refine lv_aload_n hx hb dX0_keep_15 rfl (lv_at hl 1 rfl) ?_
          refine gs_get (C := RX0) (T := TX0) (N := 1) hx hb hts inX0 hown hK hM 9 0 0 (by decide) rfl rfl (by decide) (hts _ gm_109) (fun _ h9 => h9) rfl dX0_keep_16 ?_
          refine lv_iload_n hx hb dX0_keep_19 rfl (lv_at hl 0 rfl) ?_
          have h_4 : y1_0.toNatClampNeg < 6 := gs_lt (vp_in_iff.mpr ⟨by omega, by omega⟩)
          refine gs_alda hx hb hK hM 10 0 (by decide) rfl (vp_in_iff.mpr ⟨by omega, by omega⟩) (a := ad 11 y1_0.toNatClampNeg) (if_pos h_4) dX0_keep_20 ?_
          refine lv_iload_n hx hb dX0_keep_21 rfl (lv_at hl 3 rfl) ?_
          refine lv_aload_n hx hb dX0_keep_22 rfl (lv_at hl 2 rfl) ?_
          refine gs_getN (host := "WellCourt") (C := RX1) (T := TX1) (N := 3) hx hb hts inX1 hown hK hM 12 i 2 hi_i rfl rfl (by decide) (va_Nw.use rfl (hov.2.2 _ gn_126)) (fun _ h9 => h9) rfl dX0_keep_23 ?_
          refine lv_iload_n hx hb dX0_keep_26 rfl (lv_at hl 0 rfl) ?_
          refine gs_iald hx hb hK hM 15 i hi_i rfl (vp_in_iff.mpr ⟨by omega, by omega⟩) dX0_keep_27 ?_
          refine lv_topi (fun x_5 ex_5 => ?_)
          have qx_5 : x_5.toInt = (sv1 15 i (y1_0.toNatClampNeg)).toInt := congrArg Int32.toInt ex_5
          have rx_5 : x_5.toInt = ((st 15 i (y1_0.toNatClampNeg)) : Int32).toInt := by rw [ex_5]; exact congrArg Int32.toInt ((hB_sv1.2 15 i (y1_0.toNatClampNeg) (show (1500 : Nat) ∉ _ from by decide)))
          refine gs_iast hx hb hK hI hm hM hS 11 y1_0.toNatClampNeg h_4 (fun _ => rfl) (vp_in_iff.mpr ⟨by omega, by omega⟩) dX0_keep_28 (fun st_6 H locs est_6 hM hS => ?_)
          have hB_st_6 : gBN bX kX [1100] st st_6 := by rw [est_6]; exact hB_sv1.up (show (1100 : Nat) ∈ _ from by decide) (gi_lo _) (gi_hi _)
          obtain ⟨x_7, ex_7⟩ : ∃ y : Int32, y = y1_0 + 1 := ⟨_, rfl⟩
          try have tx_7 : x_7.toInt = y1_0.toInt + 1 := by rw [ex_7]; exact gz_addP (x := y1_0.toInt) (y := 1) rfl (by decide) (by omega) (by omega)
          refine lv_iinc (v := (x_7)) (lv' := [(3, .int x_7), (0, .ref (ad 9 0)), (1, .ref (ad 12 i)), (2, .int x)]) hx hb dX0_keep_29 hl (k := 0) rfl (by rw [ex_7]; rfl) (by decide) rfl (fun ls hl => ?_)
          refine lv_goto (tgt := 2) hx hb dX0_keep_32 (by decide) ?_
          exact ih_1 st_6 (x_7 : Int32) H _ ls (by omega) hB_st_6 (by omega) hM hS (lv_sub hl [0, 1, 2, 3] rfl)
        · skip
          refine lv_if_eq (tgt := 35) hx hb dX0_keep_12 (by decide) (fun _ => ?_) (fun h9 => absurd (by decide) h9)
          rw [← hQe]
          exact gs_vret hx hb hr hlocks hM hS ⟨hB_sv1, trivial⟩ (by exact Nat.le_refl _) (by exact Nat.le_refl _) dX0_keep_35
  exact lp1 ((6 - ((0 : Int32) : Int32).toInt).toNat + 1) st ((0 : Int32) : Int32) H _ ls (Nat.lt_succ_self _) hB_st (by have hl0 : (0 : Int32).toInt = 0 := (by decide); omega) hM hS (lv_sub hl [0, 1, 2, 3] rfl)

set_option maxHeartbeats 4000000 in
set_option maxRecDepth 100000 in
/-- WellCourt$Calendar.exchange -/
theorem s_X0_exchange (l : Launch) (G : va_G) (cy : Nat → ClassId) (sK sV : Nat → Nat) (ad : Nat → Nat → Nat) (sz : Nat) (st : gS) (hB : gBd bX st) (x : Int32) (y : Int32) (w : Int32) (Xx : Int) (Xy : Int) (Xw : Int) (kx : x.toInt = Xx) (ky : y.toInt = Xy) (kw : w.toInt = Xw) : gsMi l yX0_exchange cX0_exchange 6 (some .int) ({ frames := 2, cells := 0, slots := 0, locals := 42 } : Room) G cy sK sV (shX cy ad) cnX ad sz [.ref (ad 9 0), .int x, .int y, .int w] st (fun (r : Int32) (u : gS) => gBN bX kX [1100] st u ∧ (True)) := by
  refine gs_start (fun A => gsQi G (shX cy ad) cnX ad _ A) (by decide) (Nat.le_of_ble_eq_true rfl) ?_
  intro p e s m below meth c A ls H hx hb hr hml hlocks hown hts hK hov hE hI hM hm hS hA hl
  have hl : lv_has ls 6 [(0, .ref (ad 9 0)), (1, .int x), (2, .int y), (3, .int w)] := hl
  have hB_st : gBN bX kX [1100] st st := gBN.rf hB
  generalize hQe : MQ below _ _ s _ _ A = Q
  refine lv_aload_n hx hb dX0_exchange_0 rfl (lv_at hl 0 rfl) ?_
  refine lv_iload_n hx hb dX0_exchange_1 rfl (lv_at hl 1 rfl) ?_
  refine lv_iload_n hx hb dX0_exchange_2 rfl (lv_at hl 2 rfl) ?_
  refine gs_calli (va_runV (As := [.int x, .int y]) (rest := []) ⟨hx, hb, hml, hown, hts⟩ (s_X0_ownerOn l G cy sK sV ad H.size st hB_st.1 x y x.toInt y.toInt rfl rfl ) ⟨(gz_cb (n := 2) hts gm_634 gm_5 gm_558 ⟨by decide +kernel, by decide +kernel, by decide +kernel⟩ ⟨Nat.le_of_ble_eq_true rfl, Nat.le_of_ble_eq_true rfl⟩), hts _ gm_556, hts _ gm_557⟩ (gs_preV hK hov hE hI hM hm hS hA 9 0 (by decide) rfl rfl) rfl rfl hl.1 rfl (lv_room (Nat.le_of_ble_eq_true rfl)) dX0_exchange_3 ⟨Nat.le_of_ble_eq_true rfl, Nat.le_of_ble_eq_true rfl⟩) hm hS hA (fun r_1 st_1 H locs hw_1 hM hS => ?_)
  obtain ⟨n_1, hw_1⟩ := hw_1
  have n_1 := gBN.nil n_1
  subst n_1
  have hw_1_0 := hw_1
  refine lv_istore (lv' := [(4, .int r_1), (0, .ref (ad 9 0)), (1, .int x), (2, .int y), (3, .int w)]) hx hb dX0_exchange_6 hl (by decide) rfl (fun ls hl => ?_)
  refine lv_iload hx hb dX0_exchange_8 (lv_at hl 0 rfl) ?_
  refine lv_iconst (v := (-1)) hx hb dX0_exchange_10 (by decide) ?_
  refine lv_icmp_eq (tgt := 20) hx hb dX0_exchange_11 (by decide) (fun c_2 => ?_) (fun c_2 => ?_)
  · have ic_2 := gz_eq (rfl : r_1.toInt = r_1.toInt) (by decide : ((-1) : Int32).toInt = -1) c_2
    refine lv_iconst (v := (-1)) hx hb dX0_exchange_20 (by decide) ?_
    rw [← hQe]
    exact gs_iret hx hb hr hlocks hM hS rfl ⟨hB_st, trivial⟩ (by exact Nat.le_refl _) (by exact Nat.le_refl _) dX0_exchange_21
  · have ic_2 := gz_ne (rfl : r_1.toInt = r_1.toInt) (by decide : ((-1) : Int32).toInt = -1) c_2
    refine lv_iload hx hb dX0_exchange_14 (lv_at hl 0 rfl) ?_
    refine lv_iload_n hx hb dX0_exchange_16 rfl (lv_at hl 4 rfl) ?_
    refine lv_icmp_ne (tgt := 22) hx hb dX0_exchange_17 (by decide) (fun c_3 => ?_) (fun c_3 => ?_)
    · have ic_3 := gz_ne (rfl : r_1.toInt = r_1.toInt) (rfl : w.toInt = w.toInt) c_3
      refine lv_iload_n hx hb dX0_exchange_22 rfl (lv_at hl 3 rfl) ?_
      refine lv_iconst (v := 1) hx hb dX0_exchange_23 (by decide) ?_
      refine lv_iadd hx hb dX0_exchange_24 ?_
      refine lv_topi (fun x_4 ex_4 => ?_)
      try have tx_4 : x_4.toInt = y.toInt + 1 := by rw [ex_4]; exact gz_addP (x := y.toInt) (y := 1) rfl (by decide) (by omega) (by omega)
      refine lv_istore (lv' := [(5, .int x_4), (4, .int r_1), (0, .ref (ad 9 0)), (1, .int x), (2, .int y), (3, .int w)]) hx hb dX0_exchange_25 hl (by decide) rfl (fun ls hl => ?_)
      have lp5 : ∀ (n5 : Nat) (sv5 : gS) (y5_0 : Int32) (H : Heap) (locs : List Loc) (ls : Array Slot), (200 - y5_0.toInt).toNat < n5 → gBN bX kX [1100] st sv5 → (Xy < y5_0.toInt) → gM G (shX cy ad) cnX ad sv5 H → va_S A s.heap H locs → lv_has ls 6 [(5, .int y5_0), (4, .int r_1), (0, .ref (ad 9 0)), (1, .int x), (2, .int y), (3, .int w)] → W p l e ({ frames := 2, cells := 0, slots := 0, locals := 42 } : Room) s m [.ref (ad 9 0), .int x, .int y, .int w].toArray below meth c H locs 0 0 Q (F0 m 27 ls []) := by
        intro n5
        induction n5 with
        | zero => intro sv5 y5_0 H locs ls h9; exact absurd h9 (Nat.not_lt_zero _)
        | succ n5 ih_5 =>
          intro sv5 y5_0 H locs ls hme5 hB_sv5 hv5_0 hM hS hl
          refine lv_iload hx hb dX0_exchange_27 (lv_at hl 0 rfl) ?_
          refine lv_sipush (v := 199) hx hb dX0_exchange_29 (by decide) ?_
          refine lv_icmp_gt (tgt := 77) hx hb dX0_exchange_32 (by decide) (fun c_6 => ?_) (fun c_6 => ?_)
          · have ic_6 := gz_lt (by decide : (199 : Int32).toInt = 199) (rfl : y5_0.toInt = y5_0.toInt) c_6
            refine lv_iconst (v := (-1)) hx hb dX0_exchange_77 (by decide) ?_
            rw [← hQe]
            exact gs_iret hx hb hr hlocks hM hS rfl ⟨hB_sv5, trivial⟩ (by exact Nat.le_refl _) (by exact Nat.le_refl _) dX0_exchange_78
          · have ic_6 := gz_nlt (by decide : (199 : Int32).toInt = 199) (rfl : y5_0.toInt = y5_0.toInt) c_6
            refine lv_aload_n hx hb dX0_exchange_35 rfl (lv_at hl 2 rfl) ?_
            refine gs_get (C := RX0) (T := TX0) (N := 1) hx hb hts inX0 hown hK hM 9 0 0 (by decide) rfl rfl (by decide) (hts _ gm_109) (fun _ h9 => h9) rfl dX0_exchange_36 ?_
            refine lv_iload_n hx hb dX0_exchange_39 rfl (lv_at hl 3 rfl) ?_
            have h_7 : x.toNatClampNeg < 6 := gs_lt (vp_in_iff.mpr ⟨by omega, by omega⟩)
            refine gs_alda hx hb hK hM 10 0 (by decide) rfl (vp_in_iff.mpr ⟨by omega, by omega⟩) (a := ad 11 x.toNatClampNeg) (if_pos h_7) dX0_exchange_40 ?_
            refine lv_iload hx hb dX0_exchange_41 (lv_at hl 0 rfl) ?_
            refine gs_iald hx hb hK hM 11 x.toNatClampNeg h_7 rfl (vp_in_iff.mpr ⟨by omega, by omega⟩) dX0_exchange_43 ?_
            refine lv_topi (fun x_8 ex_8 => ?_)
            have qx_8 : x_8.toInt = (sv5 11 x.toNatClampNeg (y5_0.toNatClampNeg)).toInt := congrArg Int32.toInt ex_8
            refine lv_iload_n hx hb dX0_exchange_44 rfl (lv_at hl 5 rfl) ?_
            refine lv_icmp_ne (tgt := 71) hx hb dX0_exchange_45 (by decide) (fun c_9 => ?_) (fun c_9 => ?_)
            · have ic_9 := gz_ne (rfl : x_8.toInt = x_8.toInt) (rfl : w.toInt = w.toInt) c_9
              obtain ⟨x_10, ex_10⟩ : ∃ y : Int32, y = y5_0 + 1 := ⟨_, rfl⟩
              try have tx_10 : x_10.toInt = y5_0.toInt + 1 := by rw [ex_10]; exact gz_addP (x := y5_0.toInt) (y := 1) rfl (by decide) (by omega) (by omega)
              refine lv_iinc (v := (x_10)) (lv' := [(5, .int x_10), (4, .int r_1), (0, .ref (ad 9 0)), (1, .int x), (2, .int y), (3, .int w)]) hx hb dX0_exchange_71 hl (k := 0) rfl (by rw [ex_10]; rfl) (by decide) rfl (fun ls hl => ?_)
              refine lv_goto (tgt := 27) hx hb dX0_exchange_74 (by decide) ?_
              exact ih_5 sv5 (x_10 : Int32) H _ ls (by omega) hB_sv5 (by omega) hM hS (lv_sub hl [0, 1, 2, 3, 4, 5] rfl)
            · have ic_9 := gz_eqn (rfl : x_8.toInt = x_8.toInt) (rfl : w.toInt = w.toInt) c_9
              refine lv_aload_n hx hb dX0_exchange_48 rfl (lv_at hl 2 rfl) ?_
              refine gs_get (C := RX0) (T := TX0) (N := 1) hx hb hts inX0 hown hK hM 9 0 0 (by decide) rfl rfl (by decide) (hts _ gm_109) (fun _ h9 => h9) rfl dX0_exchange_49 ?_
              refine lv_iload_n hx hb dX0_exchange_52 rfl (lv_at hl 3 rfl) ?_
              have h_11 : x.toNatClampNeg < 6 := gs_lt (vp_in_iff.mpr ⟨by omega, by omega⟩)
              refine gs_alda hx hb hK hM 10 0 (by decide) rfl (vp_in_iff.mpr ⟨by omega, by omega⟩) (a := ad 11 x.toNatClampNeg) (if_pos h_11) dX0_exchange_53 ?_
              refine lv_iload_n hx hb dX0_exchange_54 rfl (lv_at hl 4 rfl) ?_
              refine lv_iload_n hx hb dX0_exchange_55 rfl (lv_at hl 5 rfl) ?_
              refine gs_iast hx hb hK hI hm hM hS 11 x.toNatClampNeg h_11 (fun _ => rfl) (vp_in_iff.mpr ⟨by omega, by omega⟩) dX0_exchange_56 (fun st_12 H locs est_12 hM hS => ?_)
              have hB_st_12 : gBN bX kX [1100] st st_12 := by rw [est_12]; exact hB_sv5.up (show (1100 : Nat) ∈ _ from by decide) (gi_lo _) (gi_hi _)
              refine lv_aload_n hx hb dX0_exchange_57 rfl (lv_at hl 2 rfl) ?_
              refine gs_get (C := RX0) (T := TX0) (N := 1) hx hb hts inX0 hown hK hM 9 0 0 (by decide) rfl rfl (by decide) (hts _ gm_109) (fun _ h9 => h9) rfl dX0_exchange_58 ?_
              refine lv_iload_n hx hb dX0_exchange_61 rfl (lv_at hl 3 rfl) ?_
              have h_13 : x.toNatClampNeg < 6 := gs_lt (vp_in_iff.mpr ⟨by omega, by omega⟩)
              refine gs_alda hx hb hK hM 10 0 (by decide) rfl (vp_in_iff.mpr ⟨by omega, by omega⟩) (a := ad 11 x.toNatClampNeg) (if_pos h_13) dX0_exchange_62 ?_
              refine lv_iload hx hb dX0_exchange_63 (lv_at hl 0 rfl) ?_
              refine lv_iload hx hb dX0_exchange_65 (lv_at hl 1 rfl) ?_
              refine gs_iast hx hb hK hI hm hM hS 11 x.toNatClampNeg h_13 (fun _ => rfl) (vp_in_iff.mpr ⟨by omega, by omega⟩) dX0_exchange_67 (fun st_14 H locs est_14 hM hS => ?_)
              have hB_st_14 : gBN bX kX [1100] st st_14 := by rw [est_14]; exact hB_st_12.up (show (1100 : Nat) ∈ _ from by decide) (gi_lo _) (gi_hi _)
              refine lv_iload hx hb dX0_exchange_68 (lv_at hl 0 rfl) ?_
              rw [← hQe]
              exact gs_iret hx hb hr hlocks hM hS rfl ⟨hB_st_14, trivial⟩ (by exact Nat.le_refl _) (by exact Nat.le_refl _) dX0_exchange_70
      exact lp5 ((200 - (x_4 : Int32).toInt).toNat + 1) st (x_4 : Int32) H _ ls (Nat.lt_succ_self _) hB_st (by omega) hM hS (lv_sub hl [0, 1, 2, 3, 4, 5] rfl)
    · have ic_3 := gz_eqn (rfl : r_1.toInt = r_1.toInt) (rfl : w.toInt = w.toInt) c_3
      refine lv_iconst (v := (-1)) hx hb dX0_exchange_20 (by decide) ?_
      rw [← hQe]
      exact gs_iret hx hb hr hlocks hM hS rfl ⟨hB_st, trivial⟩ (by exact Nat.le_refl _) (by exact Nat.le_refl _) dX0_exchange_21

set_option maxHeartbeats 4000000 in
set_option maxRecDepth 100000 in
/-- WellCourt$Day.grow -/
theorem s_X1_grow (l : Launch) (G : va_G) (cy : Nat → ClassId) (sK sV : Nat → Nat) (ad : Nat → Nat → Nat) (sz : Nat) (st : gS) (hB : gBd bX st) (i : Nat) (i2 : Nat) (hi_i : i < 16) (hi_i2 : i2 < 16) : gsMv l yX1_grow cX1_grow 4 ({ frames := 1, cells := 0, slots := 0, locals := 21 } : Room) G cy sK sV (shX cy ad) cnX ad sz [.ref (ad 12 i), .ref (ad 12 i2), .ref (ad 4 0)] st (fun (u : gS) => gBN bX kX [1300, 1400] st u ∧ (True)) := by
  refine gs_start (fun A => gsQv G (shX cy ad) cnX ad _ A) (by decide) (Nat.le_of_ble_eq_true rfl) ?_
  intro p e s m below meth c A ls H hx hb hr hml hlocks hown hts hK hov hE hI hM hm hS hA hl
  have hl : lv_has ls 4 [(0, .ref (ad 12 i)), (1, .ref (ad 12 i2)), (2, .ref (ad 4 0))] := hl
  have hB_st : gBN bX kX [1300, 1400] st st := gBN.rf hB
  generalize hQe : MQ below _ _ s _ _ A = Q
  refine lv_iconst (v := 0) hx hb dX1_grow_0 (by decide) ?_
  refine lv_istore_n (lv' := [(3, .int 0), (0, .ref (ad 12 i)), (1, .ref (ad 12 i2)), (2, .ref (ad 4 0))]) hx hb dX1_grow_1 rfl hl (by decide) rfl (fun ls hl => ?_)
  have lp1 : ∀ (n1 : Nat) (sv1 : gS) (y1_0 : Int32) (H : Heap) (locs : List Loc) (ls : Array Slot), (6 - y1_0.toInt).toNat < n1 → gBN bX kX [1300, 1400] st sv1 → (0 ≤ y1_0.toInt) → gM G (shX cy ad) cnX ad sv1 H → va_S A s.heap H locs → lv_has ls 4 [(3, .int y1_0), (0, .ref (ad 12 i)), (1, .ref (ad 12 i2)), (2, .ref (ad 4 0))] → W p l e ({ frames := 1, cells := 0, slots := 0, locals := 21 } : Room) s m [.ref (ad 12 i), .ref (ad 12 i2), .ref (ad 4 0)].toArray below meth c H locs 0 0 Q (F0 m 2 ls []) := by
    intro n1
    induction n1 with
    | zero => intro sv1 y1_0 H locs ls h9; exact absurd h9 (Nat.not_lt_zero _)
    | succ n1 ih_1 =>
      intro sv1 y1_0 H locs ls hme1 hB_sv1 hv1_0 hM hS hl
      refine lv_iload_n hx hb dX1_grow_2 rfl (lv_at hl 0 rfl) ?_
      refine lv_bipush (v := 6) hx hb dX1_grow_3 (by decide) ?_
      refine lv_icmp_ge (tgt := 62) hx hb dX1_grow_5 (by decide) (fun c_2 => ?_) (fun c_2 => ?_)
      · have ic_2 := gz_le (by decide : (6 : Int32).toInt = 6) (rfl : y1_0.toInt = y1_0.toInt) c_2
        rw [← hQe]
        exact gs_vret hx hb hr hlocks hM hS ⟨hB_sv1, trivial⟩ (by exact Nat.le_refl _) (by exact Nat.le_refl _) dX1_grow_62
      · have ic_2 := gz_nle (by decide : (6 : Int32).toInt = 6) (rfl : y1_0.toInt = y1_0.toInt) c_2
        refine lv_aload_n hx hb dX1_grow_8 rfl (lv_at hl 3 rfl) ?_
        refine lv_iload_n hx hb dX1_grow_9 rfl (lv_at hl 0 rfl) ?_
        refine gs_calli (va_runV (As := [.int y1_0]) (rest := []) ⟨hx, hb, hml, hown, hts⟩ (s_X3_isThere l G cy sK sV ad H.size sv1 hB_sv1.1 y1_0 y1_0.toInt rfl (by first | decide | omega) (by first | decide | omega)) ⟨(gz_cb (n := 1) hts gm_579 gm_4 gm_350 ⟨by decide +kernel, by decide +kernel, by decide +kernel⟩ ⟨Nat.le_of_ble_eq_true rfl, Nat.le_of_ble_eq_true rfl⟩), hts _ gm_348, hts _ gm_349⟩ (gs_preV hK hov hE hI hM hm hS hA 4 0 (by decide) rfl rfl) rfl rfl hl.1 rfl (lv_room (Nat.le_of_ble_eq_true rfl)) dX1_grow_10 ⟨Nat.le_of_ble_eq_true rfl, Nat.le_of_ble_eq_true rfl⟩) hm hS hA (fun r_3 st_3 H locs hw_3 hM hS => ?_)
        obtain ⟨n_3, hw_3⟩ := hw_3
        have n_3 := gBN.nil n_3
        subst n_3
        rcases hw_3 with ⟨rfl, hw_3_0⟩ | ⟨rfl, hw_3_0⟩
        · skip
          refine lv_if_eq (tgt := 56) hx hb dX1_grow_13 (by decide) (fun h9 => absurd h9 (by decide)) (fun _ => ?_)
          refine lv_aload_n hx hb dX1_grow_16 rfl (lv_at hl 1 rfl) ?_
          refine gs_get (C := RX1) (T := TX1) (N := 3) hx hb hts inX1 hown hK hM 12 i 0 hi_i rfl rfl (by decide) (hts _ gm_120) (fun _ h9 => h9) rfl dX1_grow_17 ?_
          refine lv_iload_n hx hb dX1_grow_20 rfl (lv_at hl 0 rfl) ?_
          refine lv_aload_n hx hb dX1_grow_21 rfl (lv_at hl 2 rfl) ?_
          refine gs_get (C := RX1) (T := TX1) (N := 3) hx hb hts inX1 hown hK hM 12 i2 0 hi_i2 rfl rfl (by decide) (hts _ gm_120) (fun _ h9 => h9) rfl dX1_grow_22 ?_
          refine lv_iload_n hx hb dX1_grow_25 rfl (lv_at hl 0 rfl) ?_
          refine gs_iald hx hb hK hM 13 i2 hi_i2 rfl (vp_in_iff.mpr ⟨by omega, by omega⟩) dX1_grow_26 ?_
          refine lv_topi (fun x_4 ex_4 => ?_)
          have qx_4 : x_4.toInt = (sv1 13 i2 (y1_0.toNatClampNeg)).toInt := congrArg Int32.toInt ex_4
          refine lv_aload_n hx hb dX1_grow_27 rfl (lv_at hl 3 rfl) ?_
          refine gs_getN (host := "WellCourt") (C := RX3) (T := TX3) (N := 3) hx hb hts inX3 hown hK hM 4 0 1 (by decide) rfl rfl (by decide) (va_Nw.use rfl (hov.2.2 _ gn_86)) (fun _ h9 => h9) rfl dX1_grow_28 ?_
          refine lv_iload_n hx hb dX1_grow_31 rfl (lv_at hl 0 rfl) ?_
          refine gs_iald hx hb hK hM 6 0 (by decide) rfl (vp_in_iff.mpr ⟨by omega, by omega⟩) dX1_grow_32 ?_
          refine lv_topi (fun x_5 ex_5 => ?_)
          have qx_5 : x_5.toInt = (sv1 6 0 (y1_0.toNatClampNeg)).toInt := congrArg Int32.toInt ex_5
          have rx_5 : x_5.toInt = ((st 6 0 (y1_0.toNatClampNeg)) : Int32).toInt := by rw [ex_5]; exact congrArg Int32.toInt ((hB_sv1.2 6 0 (y1_0.toNatClampNeg) (show (600 : Nat) ∉ _ from by decide)))
          refine lv_iadd hx hb dX1_grow_33 ?_
          refine lv_topi (fun x_6 ex_6 => ?_)
          try have tx_6 : x_6.toInt = x_4.toInt + x_5.toInt := by rw [ex_6]; exact gz_addI (x := x_4.toInt) (y := x_5.toInt) rfl rfl (by omega) (by omega)
          refine lv_aload_n hx hb dX1_grow_34 rfl (lv_at hl 3 rfl) ?_
          refine gs_getN (host := "WellCourt") (C := RX3) (T := TX3) (N := 3) hx hb hts inX3 hown hK hM 4 0 0 (by decide) rfl rfl (by decide) (va_Nw.use rfl (hov.2.2 _ gn_83)) (fun _ h9 => h9) rfl dX1_grow_35 ?_
          refine lv_iload_n hx hb dX1_grow_38 rfl (lv_at hl 0 rfl) ?_
          refine gs_iald hx hb hK hM 5 0 (by decide) rfl (vp_in_iff.mpr ⟨by omega, by omega⟩) dX1_grow_39 ?_
          refine lv_topi (fun x_7 ex_7 => ?_)
          have qx_7 : x_7.toInt = (sv1 5 0 (y1_0.toNatClampNeg)).toInt := congrArg Int32.toInt ex_7
          have rx_7 : x_7.toInt = ((st 5 0 (y1_0.toNatClampNeg)) : Int32).toInt := by rw [ex_7]; exact congrArg Int32.toInt ((hB_sv1.2 5 0 (y1_0.toNatClampNeg) (show (500 : Nat) ∉ _ from by decide)))
          refine va_mmin hx hb (hml.trans hl.1.symm) hown (hts _ gm_580) (hts _ gm_581) (hts _ gm_17) (hts _ gm_582) (Nat.le_of_ble_eq_true rfl) (Nat.le_of_ble_eq_true rfl) (Nat.le_of_ble_eq_true rfl) (Nat.le_of_ble_eq_true rfl) dX1_grow_40 ?_
          refine lv_topi (fun x_8 ex_8 => ?_)
          refine gs_iast hx hb hK hI hm hM hS 13 i hi_i (fun _ => rfl) (vp_in_iff.mpr ⟨by omega, by omega⟩) dX1_grow_43 (fun st_9 H locs est_9 hM hS => ?_)
          have hB_st_9 : gBN bX kX [1300, 1400] st st_9 := by rw [est_9]; exact hB_sv1.up (show (1300 : Nat) ∈ _ from by decide) (gi_lo _) (gi_hi _)
          refine lv_aload_n hx hb dX1_grow_44 rfl (lv_at hl 1 rfl) ?_
          refine gs_get (C := RX1) (T := TX1) (N := 3) hx hb hts inX1 hown hK hM 12 i 1 hi_i rfl rfl (by decide) (hts _ gm_123) (fun _ h9 => h9) rfl dX1_grow_45 ?_
          refine lv_iload_n hx hb dX1_grow_48 rfl (lv_at hl 0 rfl) ?_
          refine lv_aload_n hx hb dX1_grow_49 rfl (lv_at hl 1 rfl) ?_
          refine gs_get (C := RX1) (T := TX1) (N := 3) hx hb hts inX1 hown hK hM 12 i 0 hi_i rfl rfl (by decide) (hts _ gm_120) (fun _ h9 => h9) rfl dX1_grow_50 ?_
          refine lv_iload_n hx hb dX1_grow_53 rfl (lv_at hl 0 rfl) ?_
          refine gs_iald hx hb hK hM 13 i hi_i rfl (vp_in_iff.mpr ⟨by omega, by omega⟩) dX1_grow_54 ?_
          refine lv_topi (fun x_10 ex_10 => ?_)
          have qx_10 : x_10.toInt = (st_9 13 i (y1_0.toNatClampNeg)).toInt := congrArg Int32.toInt ex_10
          have rx_10 : x_10.toInt = (x_8 : Int32).toInt := by rw [ex_10]; exact congrArg Int32.toInt (((congrFun (congrFun (congrFun est_9 13) i) (y1_0.toNatClampNeg)).trans (gU_same _ _ _ _ _)))
          refine gs_iast hx hb hK hI hm hM hS 14 i hi_i (fun _ => rfl) (vp_in_iff.mpr ⟨by omega, by omega⟩) dX1_grow_55 (fun st_11 H locs est_11 hM hS => ?_)
          have hB_st_11 : gBN bX kX [1300, 1400] st st_11 := by rw [est_11]; exact hB_st_9.up (show (1400 : Nat) ∈ _ from by decide) (gi_lo _) (gi_hi _)
          obtain ⟨x_12, ex_12⟩ : ∃ y : Int32, y = y1_0 + 1 := ⟨_, rfl⟩
          try have tx_12 : x_12.toInt = y1_0.toInt + 1 := by rw [ex_12]; exact gz_addP (x := y1_0.toInt) (y := 1) rfl (by decide) (by omega) (by omega)
          refine lv_iinc (v := (x_12)) (lv' := [(3, .int x_12), (0, .ref (ad 12 i)), (1, .ref (ad 12 i2)), (2, .ref (ad 4 0))]) hx hb dX1_grow_56 hl (k := 0) rfl (by rw [ex_12]; rfl) (by decide) rfl (fun ls hl => ?_)
          refine lv_goto (tgt := 2) hx hb dX1_grow_59 (by decide) ?_
          exact ih_1 st_11 (x_12 : Int32) H _ ls (by omega) hB_st_11 (by omega) hM hS (lv_sub hl [0, 1, 2, 3] rfl)
        · skip
          refine lv_if_eq (tgt := 56) hx hb dX1_grow_13 (by decide) (fun _ => ?_) (fun h9 => absurd (by decide) h9)
          obtain ⟨x_13, ex_13⟩ : ∃ y : Int32, y = y1_0 + 1 := ⟨_, rfl⟩
          try have tx_13 : x_13.toInt = y1_0.toInt + 1 := by rw [ex_13]; exact gz_addP (x := y1_0.toInt) (y := 1) rfl (by decide) (by omega) (by omega)
          refine lv_iinc (v := (x_13)) (lv' := [(3, .int x_13), (0, .ref (ad 12 i)), (1, .ref (ad 12 i2)), (2, .ref (ad 4 0))]) hx hb dX1_grow_56 hl (k := 0) rfl (by rw [ex_13]; rfl) (by decide) rfl (fun ls hl => ?_)
          refine lv_goto (tgt := 2) hx hb dX1_grow_59 (by decide) ?_
          exact ih_1 sv1 (x_13 : Int32) H _ ls (by omega) hB_sv1 (by omega) hM hS (lv_sub hl [0, 1, 2, 3] rfl)
  exact lp1 ((6 - ((0 : Int32) : Int32).toInt).toNat + 1) st ((0 : Int32) : Int32) H _ ls (Nat.lt_succ_self _) hB_st (by have hl0 : (0 : Int32).toInt = 0 := (by decide); omega) hM hS (lv_sub hl [0, 1, 2, 3] rfl)

set_option maxHeartbeats 4000000 in
set_option maxRecDepth 100000 in
/-- WellCourt$Day.settle -/
theorem s_X1_settle (l : Launch) (G : va_G) (cy : Nat → ClassId) (sK sV : Nat → Nat) (ad : Nat → Nat → Nat) (sz : Nat) (st : gS) (hB : gBd bX st) (i : Nat) (z : Int32) (x : Int32) (Xx : Int) (kx : x.toInt = Xx) (hi_i : i < 16) (hz_z : (0 : Int) ≤ z.toInt ∧ z.toInt ≤ (1 : Int)) : gsMv l yX1_settle cX1_settle 6 ({ frames := 2, cells := 0, slots := 0, locals := 42 } : Room) G cy sK sV (shX cy ad) cnX ad sz [.ref (ad 12 i), .ref (ad 25 z.toNatClampNeg), .ref (ad 9 0), .int x] st (fun (u : gS) => gBN bX kX [1500] st u ∧ (True)) := by
  refine gs_start (fun A => gsQv G (shX cy ad) cnX ad _ A) (by decide) (Nat.le_of_ble_eq_true rfl) ?_
  intro p e s m below meth c A ls H hx hb hr hml hlocks hown hts hK hov hE hI hM hm hS hA hl
  have hl : lv_has ls 6 [(0, .ref (ad 12 i)), (1, .ref (ad 25 z.toNatClampNeg)), (2, .ref (ad 9 0)), (3, .int x)] := hl
  have hB_st : gBN bX kX [1500] st st := gBN.rf hB
  generalize hQe : MQ below _ _ s _ _ A = Q
  refine lv_iconst (v := 0) hx hb dX1_settle_0 (by decide) ?_
  refine lv_istore (lv' := [(4, .int 0), (0, .ref (ad 12 i)), (1, .ref (ad 25 z.toNatClampNeg)), (2, .ref (ad 9 0)), (3, .int x)]) hx hb dX1_settle_1 hl (by decide) rfl (fun ls hl => ?_)
  have lp1 : ∀ (n1 : Nat) (sv1 : gS) (y1_0 : Int32) (H : Heap) (locs : List Loc) (ls : Array Slot), (6 - y1_0.toInt).toNat < n1 → gBN bX kX [1500] st sv1 → (0 ≤ y1_0.toInt) → gM G (shX cy ad) cnX ad sv1 H → va_S A s.heap H locs → lv_has ls 6 [(4, .int y1_0), (0, .ref (ad 12 i)), (1, .ref (ad 25 z.toNatClampNeg)), (2, .ref (ad 9 0)), (3, .int x)] → W p l e ({ frames := 2, cells := 0, slots := 0, locals := 42 } : Room) s m [.ref (ad 12 i), .ref (ad 25 z.toNatClampNeg), .ref (ad 9 0), .int x].toArray below meth c H locs 0 0 Q (F0 m 3 ls []) := by
    intro n1
    induction n1 with
    | zero => intro sv1 y1_0 H locs ls h9; exact absurd h9 (Nat.not_lt_zero _)
    | succ n1 ih_1 =>
      intro sv1 y1_0 H locs ls hme1 hB_sv1 hv1_0 hM hS hl
      refine lv_iload hx hb dX1_settle_3 (lv_at hl 0 rfl) ?_
      refine lv_bipush (v := 6) hx hb dX1_settle_5 (by decide) ?_
      refine lv_icmp_ge (tgt := 56) hx hb dX1_settle_7 (by decide) (fun c_2 => ?_) (fun c_2 => ?_)
      · have ic_2 := gz_le (by decide : (6 : Int32).toInt = 6) (rfl : y1_0.toInt = y1_0.toInt) c_2
        rw [← hQe]
        exact gs_vret hx hb hr hlocks hM hS ⟨hB_sv1, trivial⟩ (by exact Nat.le_refl _) (by exact Nat.le_refl _) dX1_settle_56
      · have ic_2 := gz_nle (by decide : (6 : Int32).toInt = 6) (rfl : y1_0.toInt = y1_0.toInt) c_2
        refine lv_aload_n hx hb dX1_settle_10 rfl (lv_at hl 2 rfl) ?_
        refine lv_iload hx hb dX1_settle_11 (lv_at hl 0 rfl) ?_
        refine lv_aload_n hx hb dX1_settle_13 rfl (lv_at hl 1 rfl) ?_
        refine gs_get (C := RX1) (T := TX1) (N := 3) hx hb hts inX1 hown hK hM 12 i 1 hi_i rfl rfl (by decide) (hts _ gm_123) (fun _ h9 => h9) rfl dX1_settle_14 ?_
        refine lv_iload hx hb dX1_settle_17 (lv_at hl 0 rfl) ?_
        refine gs_iald hx hb hK hM 14 i hi_i rfl (vp_in_iff.mpr ⟨by omega, by omega⟩) dX1_settle_19 ?_
        refine lv_topi (fun x_3 ex_3 => ?_)
        have qx_3 : x_3.toInt = (sv1 14 i (y1_0.toNatClampNeg)).toInt := congrArg Int32.toInt ex_3
        have rx_3 : x_3.toInt = ((st 14 i (y1_0.toNatClampNeg)) : Int32).toInt := by rw [ex_3]; exact congrArg Int32.toInt ((hB_sv1.2 14 i (y1_0.toNatClampNeg) (show (1400 : Nat) ∉ _ from by decide)))
        refine gs_calli (va_runV (As := [.int y1_0, .int x_3]) (rest := []) ⟨hx, hb, hml, hown, hts⟩ (s_X4_droughtOwner l G cy sK sV ad H.size sv1 hB_sv1.1 z y1_0 x_3 y1_0.toInt x_3.toInt rfl rfl hz_z ) ⟨(gz_cb (n := 2) hts gm_551 gm_10 gm_554 ⟨by decide +kernel, by decide +kernel, by decide +kernel⟩ ⟨Nat.le_of_ble_eq_true rfl, Nat.le_of_ble_eq_true rfl⟩), hts _ gm_552, hts _ gm_553⟩ (gs_preV hK hov hE hI hM hm hS hA 25 z.toNatClampNeg (gs_sel hz_z) rfl rfl) rfl rfl hl.1 rfl (lv_room (Nat.le_of_ble_eq_true rfl)) dX1_settle_20 ⟨Nat.le_of_ble_eq_true rfl, Nat.le_of_ble_eq_true rfl⟩) hm hS hA (fun r_4 st_4 H locs hw_4 hM hS => ?_)
        obtain ⟨n_4, hw_4⟩ := hw_4
        have n_4 := gBN.nil n_4
        subst n_4
        refine lv_istore (lv' := [(5, .int r_4), (4, .int y1_0), (0, .ref (ad 12 i)), (1, .ref (ad 25 z.toNatClampNeg)), (2, .ref (ad 9 0)), (3, .int x)]) hx hb dX1_settle_23 hl (by decide) rfl (fun ls hl => ?_)
        refine lv_aload_n hx hb dX1_settle_25 rfl (lv_at hl 2 rfl) ?_
        refine gs_get (C := RX1) (T := TX1) (N := 3) hx hb hts inX1 hown hK hM 12 i 2 hi_i rfl rfl (by decide) (hts _ gm_125) (fun _ h9 => h9) rfl dX1_settle_26 ?_
        refine lv_iload hx hb dX1_settle_29 (lv_at hl 1 rfl) ?_
        refine lv_iload hx hb dX1_settle_31 (lv_at hl 0 rfl) ?_
        refine lv_iconst (v := (-1)) hx hb dX1_settle_33 (by decide) ?_
        refine lv_icmp_ne (tgt := 47) hx hb dX1_settle_34 (by decide) (fun c_5 => ?_) (fun c_5 => ?_)
        · have ic_5 := gz_ne (rfl : r_4.toInt = r_4.toInt) (by decide : ((-1) : Int32).toInt = -1) c_5
          refine lv_iload hx hb dX1_settle_47 (lv_at hl 0 rfl) ?_
          refine gs_iast hx hb hK hI hm hM hS 15 i hi_i (fun _ => rfl) (vp_in_iff.mpr ⟨by omega, by omega⟩) dX1_settle_49 (fun st_6 H locs est_6 hM hS => ?_)
          have hB_st_6 : gBN bX kX [1500] st st_6 := by rw [est_6]; exact hB_sv1.up (show (1500 : Nat) ∈ _ from by decide) (gi_lo _) (gi_hi _)
          obtain ⟨x_7, ex_7⟩ : ∃ y : Int32, y = y1_0 + 1 := ⟨_, rfl⟩
          try have tx_7 : x_7.toInt = y1_0.toInt + 1 := by rw [ex_7]; exact gz_addP (x := y1_0.toInt) (y := 1) rfl (by decide) (by omega) (by omega)
          refine lv_iinc (v := (x_7)) (lv' := [(4, .int x_7), (5, .int r_4), (0, .ref (ad 12 i)), (1, .ref (ad 25 z.toNatClampNeg)), (2, .ref (ad 9 0)), (3, .int x)]) hx hb dX1_settle_50 hl (k := 1) rfl (by rw [ex_7]; rfl) (by decide) rfl (fun ls hl => ?_)
          refine lv_goto (tgt := 3) hx hb dX1_settle_53 (by decide) ?_
          exact ih_1 st_6 (x_7 : Int32) H _ ls (by omega) hB_st_6 (by omega) hM hS (lv_sub hl [0, 2, 3, 4, 5] rfl)
        · have ic_5 := gz_eqn (rfl : r_4.toInt = r_4.toInt) (by decide : ((-1) : Int32).toInt = -1) c_5
          refine lv_aload_n hx hb dX1_settle_37 rfl (lv_at hl 4 rfl) ?_
          refine lv_iload hx hb dX1_settle_38 (lv_at hl 1 rfl) ?_
          refine lv_iload_n hx hb dX1_settle_40 rfl (lv_at hl 5 rfl) ?_
          refine gs_calli (va_runV (As := [.int y1_0, .int x]) (rest := [.int y1_0, .ref (ad 15 i)]) ⟨hx, hb, hml, hown, hts⟩ (s_X0_ownerOn l G cy sK sV ad H.size sv1 hB_sv1.1 y1_0 x y1_0.toInt x.toInt rfl rfl ) ⟨(gz_cb (n := 2) hts gm_555 gm_5 gm_558 ⟨by decide +kernel, by decide +kernel, by decide +kernel⟩ ⟨Nat.le_of_ble_eq_true rfl, Nat.le_of_ble_eq_true rfl⟩), hts _ gm_556, hts _ gm_557⟩ (gs_preV hK hov hE hI hM hm hS hA 9 0 (by decide) rfl rfl) rfl rfl hl.1 rfl (lv_room (Nat.le_of_ble_eq_true rfl)) dX1_settle_41 ⟨Nat.le_of_ble_eq_true rfl, Nat.le_of_ble_eq_true rfl⟩) hm hS hA (fun r_8 st_8 H locs hw_8 hM hS => ?_)
          obtain ⟨n_8, hw_8⟩ := hw_8
          have n_8 := gBN.nil n_8
          subst n_8
          have hw_8_0 := hw_8
          refine lv_goto (tgt := 49) hx hb dX1_settle_44 (by decide) ?_
          refine gs_iast hx hb hK hI hm hM hS 15 i hi_i (fun _ => rfl) (vp_in_iff.mpr ⟨by omega, by omega⟩) dX1_settle_49 (fun st_9 H locs est_9 hM hS => ?_)
          have hB_st_9 : gBN bX kX [1500] st st_9 := by rw [est_9]; exact hB_sv1.up (show (1500 : Nat) ∈ _ from by decide) (gi_lo _) (gi_hi _)
          obtain ⟨x_10, ex_10⟩ : ∃ y : Int32, y = y1_0 + 1 := ⟨_, rfl⟩
          try have tx_10 : x_10.toInt = y1_0.toInt + 1 := by rw [ex_10]; exact gz_addP (x := y1_0.toInt) (y := 1) rfl (by decide) (by omega) (by omega)
          refine lv_iinc (v := (x_10)) (lv' := [(4, .int x_10), (5, .int r_4), (0, .ref (ad 12 i)), (1, .ref (ad 25 z.toNatClampNeg)), (2, .ref (ad 9 0)), (3, .int x)]) hx hb dX1_settle_50 hl (k := 1) rfl (by rw [ex_10]; rfl) (by decide) rfl (fun ls hl => ?_)
          refine lv_goto (tgt := 3) hx hb dX1_settle_53 (by decide) ?_
          exact ih_1 st_9 (x_10 : Int32) H _ ls (by omega) hB_st_9 (by omega) hM hS (lv_sub hl [0, 2, 3, 4, 5] rfl)
  exact lp1 ((6 - ((0 : Int32) : Int32).toInt).toNat + 1) st ((0 : Int32) : Int32) H _ ls (Nat.lt_succ_self _) hB_st (by have hl0 : (0 : Int32).toInt = 0 := (by decide); omega) hM hS (lv_sub hl [0, 1, 2, 3, 4] rfl)

set_option maxHeartbeats 4000000 in
set_option maxRecDepth 100000 in
/-- WellCourt$Day.isRight -/
theorem s_X1_isRight (l : Launch) (G : va_G) (cy : Nat → ClassId) (sK sV : Nat → Nat) (ad : Nat → Nat → Nat) (sz : Nat) (st : gS) (hB : gBd bX st) (i : Nat) (z : Int32) (x : Int32) (y : Int32) (Xx : Int) (Xy : Int) (kx : x.toInt = Xx) (ky : y.toInt = Xy) (hi_i : i < 16) (hz_z : (0 : Int) ≤ z.toInt ∧ z.toInt ≤ (1 : Int)) (hx0 : 0 ≤ Xx) (hx1 : Xx < 6) : gsMi l yX1_isRight cX1_isRight 5 (some .boolean) ({ frames := 2, cells := 0, slots := 0, locals := 42 } : Room) G cy sK sV (shX cy ad) cnX ad sz [.ref (ad 12 i), .ref (ad 25 z.toNatClampNeg), .int x, .int y] st (fun (r : Int32) (u : gS) => gBN bX kX [] st u ∧ ((r = 1) ∨ (r = 0))) := by
  refine gs_start (fun A => gsQi G (shX cy ad) cnX ad _ A) (by decide) (Nat.le_of_ble_eq_true rfl) ?_
  intro p e s m below meth c A ls H hx hb hr hml hlocks hown hts hK hov hE hI hM hm hS hA hl
  have hl : lv_has ls 5 [(0, .ref (ad 12 i)), (1, .ref (ad 25 z.toNatClampNeg)), (2, .int x), (3, .int y)] := hl
  have hB_st : gBN bX kX [] st st := gBN.rf hB
  generalize hQe : MQ below _ _ s _ _ A = Q
  refine lv_aload_n hx hb dX1_isRight_0 rfl (lv_at hl 0 rfl) ?_
  refine gs_get (C := RX1) (T := TX1) (N := 3) hx hb hts inX1 hown hK hM 12 i 2 hi_i rfl rfl (by decide) (hts _ gm_125) (fun _ h9 => h9) rfl dX1_isRight_1 ?_
  refine lv_iload_n hx hb dX1_isRight_4 rfl (lv_at hl 2 rfl) ?_
  refine gs_iald hx hb hK hM 15 i hi_i rfl (vp_in_iff.mpr ⟨by omega, by omega⟩) dX1_isRight_5 ?_
  refine lv_topi (fun x_1 ex_1 => ?_)
  have qx_1 : x_1.toInt = (st 15 i (x.toNatClampNeg)).toInt := congrArg Int32.toInt ex_1
  refine lv_iload_n hx hb dX1_isRight_6 rfl (lv_at hl 3 rfl) ?_
  refine lv_icmp_eq (tgt := 24) hx hb dX1_isRight_7 (by decide) (fun c_2 => ?_) (fun c_2 => ?_)
  · have ic_2 := gz_eq (rfl : x_1.toInt = x_1.toInt) (rfl : y.toInt = y.toInt) c_2
    refine lv_iconst (v := 1) hx hb dX1_isRight_24 (by decide) ?_
    rw [← hQe]
    exact gs_iret hx hb hr hlocks hM hS (by decide) ⟨hB_st, (Or.inl rfl)⟩ (by exact Nat.le_refl _) (by exact Nat.le_refl _) dX1_isRight_25
  · have ic_2 := gz_ne (rfl : x_1.toInt = x_1.toInt) (rfl : y.toInt = y.toInt) c_2
    refine lv_aload_n hx hb dX1_isRight_10 rfl (lv_at hl 1 rfl) ?_
    refine lv_aload_n hx hb dX1_isRight_11 rfl (lv_at hl 0 rfl) ?_
    refine gs_get (C := RX1) (T := TX1) (N := 3) hx hb hts inX1 hown hK hM 12 i 2 hi_i rfl rfl (by decide) (hts _ gm_125) (fun _ h9 => h9) rfl dX1_isRight_12 ?_
    refine lv_iload_n hx hb dX1_isRight_15 rfl (lv_at hl 2 rfl) ?_
    refine gs_iald hx hb hK hM 15 i hi_i rfl (vp_in_iff.mpr ⟨by omega, by omega⟩) dX1_isRight_16 ?_
    refine lv_topi (fun x_3 ex_3 => ?_)
    have qx_3 : x_3.toInt = (st 15 i (x.toNatClampNeg)).toInt := congrArg Int32.toInt ex_3
    refine lv_iload_n hx hb dX1_isRight_17 rfl (lv_at hl 3 rfl) ?_
    refine gs_calli (va_runV (As := [.int x_3, .int y]) (rest := []) ⟨hx, hb, hml, hown, hts⟩ (s_X4_areWed l G cy sK sV ad H.size st hB_st.1 z x_3 y x_3.toInt y.toInt rfl rfl hz_z ) ⟨(gz_cb (n := 2) hts gm_609 gm_10 gm_612 ⟨by decide +kernel, by decide +kernel, by decide +kernel⟩ ⟨Nat.le_of_ble_eq_true rfl, Nat.le_of_ble_eq_true rfl⟩), hts _ gm_610, hts _ gm_611⟩ (gs_preV hK hov hE hI hM hm hS hA 25 z.toNatClampNeg (gs_sel hz_z) rfl rfl) rfl rfl hl.1 rfl (lv_room (Nat.le_of_ble_eq_true rfl)) dX1_isRight_18 ⟨Nat.le_of_ble_eq_true rfl, Nat.le_of_ble_eq_true rfl⟩) hm hS hA (fun r_4 st_4 H locs hw_4 hM hS => ?_)
    obtain ⟨n_4, hw_4⟩ := hw_4
    have n_4 := gBN.nil n_4
    subst n_4
    rcases hw_4 with rfl | rfl
    · skip
      refine lv_if_eq (tgt := 26) hx hb dX1_isRight_21 (by decide) (fun h9 => absurd h9 (by decide)) (fun _ => ?_)
      refine lv_iconst (v := 1) hx hb dX1_isRight_24 (by decide) ?_
      rw [← hQe]
      exact gs_iret hx hb hr hlocks hM hS (by decide) ⟨hB_st, (Or.inl rfl)⟩ (by exact Nat.le_refl _) (by exact Nat.le_refl _) dX1_isRight_25
    · skip
      refine lv_if_eq (tgt := 26) hx hb dX1_isRight_21 (by decide) (fun _ => ?_) (fun h9 => absurd (by decide) h9)
      refine lv_iconst (v := 0) hx hb dX1_isRight_26 (by decide) ?_
      refine lv_istore (lv' := [(4, .int 0), (0, .ref (ad 12 i)), (1, .ref (ad 25 z.toNatClampNeg)), (2, .int x), (3, .int y)]) hx hb dX1_isRight_27 hl (by decide) rfl (fun ls hl => ?_)
      have lp5 : ∀ (n5 : Nat) (sv5 : gS) (y5_0 : Int32) (H : Heap) (locs : List Loc) (ls : Array Slot), (6 - y5_0.toInt).toNat < n5 → gBN bX kX [] st sv5 → (0 ≤ y5_0.toInt) → gM G (shX cy ad) cnX ad sv5 H → va_S A s.heap H locs → lv_has ls 5 [(4, .int y5_0), (0, .ref (ad 12 i)), (1, .ref (ad 25 z.toNatClampNeg)), (2, .int x), (3, .int y)] → W p l e ({ frames := 2, cells := 0, slots := 0, locals := 42 } : Room) s m [.ref (ad 12 i), .ref (ad 25 z.toNatClampNeg), .int x, .int y].toArray below meth c H locs 0 0 Q (F0 m 29 ls []) := by
        intro n5
        induction n5 with
        | zero => intro sv5 y5_0 H locs ls h9; exact absurd h9 (Nat.not_lt_zero _)
        | succ n5 ih_5 =>
          intro sv5 y5_0 H locs ls hme5 hB_sv5 hv5_0 hM hS hl
          refine lv_iload hx hb dX1_isRight_29 (lv_at hl 0 rfl) ?_
          refine lv_bipush (v := 6) hx hb dX1_isRight_31 (by decide) ?_
          refine lv_icmp_ge (tgt := 75) hx hb dX1_isRight_33 (by decide) (fun c_6 => ?_) (fun c_6 => ?_)
          · have ic_6 := gz_le (by decide : (6 : Int32).toInt = 6) (rfl : y5_0.toInt = y5_0.toInt) c_6
            refine lv_iconst (v := 0) hx hb dX1_isRight_75 (by decide) ?_
            rw [← hQe]
            exact gs_iret hx hb hr hlocks hM hS (by decide) ⟨hB_sv5, (Or.inr (rfl))⟩ (by exact Nat.le_refl _) (by exact Nat.le_refl _) dX1_isRight_76
          · have ic_6 := gz_nle (by decide : (6 : Int32).toInt = 6) (rfl : y5_0.toInt = y5_0.toInt) c_6
            refine lv_aload_n hx hb dX1_isRight_36 rfl (lv_at hl 1 rfl) ?_
            refine gs_get (C := RX1) (T := TX1) (N := 3) hx hb hts inX1 hown hK hM 12 i 2 hi_i rfl rfl (by decide) (hts _ gm_125) (fun _ h9 => h9) rfl dX1_isRight_37 ?_
            refine lv_iload hx hb dX1_isRight_40 (lv_at hl 0 rfl) ?_
            refine gs_iald hx hb hK hM 15 i hi_i rfl (vp_in_iff.mpr ⟨by omega, by omega⟩) dX1_isRight_42 ?_
            refine lv_topi (fun x_7 ex_7 => ?_)
            have qx_7 : x_7.toInt = (sv5 15 i (y5_0.toNatClampNeg)).toInt := congrArg Int32.toInt ex_7
            have rx_7 : x_7.toInt = ((st 15 i (y5_0.toNatClampNeg)) : Int32).toInt := by rw [ex_7]; exact congrArg Int32.toInt ((hB_sv5.2 15 i (y5_0.toNatClampNeg) (show (1500 : Nat) ∉ _ from by decide)))
            refine lv_iload_n hx hb dX1_isRight_43 rfl (lv_at hl 4 rfl) ?_
            refine lv_icmp_ne (tgt := 69) hx hb dX1_isRight_44 (by decide) (fun c_8 => ?_) (fun c_8 => ?_)
            · have ic_8 := gz_ne (rfl : x_7.toInt = x_7.toInt) (rfl : y.toInt = y.toInt) c_8
              obtain ⟨x_9, ex_9⟩ : ∃ y : Int32, y = y5_0 + 1 := ⟨_, rfl⟩
              try have tx_9 : x_9.toInt = y5_0.toInt + 1 := by rw [ex_9]; exact gz_addP (x := y5_0.toInt) (y := 1) rfl (by decide) (by omega) (by omega)
              refine lv_iinc (v := (x_9)) (lv' := [(4, .int x_9), (0, .ref (ad 12 i)), (1, .ref (ad 25 z.toNatClampNeg)), (2, .int x), (3, .int y)]) hx hb dX1_isRight_69 hl (k := 0) rfl (by rw [ex_9]; rfl) (by decide) rfl (fun ls hl => ?_)
              refine lv_goto (tgt := 29) hx hb dX1_isRight_72 (by decide) ?_
              exact ih_5 sv5 (x_9 : Int32) H _ ls (by omega) hB_sv5 (by omega) hM hS (lv_sub hl [0, 1, 2, 3, 4] rfl)
            · have ic_8 := gz_eqn (rfl : x_7.toInt = x_7.toInt) (rfl : y.toInt = y.toInt) c_8
              refine lv_aload_n hx hb dX1_isRight_47 rfl (lv_at hl 1 rfl) ?_
              refine gs_get (C := RX1) (T := TX1) (N := 3) hx hb hts inX1 hown hK hM 12 i 1 hi_i rfl rfl (by decide) (hts _ gm_123) (fun _ h9 => h9) rfl dX1_isRight_48 ?_
              refine lv_iload hx hb dX1_isRight_51 (lv_at hl 0 rfl) ?_
              refine gs_iald hx hb hK hM 14 i hi_i rfl (vp_in_iff.mpr ⟨by omega, by omega⟩) dX1_isRight_53 ?_
              refine lv_topi (fun x_10 ex_10 => ?_)
              have qx_10 : x_10.toInt = (sv5 14 i (y5_0.toNatClampNeg)).toInt := congrArg Int32.toInt ex_10
              have rx_10 : x_10.toInt = ((st 14 i (y5_0.toNatClampNeg)) : Int32).toInt := by rw [ex_10]; exact congrArg Int32.toInt ((hB_sv5.2 14 i (y5_0.toNatClampNeg) (show (1400 : Nat) ∉ _ from by decide)))
              refine lv_if_ne (tgt := 69) hx hb dX1_isRight_54 (by decide) (fun c_11 => ?_) (fun c_11 => ?_)
              · have ic_11 := gz_ne (rfl : x_10.toInt = x_10.toInt) (by decide : (0 : Int32).toInt = 0) c_11
                obtain ⟨x_12, ex_12⟩ : ∃ y : Int32, y = y5_0 + 1 := ⟨_, rfl⟩
                try have tx_12 : x_12.toInt = y5_0.toInt + 1 := by rw [ex_12]; exact gz_addP (x := y5_0.toInt) (y := 1) rfl (by decide) (by omega) (by omega)
                refine lv_iinc (v := (x_12)) (lv' := [(4, .int x_12), (0, .ref (ad 12 i)), (1, .ref (ad 25 z.toNatClampNeg)), (2, .int x), (3, .int y)]) hx hb dX1_isRight_69 hl (k := 0) rfl (by rw [ex_12]; rfl) (by decide) rfl (fun ls hl => ?_)
                refine lv_goto (tgt := 29) hx hb dX1_isRight_72 (by decide) ?_
                exact ih_5 sv5 (x_12 : Int32) H _ ls (by omega) hB_sv5 (by omega) hM hS (lv_sub hl [0, 1, 2, 3, 4] rfl)
              · have ic_11 := gz_eqn (rfl : x_10.toInt = x_10.toInt) (by decide : (0 : Int32).toInt = 0) c_11
                refine lv_aload_n hx hb dX1_isRight_57 rfl (lv_at hl 2 rfl) ?_
                refine lv_iload hx hb dX1_isRight_58 (lv_at hl 0 rfl) ?_
                refine lv_iload_n hx hb dX1_isRight_60 rfl (lv_at hl 3 rfl) ?_
                refine gs_calli (va_runV (As := [.int y5_0, .int x]) (rest := []) ⟨hx, hb, hml, hown, hts⟩ (s_X4_leadsDry l G cy sK sV ad H.size sv5 hB_sv5.1 z y5_0 x y5_0.toInt x.toInt rfl rfl hz_z (by first | decide | omega) (by first | decide | omega)) ⟨(gz_cb (n := 2) hts gm_614 gm_10 gm_617 ⟨by decide +kernel, by decide +kernel, by decide +kernel⟩ ⟨Nat.le_of_ble_eq_true rfl, Nat.le_of_ble_eq_true rfl⟩), hts _ gm_615, hts _ gm_616⟩ (gs_preV hK hov hE hI hM hm hS hA 25 z.toNatClampNeg (gs_sel hz_z) rfl rfl) rfl rfl hl.1 rfl (lv_room (Nat.le_of_ble_eq_true rfl)) dX1_isRight_61 ⟨Nat.le_of_ble_eq_true rfl, Nat.le_of_ble_eq_true rfl⟩) hm hS hA (fun r_13 st_13 H locs hw_13 hM hS => ?_)
                obtain ⟨n_13, hw_13⟩ := hw_13
                have n_13 := gBN.nil n_13
                subst n_13
                rcases hw_13 with rfl | rfl
                · skip
                  refine lv_if_eq (tgt := 69) hx hb dX1_isRight_64 (by decide) (fun h9 => absurd h9 (by decide)) (fun _ => ?_)
                  refine lv_iconst (v := 1) hx hb dX1_isRight_67 (by decide) ?_
                  rw [← hQe]
                  exact gs_iret hx hb hr hlocks hM hS (by decide) ⟨hB_sv5, (Or.inl rfl)⟩ (by exact Nat.le_refl _) (by exact Nat.le_refl _) dX1_isRight_68
                · skip
                  refine lv_if_eq (tgt := 69) hx hb dX1_isRight_64 (by decide) (fun _ => ?_) (fun h9 => absurd (by decide) h9)
                  obtain ⟨x_14, ex_14⟩ : ∃ y : Int32, y = y5_0 + 1 := ⟨_, rfl⟩
                  try have tx_14 : x_14.toInt = y5_0.toInt + 1 := by rw [ex_14]; exact gz_addP (x := y5_0.toInt) (y := 1) rfl (by decide) (by omega) (by omega)
                  refine lv_iinc (v := (x_14)) (lv' := [(4, .int x_14), (0, .ref (ad 12 i)), (1, .ref (ad 25 z.toNatClampNeg)), (2, .int x), (3, .int y)]) hx hb dX1_isRight_69 hl (k := 0) rfl (by rw [ex_14]; rfl) (by decide) rfl (fun ls hl => ?_)
                  refine lv_goto (tgt := 29) hx hb dX1_isRight_72 (by decide) ?_
                  exact ih_5 sv5 (x_14 : Int32) H _ ls (by omega) hB_sv5 (by omega) hM hS (lv_sub hl [0, 1, 2, 3, 4] rfl)
      exact lp5 ((6 - ((0 : Int32) : Int32).toInt).toNat + 1) st ((0 : Int32) : Int32) H _ ls (Nat.lt_succ_self _) hB_st (by have hl0 : (0 : Int32).toInt = 0 := (by decide); omega) hM hS (lv_sub hl [0, 1, 2, 3, 4] rfl)

set_option maxHeartbeats 4000000 in
set_option maxRecDepth 100000 in
/-- WellCourt$Day.guestMany -/
theorem s_X1_guestMany (l : Launch) (G : va_G) (cy : Nat → ClassId) (sK sV : Nat → Nat) (ad : Nat → Nat → Nat) (sz : Nat) (st : gS) (hB : gBd bX st) (i : Nat) (z : Int32) (x : Int32) (y : Int32) (Xx : Int) (Xy : Int) (kx : x.toInt = Xx) (ky : y.toInt = Xy) (hi_i : i < 16) (hz_z : (0 : Int) ≤ z.toInt ∧ z.toInt ≤ (1 : Int)) (hx0 : 0 ≤ Xx) (hx1 : Xx < 6) : gsMi l yX1_guestMany cX1_guestMany 4 (some .int) ({ frames := 1, cells := 0, slots := 0, locals := 24 } : Room) G cy sK sV (shX cy ad) cnX ad sz [.ref (ad 12 i), .ref (ad 25 z.toNatClampNeg), .int x, .int y] st (fun (r : Int32) (u : gS) => gBN bX kX [] st u ∧ (True)) := by
  refine gs_start (fun A => gsQi G (shX cy ad) cnX ad _ A) (by decide) (Nat.le_of_ble_eq_true rfl) ?_
  intro p e s m below meth c A ls H hx hb hr hml hlocks hown hts hK hov hE hI hM hm hS hA hl
  have hl : lv_has ls 4 [(0, .ref (ad 12 i)), (1, .ref (ad 25 z.toNatClampNeg)), (2, .int x), (3, .int y)] := hl
  have hB_st : gBN bX kX [] st st := gBN.rf hB
  refine lv_aload_n hx hb dX1_guestMany_0 rfl (lv_at hl 1 rfl) ?_
  refine lv_iload_n hx hb dX1_guestMany_1 rfl (lv_at hl 3 rfl) ?_
  refine lv_iload_n hx hb dX1_guestMany_2 rfl (lv_at hl 2 rfl) ?_
  refine lv_aload_n hx hb dX1_guestMany_3 rfl (lv_at hl 0 rfl) ?_
  refine gs_get (C := RX1) (T := TX1) (N := 3) hx hb hts inX1 hown hK hM 12 i 2 hi_i rfl rfl (by decide) (hts _ gm_125) (fun _ h9 => h9) rfl dX1_guestMany_4 ?_
  refine lv_iload_n hx hb dX1_guestMany_7 rfl (lv_at hl 2 rfl) ?_
  refine gs_iald hx hb hK hM 15 i hi_i rfl (vp_in_iff.mpr ⟨by omega, by omega⟩) dX1_guestMany_8 ?_
  refine lv_topi (fun x_1 ex_1 => ?_)
  have qx_1 : x_1.toInt = (st 15 i (x.toNatClampNeg)).toInt := congrArg Int32.toInt ex_1
  refine gs_calli (va_runV (As := [.int y, .int x, .int x_1]) (rest := []) ⟨hx, hb, hml, hown, hts⟩ (s_X4_manyOfGuest l G cy sK sV ad H.size st hB_st.1 z y x x_1 y.toInt x.toInt x_1.toInt rfl rfl rfl hz_z ) ⟨(gz_cb (n := 3) hts gm_622 gm_10 gm_625 ⟨by decide +kernel, by decide +kernel, by decide +kernel⟩ ⟨Nat.le_of_ble_eq_true rfl, Nat.le_of_ble_eq_true rfl⟩), hts _ gm_623, hts _ gm_624⟩ (gs_preV hK hov hE hI hM hm hS hA 25 z.toNatClampNeg (gs_sel hz_z) rfl rfl) rfl rfl hl.1 rfl (lv_room (Nat.le_of_ble_eq_true rfl)) dX1_guestMany_9 ⟨Nat.le_of_ble_eq_true rfl, Nat.le_of_ble_eq_true rfl⟩) hm hS hA (fun r_2 st_2 H locs hw_2 hM hS => ?_)
  obtain ⟨n_2, hw_2⟩ := hw_2
  have n_2 := gBN.nil n_2
  subst n_2
  exact gs_iret hx hb hr hlocks hM hS rfl ⟨hB_st, trivial⟩ (by exact Nat.le_refl _) (by exact Nat.le_refl _) dX1_guestMany_12
