theorem gm_352 : (Jvm.Cond.static ({ cls := "WellCourt", name := "isWithin", desc := "(III)Z" } : Jvm.MethodName)) ∈ gz_T := gz_at 352 (by decide +kernel) rfl
theorem gm_353 : (Jvm.Cond.code ({ cls := "WellCourt", name := "isWithin", desc := "(III)Z" } : Jvm.MethodName) prog_1_method_29_code (3 : Nat) (Option.some Jvm.ClassFile.FieldType.boolean)) ∈ gz_T := gz_at 353 (by decide +kernel) rfl
theorem gm_367 : (Jvm.Cond.methodLink "WellCourt$Reader" (31 : Nat) ({ cls := "WellCourt$Reader", name := "advance", desc := "()V" } : Jvm.MethodName)) ∈ gz_T := gz_at 367 (by decide +kernel) rfl
theorem gm_369 : (Jvm.Cond.instanceMethod ({ cls := "WellCourt$Reader", name := "advance", desc := "()V" } : Jvm.MethodName)) ∈ gz_T := gz_at 369 (by decide +kernel) rfl
theorem gm_370 : (Jvm.Cond.code ({ cls := "WellCourt$Reader", name := "advance", desc := "()V" } : Jvm.MethodName) prog_9_method_17_code (2 : Nat) (Option.none : Option Jvm.ClassFile.FieldType)) ∈ gz_T := gz_at 370 (by decide +kernel) rfl
theorem gm_396 : (Jvm.Cond.methodLink "WellCourt$Reader" (52 : Nat) ({ cls := "WellCourt$Reader", name := "isWord", desc := "(Ljava/lang/String;)Z" } : Jvm.MethodName)) ∈ gz_T := gz_at 396 (by decide +kernel) rfl
theorem gm_398 : (Jvm.Cond.instanceMethod ({ cls := "WellCourt$Reader", name := "isWord", desc := "(Ljava/lang/String;)Z" } : Jvm.MethodName)) ∈ gz_T := gz_at 398 (by decide +kernel) rfl
theorem gm_399 : (Jvm.Cond.code ({ cls := "WellCourt$Reader", name := "isWord", desc := "(Ljava/lang/String;)Z" } : Jvm.MethodName) prog_9_method_16_code (3 : Nat) (Option.some Jvm.ClassFile.FieldType.boolean)) ∈ gz_T := gz_at 399 (by decide +kernel) rfl
theorem gm_400 : (Jvm.Cond.methodLink "WellCourt$Reader" (139 : Nat) ({ cls := "java/lang/String", name := "length", desc := "()I" } : Jvm.MethodName)) ∈ gz_T := gz_at 400 (by decide +kernel) rfl
theorem gm_401 : (Jvm.Cond.instanceMethod ({ cls := "java/lang/String", name := "length", desc := "()I" } : Jvm.MethodName)) ∈ gz_T := gz_at 401 (by decide +kernel) rfl
theorem gm_402 : (Jvm.Cond.selects "java/lang/String" ({ cls := "java/lang/String", name := "length", desc := "()I" } : Jvm.MethodName) ({ cls := "java/lang/String", name := "length", desc := "()I" } : Jvm.MethodName)) ∈ gz_T := gz_at 402 (by decide +kernel) rfl
theorem gm_403 : (Jvm.Cond.code ({ cls := "java/lang/String", name := "length", desc := "()I" } : Jvm.MethodName) prog_17_method_54_code (1 : Nat) (Option.some Jvm.ClassFile.FieldType.int)) ∈ gz_T := gz_at 403 (by decide +kernel) rfl
theorem gm_410 : (Jvm.Cond.methodLink "WellCourt$Reader" (145 : Nat) ({ cls := "java/lang/String", name := "charAt", desc := "(I)C" } : Jvm.MethodName)) ∈ gz_T := gz_at 410 (by decide +kernel) rfl
theorem gm_411 : (Jvm.Cond.instanceMethod ({ cls := "java/lang/String", name := "charAt", desc := "(I)C" } : Jvm.MethodName)) ∈ gz_T := gz_at 411 (by decide +kernel) rfl
theorem gm_412 : (Jvm.Cond.selects "java/lang/String" ({ cls := "java/lang/String", name := "charAt", desc := "(I)C" } : Jvm.MethodName) ({ cls := "java/lang/String", name := "charAt", desc := "(I)C" } : Jvm.MethodName)) ∈ gz_T := gz_at 412 (by decide +kernel) rfl
theorem gm_413 : (Jvm.Cond.code ({ cls := "java/lang/String", name := "charAt", desc := "(I)C" } : Jvm.MethodName) prog_17_method_56_code (2 : Nat) (Option.some Jvm.ClassFile.FieldType.char)) ∈ gz_T := gz_at 413 (by decide +kernel) rfl
theorem gm_452 : (Jvm.Cond.methodLink "WellCourt$Reader" (43 : Nat) ({ cls := "WellCourt$Reader", name := "cannotCome", desc := "()Z" } : Jvm.MethodName)) ∈ gz_T := gz_at 452 (by decide +kernel) rfl
theorem gm_454 : (Jvm.Cond.instanceMethod ({ cls := "WellCourt$Reader", name := "cannotCome", desc := "()Z" } : Jvm.MethodName)) ∈ gz_T := gz_at 454 (by decide +kernel) rfl
theorem gm_455 : (Jvm.Cond.code ({ cls := "WellCourt$Reader", name := "cannotCome", desc := "()Z" } : Jvm.MethodName) prog_9_method_13_code (1 : Nat) (Option.some Jvm.ClassFile.FieldType.boolean)) ∈ gz_T := gz_at 455 (by decide +kernel) rfl
theorem gm_477 : (Jvm.Cond.methodLink "WellCourt$Reader" (99 : Nat) ({ cls := "WellCourt$Reader", name := "isSign", desc := "(C)Z" } : Jvm.MethodName)) ∈ gz_T := gz_at 477 (by decide +kernel) rfl
theorem gm_479 : (Jvm.Cond.instanceMethod ({ cls := "WellCourt$Reader", name := "isSign", desc := "(C)Z" } : Jvm.MethodName)) ∈ gz_T := gz_at 479 (by decide +kernel) rfl
theorem gm_480 : (Jvm.Cond.code ({ cls := "WellCourt$Reader", name := "isSign", desc := "(C)Z" } : Jvm.MethodName) prog_9_method_15_code (2 : Nat) (Option.some Jvm.ClassFile.FieldType.boolean)) ∈ gz_T := gz_at 480 (by decide +kernel) rfl
theorem gm_486 : (Jvm.Cond.static ({ cls := "WellCourt", name := "isClan", desc := "(I)Z" } : Jvm.MethodName)) ∈ gz_T := gz_at 486 (by decide +kernel) rfl
theorem gm_487 : (Jvm.Cond.code ({ cls := "WellCourt", name := "isClan", desc := "(I)Z" } : Jvm.MethodName) prog_1_method_31_code (1 : Nat) (Option.some Jvm.ClassFile.FieldType.boolean)) ∈ gz_T := gz_at 487 (by decide +kernel) rfl
theorem gn_468 : (Jvm.Cond.methodLinkNest "WellCourt$Reader" (135 : Nat) ({ cls := "WellCourt", name := "isWithin", desc := "(III)Z" } : Jvm.MethodName) "WellCourt") ∈ gzN := gz_nest 468 (by decide +kernel) rfl
theorem gn_485 : (Jvm.Cond.methodLinkNest "WellCourt$Reader" (132 : Nat) ({ cls := "WellCourt", name := "isClan", desc := "(I)Z" } : Jvm.MethodName) "WellCourt") ∈ gzN := gz_nest 485 (by decide +kernel) rfl
theorem gs_0 : (Jvm.Cond.selects "WellCourt$Reader" ({ cls := "WellCourt$Reader", name := "advance", desc := "()V" } : Jvm.MethodName) ({ cls := "WellCourt$Reader", name := "advance", desc := "()V" } : Jvm.MethodName)) ∈ gz_T := gz_sel 0 (by decide +kernel) rfl
theorem gs_3 : (Jvm.Cond.selects "WellCourt$Reader" ({ cls := "WellCourt$Reader", name := "isWord", desc := "(Ljava/lang/String;)Z" } : Jvm.MethodName) ({ cls := "WellCourt$Reader", name := "isWord", desc := "(Ljava/lang/String;)Z" } : Jvm.MethodName)) ∈ gz_T := gz_sel 3 (by decide +kernel) rfl
theorem gs_4 : (Jvm.Cond.selects "WellCourt$Reader" ({ cls := "WellCourt$Reader", name := "cannotCome", desc := "()Z" } : Jvm.MethodName) ({ cls := "WellCourt$Reader", name := "cannotCome", desc := "()Z" } : Jvm.MethodName)) ∈ gz_T := gz_sel 4 (by decide +kernel) rfl
theorem gs_9 : (Jvm.Cond.selects "WellCourt$Reader" ({ cls := "WellCourt$Reader", name := "isSign", desc := "(C)Z" } : Jvm.MethodName) ({ cls := "WellCourt$Reader", name := "isSign", desc := "(C)Z" } : Jvm.MethodName)) ∈ gz_T := gz_sel 9 (by decide +kernel) rfl
theorem dX7_isRuleWord_0 : decode cX7_isRuleWord 0 = .ok (.aload_n 0, 1) := by decide +kernel
theorem dX7_isRuleWord_1 : decode cX7_isRuleWord 1 = .ok (.ldc 50, 2) := by decide +kernel
theorem dX7_isRuleWord_3 : decode cX7_isRuleWord 3 = .ok (.invokevirtual 52, 3) := by decide +kernel
theorem dX7_isRuleWord_6 : decode cX7_isRuleWord 6 = .ok (.ifCond .ne 39, 3) := by decide +kernel
theorem dX7_isRuleWord_9 : decode cX7_isRuleWord 9 = .ok (.aload_n 0, 1) := by decide +kernel
theorem dX7_isRuleWord_10 : decode cX7_isRuleWord 10 = .ok (.ldc 60, 2) := by decide +kernel
theorem dX7_isRuleWord_12 : decode cX7_isRuleWord 12 = .ok (.invokevirtual 52, 3) := by decide +kernel
theorem dX7_isRuleWord_15 : decode cX7_isRuleWord 15 = .ok (.ifCond .ne 30, 3) := by decide +kernel
theorem dX7_isRuleWord_18 : decode cX7_isRuleWord 18 = .ok (.aload_n 0, 1) := by decide +kernel
theorem dX7_isRuleWord_19 : decode cX7_isRuleWord 19 = .ok (.ldc 65, 2) := by decide +kernel
theorem dX7_isRuleWord_21 : decode cX7_isRuleWord 21 = .ok (.invokevirtual 52, 3) := by decide +kernel
theorem dX7_isRuleWord_24 : decode cX7_isRuleWord 24 = .ok (.ifCond .ne 21, 3) := by decide +kernel
theorem dX7_isRuleWord_27 : decode cX7_isRuleWord 27 = .ok (.aload_n 0, 1) := by decide +kernel
theorem dX7_isRuleWord_28 : decode cX7_isRuleWord 28 = .ok (.ldc 70, 2) := by decide +kernel
theorem dX7_isRuleWord_30 : decode cX7_isRuleWord 30 = .ok (.invokevirtual 52, 3) := by decide +kernel
theorem dX7_isRuleWord_33 : decode cX7_isRuleWord 33 = .ok (.ifCond .ne 12, 3) := by decide +kernel
theorem dX7_isRuleWord_36 : decode cX7_isRuleWord 36 = .ok (.aload_n 0, 1) := by decide +kernel
theorem dX7_isRuleWord_37 : decode cX7_isRuleWord 37 = .ok (.ldc 78, 2) := by decide +kernel
theorem dX7_isRuleWord_39 : decode cX7_isRuleWord 39 = .ok (.invokevirtual 52, 3) := by decide +kernel
theorem dX7_isRuleWord_42 : decode cX7_isRuleWord 42 = .ok (.ifCond .eq 7, 3) := by decide +kernel
theorem dX7_isRuleWord_45 : decode cX7_isRuleWord 45 = .ok (.iconst 1, 1) := by decide +kernel
theorem dX7_isRuleWord_46 : decode cX7_isRuleWord 46 = .ok (.goto 4, 3) := by decide +kernel
theorem dX7_isRuleWord_49 : decode cX7_isRuleWord 49 = .ok (.iconst 0, 1) := by decide +kernel
theorem dX7_isRuleWord_50 : decode cX7_isRuleWord 50 = .ok (.ireturn, 1) := by decide +kernel
theorem dX7_isWord_0 : decode cX7_isWord 0 = .ok (.aload_n 0, 1) := by decide +kernel
theorem dX7_isWord_1 : decode cX7_isWord 1 = .ok (.getfield 11, 3) := by decide +kernel
theorem dX7_isWord_4 : decode cX7_isWord 4 = .ok (.iconst 2, 1) := by decide +kernel
theorem dX7_isWord_5 : decode cX7_isWord 5 = .ok (.if_icmp .ne 19, 3) := by decide +kernel
theorem dX7_isWord_8 : decode cX7_isWord 8 = .ok (.aload_n 0, 1) := by decide +kernel
theorem dX7_isWord_9 : decode cX7_isWord 9 = .ok (.getfield 18, 3) := by decide +kernel
theorem dX7_isWord_12 : decode cX7_isWord 12 = .ok (.aload_n 0, 1) := by decide +kernel
theorem dX7_isWord_13 : decode cX7_isWord 13 = .ok (.getfield 15, 3) := by decide +kernel
theorem dX7_isWord_16 : decode cX7_isWord 16 = .ok (.isub, 1) := by decide +kernel
theorem dX7_isWord_17 : decode cX7_isWord 17 = .ok (.aload_n 1, 1) := by decide +kernel
theorem dX7_isWord_18 : decode cX7_isWord 18 = .ok (.invokevirtual 139, 3) := by decide +kernel
theorem dX7_isWord_21 : decode cX7_isWord 21 = .ok (.if_icmp .eq 5, 3) := by decide +kernel
theorem dX7_isWord_24 : decode cX7_isWord 24 = .ok (.iconst 0, 1) := by decide +kernel
theorem dX7_isWord_25 : decode cX7_isWord 25 = .ok (.ireturn, 1) := by decide +kernel
theorem dX7_isWord_26 : decode cX7_isWord 26 = .ok (.iconst 0, 1) := by decide +kernel
theorem dX7_isWord_27 : decode cX7_isWord 27 = .ok (.istore_n 2, 1) := by decide +kernel
theorem dX7_isWord_28 : decode cX7_isWord 28 = .ok (.iload_n 2, 1) := by decide +kernel
theorem dX7_isWord_29 : decode cX7_isWord 29 = .ok (.aload_n 1, 1) := by decide +kernel
theorem dX7_isWord_30 : decode cX7_isWord 30 = .ok (.invokevirtual 139, 3) := by decide +kernel
theorem dX7_isWord_33 : decode cX7_isWord 33 = .ok (.if_icmp .ge 32, 3) := by decide +kernel
theorem dX7_isWord_36 : decode cX7_isWord 36 = .ok (.aload_n 0, 1) := by decide +kernel
theorem dX7_isWord_37 : decode cX7_isWord 37 = .ok (.getfield 27, 3) := by decide +kernel
theorem dX7_isWord_40 : decode cX7_isWord 40 = .ok (.aload_n 0, 1) := by decide +kernel
theorem dX7_isWord_41 : decode cX7_isWord 41 = .ok (.getfield 15, 3) := by decide +kernel
theorem dX7_isWord_44 : decode cX7_isWord 44 = .ok (.iload_n 2, 1) := by decide +kernel
theorem dX7_isWord_45 : decode cX7_isWord 45 = .ok (.iadd, 1) := by decide +kernel
theorem dX7_isWord_46 : decode cX7_isWord 46 = .ok (.invokevirtual 127, 3) := by decide +kernel
theorem dX7_isWord_49 : decode cX7_isWord 49 = .ok (.aload_n 1, 1) := by decide +kernel
theorem dX7_isWord_50 : decode cX7_isWord 50 = .ok (.iload_n 2, 1) := by decide +kernel
theorem dX7_isWord_51 : decode cX7_isWord 51 = .ok (.invokevirtual 145, 3) := by decide +kernel
theorem dX7_isWord_54 : decode cX7_isWord 54 = .ok (.if_icmp .eq 5, 3) := by decide +kernel
theorem dX7_isWord_57 : decode cX7_isWord 57 = .ok (.iconst 0, 1) := by decide +kernel
theorem dX7_isWord_58 : decode cX7_isWord 58 = .ok (.ireturn, 1) := by decide +kernel
theorem dX7_isWord_59 : decode cX7_isWord 59 = .ok (.iinc 2 1, 3) := by decide +kernel
theorem dX7_isWord_62 : decode cX7_isWord 62 = .ok (.goto (-34), 3) := by decide +kernel
theorem dX7_isWord_65 : decode cX7_isWord 65 = .ok (.iconst 1, 1) := by decide +kernel
theorem dX7_isWord_66 : decode cX7_isWord 66 = .ok (.ireturn, 1) := by decide +kernel
theorem dX7_readClan_0 : decode cX7_readClan 0 = .ok (.aload_n 0, 1) := by decide +kernel
theorem dX7_readClan_1 : decode cX7_readClan 1 = .ok (.invokevirtual 31, 3) := by decide +kernel
theorem dX7_readClan_4 : decode cX7_readClan 4 = .ok (.aload_n 0, 1) := by decide +kernel
theorem dX7_readClan_5 : decode cX7_readClan 5 = .ok (.getfield 11, 3) := by decide +kernel
theorem dX7_readClan_8 : decode cX7_readClan 8 = .ok (.iconst 2, 1) := by decide +kernel
theorem dX7_readClan_9 : decode cX7_readClan 9 = .ok (.if_icmp .ne 33, 3) := by decide +kernel
theorem dX7_readClan_12 : decode cX7_readClan 12 = .ok (.aload_n 0, 1) := by decide +kernel
theorem dX7_readClan_13 : decode cX7_readClan 13 = .ok (.getfield 18, 3) := by decide +kernel
theorem dX7_readClan_16 : decode cX7_readClan 16 = .ok (.aload_n 0, 1) := by decide +kernel
theorem dX7_readClan_17 : decode cX7_readClan 17 = .ok (.getfield 15, 3) := by decide +kernel
theorem dX7_readClan_20 : decode cX7_readClan 20 = .ok (.isub, 1) := by decide +kernel
theorem dX7_readClan_21 : decode cX7_readClan 21 = .ok (.iconst 1, 1) := by decide +kernel
theorem dX7_readClan_22 : decode cX7_readClan 22 = .ok (.if_icmp .ne 20, 3) := by decide +kernel
theorem dX7_readClan_25 : decode cX7_readClan 25 = .ok (.aload_n 0, 1) := by decide +kernel
theorem dX7_readClan_26 : decode cX7_readClan 26 = .ok (.getfield 27, 3) := by decide +kernel
theorem dX7_readClan_29 : decode cX7_readClan 29 = .ok (.aload_n 0, 1) := by decide +kernel
theorem dX7_readClan_30 : decode cX7_readClan 30 = .ok (.getfield 15, 3) := by decide +kernel
theorem dX7_readClan_33 : decode cX7_readClan 33 = .ok (.invokevirtual 127, 3) := by decide +kernel
theorem dX7_readClan_36 : decode cX7_readClan 36 = .ok (.bipush 97, 2) := by decide +kernel
theorem dX7_readClan_38 : decode cX7_readClan 38 = .ok (.isub, 1) := by decide +kernel
theorem dX7_readClan_39 : decode cX7_readClan 39 = .ok (.goto 4, 3) := by decide +kernel
theorem dX7_readClan_42 : decode cX7_readClan 42 = .ok (.iconst (-1), 1) := by decide +kernel
theorem dX7_readClan_43 : decode cX7_readClan 43 = .ok (.istore_n 2, 1) := by decide +kernel
theorem dX7_readClan_44 : decode cX7_readClan 44 = .ok (.iload_n 2, 1) := by decide +kernel
theorem dX7_readClan_45 : decode cX7_readClan 45 = .ok (.invokestatic 132, 3) := by decide +kernel
theorem dX7_readClan_48 : decode cX7_readClan 48 = .ok (.ifCond .ne 10, 3) := by decide +kernel
theorem dX7_readClan_51 : decode cX7_readClan 51 = .ok (.aload_n 0, 1) := by decide +kernel
theorem dX7_readClan_52 : decode cX7_readClan 52 = .ok (.invokevirtual 43, 3) := by decide +kernel
theorem dX7_readClan_55 : decode cX7_readClan 55 = .ok (.pop, 1) := by decide +kernel
theorem dX7_readClan_56 : decode cX7_readClan 56 = .ok (.iconst (-1), 1) := by decide +kernel
theorem dX7_readClan_57 : decode cX7_readClan 57 = .ok (.ireturn, 1) := by decide +kernel
theorem dX7_readClan_58 : decode cX7_readClan 58 = .ok (.iload_n 2, 1) := by decide +kernel
theorem dX7_readClan_59 : decode cX7_readClan 59 = .ok (.iload_n 1, 1) := by decide +kernel
theorem dX7_readClan_60 : decode cX7_readClan 60 = .ok (.if_icmp .ne 11, 3) := by decide +kernel
theorem dX7_readClan_63 : decode cX7_readClan 63 = .ok (.aload_n 0, 1) := by decide +kernel
theorem dX7_readClan_64 : decode cX7_readClan 64 = .ok (.iconst 3, 1) := by decide +kernel
theorem dX7_readClan_65 : decode cX7_readClan 65 = .ok (.invokevirtual 46, 3) := by decide +kernel
theorem dX7_readClan_68 : decode cX7_readClan 68 = .ok (.pop, 1) := by decide +kernel
theorem dX7_readClan_69 : decode cX7_readClan 69 = .ok (.iconst (-1), 1) := by decide +kernel
theorem dX7_readClan_70 : decode cX7_readClan 70 = .ok (.ireturn, 1) := by decide +kernel
theorem dX7_readClan_71 : decode cX7_readClan 71 = .ok (.iload_n 2, 1) := by decide +kernel
theorem dX7_readClan_72 : decode cX7_readClan 72 = .ok (.ireturn, 1) := by decide +kernel
theorem dX7_readNumber_0 : decode cX7_readNumber 0 = .ok (.aload_n 0, 1) := by decide +kernel
theorem dX7_readNumber_1 : decode cX7_readNumber 1 = .ok (.invokevirtual 31, 3) := by decide +kernel
theorem dX7_readNumber_4 : decode cX7_readNumber 4 = .ok (.aload_n 0, 1) := by decide +kernel
theorem dX7_readNumber_5 : decode cX7_readNumber 5 = .ok (.getfield 11, 3) := by decide +kernel
theorem dX7_readNumber_8 : decode cX7_readNumber 8 = .ok (.iconst 3, 1) := by decide +kernel
theorem dX7_readNumber_9 : decode cX7_readNumber 9 = .ok (.if_icmp .eq 10, 3) := by decide +kernel
theorem dX7_readNumber_12 : decode cX7_readNumber 12 = .ok (.aload_n 0, 1) := by decide +kernel
theorem dX7_readNumber_13 : decode cX7_readNumber 13 = .ok (.invokevirtual 43, 3) := by decide +kernel
theorem dX7_readNumber_16 : decode cX7_readNumber 16 = .ok (.pop, 1) := by decide +kernel
theorem dX7_readNumber_17 : decode cX7_readNumber 17 = .ok (.iconst (-1), 1) := by decide +kernel
theorem dX7_readNumber_18 : decode cX7_readNumber 18 = .ok (.ireturn, 1) := by decide +kernel
theorem dX7_readNumber_19 : decode cX7_readNumber 19 = .ok (.iconst 0, 1) := by decide +kernel
theorem dX7_readNumber_20 : decode cX7_readNumber 20 = .ok (.istore_n 3, 1) := by decide +kernel
theorem dX7_readNumber_21 : decode cX7_readNumber 21 = .ok (.aload_n 0, 1) := by decide +kernel
theorem dX7_readNumber_22 : decode cX7_readNumber 22 = .ok (.getfield 15, 3) := by decide +kernel
theorem dX7_readNumber_25 : decode cX7_readNumber 25 = .ok (.istore 4, 2) := by decide +kernel
theorem dX7_readNumber_27 : decode cX7_readNumber 27 = .ok (.iload 4, 2) := by decide +kernel
theorem dX7_readNumber_29 : decode cX7_readNumber 29 = .ok (.aload_n 0, 1) := by decide +kernel
theorem dX7_readNumber_30 : decode cX7_readNumber 30 = .ok (.getfield 18, 3) := by decide +kernel
theorem dX7_readNumber_33 : decode cX7_readNumber 33 = .ok (.if_icmp .ge 27, 3) := by decide +kernel
theorem dX7_readNumber_36 : decode cX7_readNumber 36 = .ok (.iload_n 3, 1) := by decide +kernel
theorem dX7_readNumber_37 : decode cX7_readNumber 37 = .ok (.bipush 10, 2) := by decide +kernel
theorem dX7_readNumber_39 : decode cX7_readNumber 39 = .ok (.imul, 1) := by decide +kernel
theorem dX7_readNumber_40 : decode cX7_readNumber 40 = .ok (.aload_n 0, 1) := by decide +kernel
theorem dX7_readNumber_41 : decode cX7_readNumber 41 = .ok (.getfield 27, 3) := by decide +kernel
theorem dX7_readNumber_44 : decode cX7_readNumber 44 = .ok (.iload 4, 2) := by decide +kernel
theorem dX7_readNumber_46 : decode cX7_readNumber 46 = .ok (.invokevirtual 127, 3) := by decide +kernel
theorem dX7_readNumber_49 : decode cX7_readNumber 49 = .ok (.iadd, 1) := by decide +kernel
theorem dX7_readNumber_50 : decode cX7_readNumber 50 = .ok (.bipush 48, 2) := by decide +kernel
theorem dX7_readNumber_52 : decode cX7_readNumber 52 = .ok (.isub, 1) := by decide +kernel
theorem dX7_readNumber_53 : decode cX7_readNumber 53 = .ok (.istore_n 3, 1) := by decide +kernel
theorem dX7_readNumber_54 : decode cX7_readNumber 54 = .ok (.iinc 4 1, 3) := by decide +kernel
theorem dX7_readNumber_57 : decode cX7_readNumber 57 = .ok (.goto (-30), 3) := by decide +kernel
theorem dX7_readNumber_60 : decode cX7_readNumber 60 = .ok (.iload_n 3, 1) := by decide +kernel
theorem dX7_readNumber_61 : decode cX7_readNumber 61 = .ok (.iload_n 1, 1) := by decide +kernel
theorem dX7_readNumber_62 : decode cX7_readNumber 62 = .ok (.iload_n 2, 1) := by decide +kernel
theorem dX7_readNumber_63 : decode cX7_readNumber 63 = .ok (.invokestatic 135, 3) := by decide +kernel
theorem dX7_readNumber_66 : decode cX7_readNumber 66 = .ok (.ifCond .ne 11, 3) := by decide +kernel
theorem dX7_readNumber_69 : decode cX7_readNumber 69 = .ok (.aload_n 0, 1) := by decide +kernel
theorem dX7_readNumber_70 : decode cX7_readNumber 70 = .ok (.iconst 3, 1) := by decide +kernel
theorem dX7_readNumber_71 : decode cX7_readNumber 71 = .ok (.invokevirtual 46, 3) := by decide +kernel
theorem dX7_readNumber_74 : decode cX7_readNumber 74 = .ok (.pop, 1) := by decide +kernel
theorem dX7_readNumber_75 : decode cX7_readNumber 75 = .ok (.iconst (-1), 1) := by decide +kernel
theorem dX7_readNumber_76 : decode cX7_readNumber 76 = .ok (.ireturn, 1) := by decide +kernel
theorem dX7_readNumber_77 : decode cX7_readNumber 77 = .ok (.iload_n 3, 1) := by decide +kernel
theorem dX7_readNumber_78 : decode cX7_readNumber 78 = .ok (.ireturn, 1) := by decide +kernel
theorem dX7_readSign_0 : decode cX7_readSign 0 = .ok (.aload_n 0, 1) := by decide +kernel
theorem dX7_readSign_1 : decode cX7_readSign 1 = .ok (.invokevirtual 31, 3) := by decide +kernel
theorem dX7_readSign_4 : decode cX7_readSign 4 = .ok (.aload_n 0, 1) := by decide +kernel
theorem dX7_readSign_5 : decode cX7_readSign 5 = .ok (.iload_n 1, 1) := by decide +kernel
theorem dX7_readSign_6 : decode cX7_readSign 6 = .ok (.invokevirtual 99, 3) := by decide +kernel
theorem dX7_readSign_9 : decode cX7_readSign 9 = .ok (.ifCond .ne 10, 3) := by decide +kernel
theorem dX7_readSign_12 : decode cX7_readSign 12 = .ok (.aload_n 0, 1) := by decide +kernel
theorem dX7_readSign_13 : decode cX7_readSign 13 = .ok (.invokevirtual 43, 3) := by decide +kernel
theorem dX7_readSign_16 : decode cX7_readSign 16 = .ok (.ifCond .eq 7, 3) := by decide +kernel
theorem dX7_readSign_19 : decode cX7_readSign 19 = .ok (.iconst 1, 1) := by decide +kernel
theorem dX7_readSign_20 : decode cX7_readSign 20 = .ok (.goto 4, 3) := by decide +kernel
theorem dX7_readSign_23 : decode cX7_readSign 23 = .ok (.iconst 0, 1) := by decide +kernel
theorem dX7_readSign_24 : decode cX7_readSign 24 = .ok (.ireturn, 1) := by decide +kernel
theorem dX7_readWord_0 : decode cX7_readWord 0 = .ok (.aload_n 0, 1) := by decide +kernel
theorem dX7_readWord_1 : decode cX7_readWord 1 = .ok (.invokevirtual 31, 3) := by decide +kernel
theorem dX7_readWord_4 : decode cX7_readWord 4 = .ok (.aload_n 0, 1) := by decide +kernel
theorem dX7_readWord_5 : decode cX7_readWord 5 = .ok (.aload_n 1, 1) := by decide +kernel
theorem dX7_readWord_6 : decode cX7_readWord 6 = .ok (.invokevirtual 52, 3) := by decide +kernel
theorem dX7_readWord_9 : decode cX7_readWord 9 = .ok (.ifCond .ne 10, 3) := by decide +kernel
theorem dX7_readWord_12 : decode cX7_readWord 12 = .ok (.aload_n 0, 1) := by decide +kernel
theorem dX7_readWord_13 : decode cX7_readWord 13 = .ok (.invokevirtual 43, 3) := by decide +kernel
theorem dX7_readWord_16 : decode cX7_readWord 16 = .ok (.ifCond .eq 7, 3) := by decide +kernel
theorem dX7_readWord_19 : decode cX7_readWord 19 = .ok (.iconst 1, 1) := by decide +kernel
theorem dX7_readWord_20 : decode cX7_readWord 20 = .ok (.goto 4, 3) := by decide +kernel
theorem dX7_readWord_23 : decode cX7_readWord 23 = .ok (.iconst 0, 1) := by decide +kernel
theorem dX7_readWord_24 : decode cX7_readWord 24 = .ok (.ireturn, 1) := by decide +kernel
set_option maxHeartbeats 4000000 in
set_option maxRecDepth 100000 in
/-- WellCourt$Reader.isWord -/
theorem s_X7_isWord (l : Launch) (G : va_G) (cy : Nat → ClassId) (sK sV : Nat → Nat) (ad : Nat → Nat → Nat) (sz : Nat) (st : gS) (hB : gBd bX st) (i : Nat) (hi_i : i < 9) (F : Nat → Int32) (N : Int) (hF : st 2 0 = F) (hN : (st 1 0 1).toInt = N) : gsMi l yX7_isWord cX7_isWord 3 (some .boolean) ({ frames := 4, cells := 0, slots := 0, locals := 85 } : Room) G cy sK sV (shX cy ad) cnX ad sz [.ref (ad 3 0), .ref (sK i)] st (fun (r : Int32) (u : gS) => gBN bX kX [] st u ∧ ((r = 1 ∧ ((st 3 0 1).toInt = 2 ∧ isW F N (st 3 0 2).toInt (st 3 0 3).toInt (wI i))) ∨ (r = 0 ∧ (¬ ((st 3 0 1).toInt = 2 ∧ isW F N (st 3 0 2).toInt (st 3 0 3).toInt (wI i)))))) := by
  refine gs_start (fun A => gsQi G (shX cy ad) cnX ad _ A) (by decide) (Nat.le_of_ble_eq_true rfl) ?_
  intro p e s m below meth c A ls H hx hb hr hml hlocks hown hts hK hov hE hI hM hm hS hA hl
  have hl : lv_has ls 3 [(0, .ref (ad 3 0)), (1, .ref (sK i))] := hl
  have hB_st : gBN bX kX [] st st := gBN.rf hB
  have hsl := sx_small i hi_i
  have hsg := gi_hi (Int32.ofNat (sxL.getD i 0))
  generalize hQe : MQ below _ _ s _ _ A = Q
  refine lv_aload_n hx hb dX7_isWord_0 rfl (lv_at hl 0 rfl) ?_
  refine gs_get (C := RX7) (T := TX7) (N := 6) hx hb hts inX7 hown hK hM 3 0 1 (by decide) rfl rfl (by decide) (hts _ gm_54) (fun _ h9 => h9) rfl dX7_isWord_1 ?_
  refine lv_iconst (v := 2) hx hb dX7_isWord_4 (by decide) ?_
  refine lv_icmp_ne (tgt := 24) hx hb dX7_isWord_5 (by decide) (fun c_2 => ?_) (fun c_2 => ?_)
  · have ic_2 := gz_ne (rfl : (st 3 0 1).toInt = (st 3 0 1).toInt) (by decide : (2 : Int32).toInt = 2) c_2
    refine lv_iconst (v := 0) hx hb dX7_isWord_24 (by decide) ?_
    rw [← hQe]
    exact gs_iret hx hb hr hlocks hM hS (by decide) ⟨hB_st, (Or.inr ⟨rfl, fun h9 => by first | exact absurd h9.1 (by omega) | (have h8 := h9.2.1; rw [wI_len i hi_i] at h8; omega)⟩)⟩ (by exact Nat.le_refl _) (by exact Nat.le_refl _) dX7_isWord_25
  · have ic_2 := gz_eqn (rfl : (st 3 0 1).toInt = (st 3 0 1).toInt) (by decide : (2 : Int32).toInt = 2) c_2
    refine lv_aload_n hx hb dX7_isWord_8 rfl (lv_at hl 0 rfl) ?_
    refine gs_get (C := RX7) (T := TX7) (N := 6) hx hb hts inX7 hown hK hM 3 0 3 (by decide) rfl rfl (by decide) (hts _ gm_56) (fun _ h9 => h9) rfl dX7_isWord_9 ?_
    have bf_3 : (0 : Int) ≤ (st 3 0 3).toInt ∧ (st 3 0 3).toInt ≤ (801 : Int) := hB_st.1 3 0 3
    refine lv_aload_n hx hb dX7_isWord_12 rfl (lv_at hl 0 rfl) ?_
    refine gs_get (C := RX7) (T := TX7) (N := 6) hx hb hts inX7 hown hK hM 3 0 2 (by decide) rfl rfl (by decide) (hts _ gm_55) (fun _ h9 => h9) rfl dX7_isWord_13 ?_
    have bf_4 : (0 : Int) ≤ (st 3 0 2).toInt ∧ (st 3 0 2).toInt ≤ (800 : Int) := hB_st.1 3 0 2
    refine lv_isub hx hb dX7_isWord_16 ?_
    refine lv_topi (fun x_5 ex_5 => ?_)
    try have tx_5 : x_5.toInt = (st 3 0 3).toInt - (st 3 0 2).toInt := by rw [ex_5]; exact gz_subI (x := (st 3 0 3).toInt) (y := (st 3 0 2).toInt) rfl rfl (by omega) (by omega)
    refine lv_aload_n hx hb dX7_isWord_17 rfl (lv_at hl 1 rfl) ?_
    refine gs_calli (va_runV (As := []) (rest := [.int x_5]) ⟨hx, hb, hml, hown, hts⟩ (s_len l G cy sK sV ad H.size st hB_st.1 i hi_i ) ⟨(gz_cb (n := 0) hts gm_400 gm_13 gm_403 ⟨by decide +kernel, by decide +kernel, by decide +kernel⟩ ⟨Nat.le_of_ble_eq_true rfl, Nat.le_of_ble_eq_true rfl⟩), hts _ gm_401, hts _ gm_402⟩ (gs_preK hK hov hE hI hM hm hS hA i hi_i) rfl rfl hl.1 rfl (lv_room (Nat.le_of_ble_eq_true rfl)) dX7_isWord_18 ⟨Nat.le_of_ble_eq_true rfl, Nat.le_of_ble_eq_true rfl⟩) hm hS hA (fun r_6 st_6 H locs hw_6 hM hS => ?_)
    obtain ⟨n_6, hw_6⟩ := hw_6
    have n_6 := gBN.nil n_6
    subst n_6
    have hw_6_0 := hw_6
    refine lv_icmp_eq (tgt := 26) hx hb dX7_isWord_21 (by decide) (fun c_7 => ?_) (fun c_7 => ?_)
    · have ic_7 := gz_eq (rfl : x_5.toInt = x_5.toInt) (rfl : r_6.toInt = r_6.toInt) c_7
      refine lv_iconst (v := 0) hx hb dX7_isWord_26 (by decide) ?_
      refine lv_istore_n (lv' := [(2, .int 0), (0, .ref (ad 3 0)), (1, .ref (sK i))]) hx hb dX7_isWord_27 rfl hl (by decide) rfl (fun ls hl => ?_)
      have lp8 : ∀ (n8 : Nat)  (y8_0 : Int32) (H : Heap) (locs : List Loc) (ls : Array Slot), (((sxL.getD i 0 : Nat) : Int) - y8_0.toInt).toNat < n8 →  (0 ≤ y8_0.toInt) → (y8_0.toInt ≤ ((sxL.getD i 0 : Nat) : Int)) → (∀ k9 : Nat, (k9 : Int) < y8_0.toInt → bA F N ((st 3 0 2).toInt + (k9 : Int)) = (wI i).getD k9 0) → gM G (shX cy ad) cnX ad st H → va_S A s.heap H locs → lv_has ls 3 [(2, .int y8_0), (0, .ref (ad 3 0)), (1, .ref (sK i))] → W p l e ({ frames := 4, cells := 0, slots := 0, locals := 85 } : Room) s m [.ref (ad 3 0), .ref (sK i)].toArray below meth c H locs 0 0 Q (F0 m 28 ls []) := by
        intro n8
        induction n8 with
        | zero => intro  y8_0 H locs ls h9; exact absurd h9 (Nat.not_lt_zero _)
        | succ n8 ih_8 =>
          intro  y8_0 H locs ls hme8  hv8_0 hv8_1 hv8_2 hM hS hl
          have hb8_0 : (0 : Int) ≤ (st 3 0 2).toInt ∧ (st 3 0 2).toInt ≤ (800 : Int) := hB_st.1 3 0 2
          refine lv_iload_n hx hb dX7_isWord_28 rfl (lv_at hl 0 rfl) ?_
          refine lv_aload_n hx hb dX7_isWord_29 rfl (lv_at hl 2 rfl) ?_
          refine gs_calli (va_runV (As := []) (rest := [.int y8_0]) ⟨hx, hb, hml, hown, hts⟩ (s_len l G cy sK sV ad H.size st hB_st.1 i hi_i ) ⟨(gz_cb (n := 0) hts gm_400 gm_13 gm_403 ⟨by decide +kernel, by decide +kernel, by decide +kernel⟩ ⟨Nat.le_of_ble_eq_true rfl, Nat.le_of_ble_eq_true rfl⟩), hts _ gm_401, hts _ gm_402⟩ (gs_preK hK hov hE hI hM hm hS hA i hi_i) rfl rfl hl.1 rfl (lv_room (Nat.le_of_ble_eq_true rfl)) dX7_isWord_30 ⟨Nat.le_of_ble_eq_true rfl, Nat.le_of_ble_eq_true rfl⟩) hm hS hA (fun r_9 st_9 H locs hw_9 hM hS => ?_)
          obtain ⟨n_9, hw_9⟩ := hw_9
          have n_9 := gBN.nil n_9
          subst n_9
          have hw_9_0 := hw_9
          refine lv_icmp_ge (tgt := 65) hx hb dX7_isWord_33 (by decide) (fun c_10 => ?_) (fun c_10 => ?_)
          · have ic_10 := gz_le (rfl : r_9.toInt = r_9.toInt) (rfl : y8_0.toInt = y8_0.toInt) c_10
            refine lv_iconst (v := 1) hx hb dX7_isWord_65 (by decide) ?_
            rw [← hQe]
            exact gs_iret hx hb hr hlocks hM hS (by decide) ⟨hB_st, (Or.inl ⟨rfl, ⟨by omega, by rw [wI_len i hi_i]; omega, fun k9 h9 => hv8_2 k9 (by rw [wI_lenN i hi_i] at h9; omega)⟩⟩)⟩ (by exact Nat.le_refl _) (by exact Nat.le_refl _) dX7_isWord_66
          · have ic_10 := gz_nle (rfl : r_9.toInt = r_9.toInt) (rfl : y8_0.toInt = y8_0.toInt) c_10
            have lc_10 := gi_hi r_9
            refine lv_aload_n hx hb dX7_isWord_36 rfl (lv_at hl 1 rfl) ?_
            refine gs_get (C := RX7) (T := TX7) (N := 6) hx hb hts inX7 hown hK hM 3 0 0 (by decide) rfl rfl (by decide) (hts _ gm_53) (fun _ h9 => h9) rfl dX7_isWord_37 ?_
            refine lv_aload_n hx hb dX7_isWord_40 rfl (lv_at hl 1 rfl) ?_
            refine gs_get (C := RX7) (T := TX7) (N := 6) hx hb hts inX7 hown hK hM 3 0 2 (by decide) rfl rfl (by decide) (hts _ gm_55) (fun _ h9 => h9) rfl dX7_isWord_41 ?_
            have bf_11 : (0 : Int) ≤ (st 3 0 2).toInt ∧ (st 3 0 2).toInt ≤ (800 : Int) := hB_st.1 3 0 2
            refine lv_iload_n hx hb dX7_isWord_44 rfl (lv_at hl 0 rfl) ?_
            refine lv_iadd hx hb dX7_isWord_45 ?_
            refine lv_topi (fun x_12 ex_12 => ?_)
            try have tx_12 : x_12.toInt = (st 3 0 2).toInt + y8_0.toInt := by rw [ex_12]; exact gz_addI (x := (st 3 0 2).toInt) (y := y8_0.toInt) rfl rfl (by omega) (by omega)
            refine gs_calli (va_runV (As := [.int x_12]) (rest := []) ⟨hx, hb, hml, hown, hts⟩ (s_X8_byteAt l G cy sK sV ad H.size st hB_st.1 x_12 x_12.toInt rfl F N hF hN) ⟨(gz_cb (n := 1) hts gm_371 gm_2 gm_374 ⟨by decide +kernel, by decide +kernel, by decide +kernel⟩ ⟨Nat.le_of_ble_eq_true rfl, Nat.le_of_ble_eq_true rfl⟩), hts _ gm_372, hts _ gm_373⟩ (gs_preV hK hov hE hI hM hm hS hA 1 0 (by decide) rfl rfl) rfl rfl hl.1 rfl (lv_room (Nat.le_of_ble_eq_true rfl)) dX7_isWord_46 ⟨Nat.le_of_ble_eq_true rfl, Nat.le_of_ble_eq_true rfl⟩) hm hS hA (fun r_13 st_13 H locs hw_13 hM hS => ?_)
            obtain ⟨n_13, hw_13⟩ := hw_13
            have n_13 := gBN.nil n_13
            subst n_13
            have hbhw_130 : (0 : Int) ≤ (st 1 0 1).toInt ∧ (st 1 0 1).toInt ≤ (800 : Int) := hB_st.1 1 0 1
            obtain ⟨hw_13_0, hw_13_1, hw_13_2, hw_13_3⟩ := hw_13
            refine lv_aload_n hx hb dX7_isWord_49 rfl (lv_at hl 2 rfl) ?_
            refine lv_iload_n hx hb dX7_isWord_50 rfl (lv_at hl 0 rfl) ?_
            refine gs_calli (va_runV (As := [.int y8_0]) (rest := [.int r_13]) ⟨hx, hb, hml, hown, hts⟩ (s_charAt l G cy sK sV ad H.size st hB_st.1 i y8_0 hi_i (by first | decide | omega) (by first | decide | omega)) ⟨(gz_cb (n := 1) hts gm_410 gm_13 gm_413 ⟨by decide +kernel, by decide +kernel, by decide +kernel⟩ ⟨Nat.le_of_ble_eq_true rfl, Nat.le_of_ble_eq_true rfl⟩), hts _ gm_411, hts _ gm_412⟩ (gs_preK hK hov hE hI hM hm hS hA i hi_i) rfl rfl hl.1 rfl (lv_room (Nat.le_of_ble_eq_true rfl)) dX7_isWord_51 ⟨Nat.le_of_ble_eq_true rfl, Nat.le_of_ble_eq_true rfl⟩) hm hS hA (fun r_14 st_14 H locs hw_14 hM hS => ?_)
            obtain ⟨n_14, hw_14⟩ := hw_14
            have n_14 := gBN.nil n_14
            subst n_14
            have hw_14_0 := hw_14
            refine lv_icmp_eq (tgt := 59) hx hb dX7_isWord_54 (by decide) (fun c_15 => ?_) (fun c_15 => ?_)
            · have ic_15 := gz_eq (rfl : r_13.toInt = r_13.toInt) (rfl : r_14.toInt = r_14.toInt) c_15
              obtain ⟨x_16, ex_16⟩ : ∃ y : Int32, y = y8_0 + 1 := ⟨_, rfl⟩
              try have tx_16 : x_16.toInt = y8_0.toInt + 1 := by rw [ex_16]; exact gz_addP (x := y8_0.toInt) (y := 1) rfl (by decide) (by omega) (by omega)
              refine lv_iinc (v := (x_16)) (lv' := [(2, .int x_16), (0, .ref (ad 3 0)), (1, .ref (sK i))]) hx hb dX7_isWord_59 hl (k := 0) rfl (by rw [ex_16]; rfl) (by decide) rfl (fun ls hl => ?_)
              refine lv_goto (tgt := 28) hx hb dX7_isWord_62 (by decide) ?_
              exact ih_8  (x_16 : Int32) H _ ls (by omega)  (by omega) (by omega) (fun k9 h9 => by by_cases h8 : (k9 : Int) < y8_0.toInt; exact hv8_2 k9 h8; have h6 := gs_cl (x := y8_0) (by omega); have h7 : k9 = y8_0.toNatClampNeg := (by omega); rw [h7, show (st 3 0 2).toInt + (y8_0.toNatClampNeg : Int) = x_12.toInt by omega, wI_get]; omega) hM hS (lv_sub hl [0, 1, 2] rfl)
            · have ic_15 := gz_ne (rfl : r_13.toInt = r_13.toInt) (rfl : r_14.toInt = r_14.toInt) c_15
              refine lv_iconst (v := 0) hx hb dX7_isWord_57 (by decide) ?_
              rw [← hQe]
              exact gs_iret hx hb hr hlocks hM hS (by decide) ⟨hB_st, (Or.inr ⟨rfl, fun h9 => by have h6 := gs_cl (x := y8_0) (by omega); have h8 := h9.2.2 y8_0.toNatClampNeg (by rw [wI_lenN i hi_i]; omega); rw [show (st 3 0 2).toInt + (y8_0.toNatClampNeg : Int) = x_12.toInt by omega, wI_get] at h8; omega⟩)⟩ (by exact Nat.le_refl _) (by exact Nat.le_refl _) dX7_isWord_58
      exact lp8 ((((sxL.getD i 0 : Nat) : Int) - ((0 : Int32) : Int32).toInt).toNat + 1)  ((0 : Int32) : Int32) H _ ls (Nat.lt_succ_self _)  (by have hl0 : (0 : Int32).toInt = 0 := (by decide); omega) (by have hl0 : (0 : Int32).toInt = 0 := (by decide); omega) (fun k9 h9 => by have h8 : (0 : Int32).toInt = 0 := (by decide); omega) hM hS (lv_sub hl [0, 1, 2] rfl)
    · have ic_7 := gz_ne (rfl : x_5.toInt = x_5.toInt) (rfl : r_6.toInt = r_6.toInt) c_7
      refine lv_iconst (v := 0) hx hb dX7_isWord_24 (by decide) ?_
      rw [← hQe]
      exact gs_iret hx hb hr hlocks hM hS (by decide) ⟨hB_st, (Or.inr ⟨rfl, fun h9 => by first | exact absurd h9.1 (by omega) | (have h8 := h9.2.1; rw [wI_len i hi_i] at h8; omega)⟩)⟩ (by exact Nat.le_refl _) (by exact Nat.le_refl _) dX7_isWord_25

set_option maxHeartbeats 4000000 in
set_option maxRecDepth 100000 in
/-- WellCourt$Reader.isRuleWord -/
theorem s_X7_isRuleWord (l : Launch) (G : va_G) (cy : Nat → ClassId) (sK sV : Nat → Nat) (ad : Nat → Nat → Nat) (sz : Nat) (st : gS) (hB : gBd bX st) (F : Nat → Int32) (N : Int) (hF : st 2 0 = F) (hN : (st 1 0 1).toInt = N) : gsMi l yX7_isRuleWord cX7_isRuleWord 1 (some .boolean) ({ frames := 5, cells := 0, slots := 0, locals := 107 } : Room) G cy sK sV (shX cy ad) cnX ad sz [.ref (ad 3 0)] st (fun (r : Int32) (u : gS) => gBN bX kX [] st u ∧ ((r = 1 ∧ ((st 3 0 1).toInt = 2 ∧ (isW F N (st 3 0 2).toInt (st 3 0 3).toInt (wI 0) ∨ isW F N (st 3 0 2).toInt (st 3 0 3).toInt (wI 1) ∨ isW F N (st 3 0 2).toInt (st 3 0 3).toInt (wI 2) ∨ isW F N (st 3 0 2).toInt (st 3 0 3).toInt (wI 3) ∨ isW F N (st 3 0 2).toInt (st 3 0 3).toInt (wI 4)))) ∨ (r = 0 ∧ (¬ ((st 3 0 1).toInt = 2 ∧ (isW F N (st 3 0 2).toInt (st 3 0 3).toInt (wI 0) ∨ isW F N (st 3 0 2).toInt (st 3 0 3).toInt (wI 1) ∨ isW F N (st 3 0 2).toInt (st 3 0 3).toInt (wI 2) ∨ isW F N (st 3 0 2).toInt (st 3 0 3).toInt (wI 3) ∨ isW F N (st 3 0 2).toInt (st 3 0 3).toInt (wI 4))))))) := by
  refine gs_start (fun A => gsQi G (shX cy ad) cnX ad _ A) (by decide) (Nat.le_of_ble_eq_true rfl) ?_
  intro p e s m below meth c A ls H hx hb hr hml hlocks hown hts hK hov hE hI hM hm hS hA hl
  have hl : lv_has ls 1 [(0, .ref (ad 3 0))] := hl
  have hB_st : gBN bX kX [] st st := gBN.rf hB
  refine lv_aload_n hx hb dX7_isRuleWord_0 rfl (lv_at hl 0 rfl) ?_
  refine va_ldcS (q := sK 0) hx hb hown (hE.2.2.1 0 (by decide)) dX7_isRuleWord_1 ?_
  refine gs_calli (va_runV (As := [.ref (sK 0)]) (rest := []) ⟨hx, hb, hml, hown, hts⟩ (s_X7_isWord l G cy sK sV ad H.size st hB_st.1 0 (by decide) F N hF hN) ⟨(gz_cb (n := 1) hts gm_396 gm_3 gm_399 ⟨by decide +kernel, by decide +kernel, by decide +kernel⟩ ⟨Nat.le_of_ble_eq_true rfl, Nat.le_of_ble_eq_true rfl⟩), hts _ gm_398, hts _ gs_3⟩ (gs_preV hK hov hE hI hM hm hS hA 3 0 (by decide) rfl rfl) rfl rfl hl.1 rfl (lv_room (Nat.le_of_ble_eq_true rfl)) dX7_isRuleWord_3 ⟨Nat.le_of_ble_eq_true rfl, Nat.le_of_ble_eq_true rfl⟩) hm hS hA (fun r_1 st_1 H locs hw_1 hM hS => ?_)
  obtain ⟨n_1, hw_1⟩ := hw_1
  have n_1 := gBN.nil n_1
  subst n_1
  have hbhw_10 : (0 : Int) ≤ (st 3 0 2).toInt ∧ (st 3 0 2).toInt ≤ (800 : Int) := hB_st.1 3 0 2
  have hbhw_11 : (0 : Int) ≤ (st 3 0 3).toInt ∧ (st 3 0 3).toInt ≤ (801 : Int) := hB_st.1 3 0 3
  rcases hw_1 with ⟨rfl, hw_1_0⟩ | ⟨rfl, hw_1_0⟩
  · skip
    refine lv_if_ne (tgt := 45) hx hb dX7_isRuleWord_6 (by decide) (fun _ => ?_) (fun h9 => absurd h9 (by decide))
    refine lv_iconst (v := 1) hx hb dX7_isRuleWord_45 (by decide) ?_
    refine lv_goto (tgt := 50) hx hb dX7_isRuleWord_46 (by decide) ?_
    exact gs_iret hx hb hr hlocks hM hS (by decide) ⟨hB_st, (Or.inl ⟨rfl, hw_1_0.1, (Or.inl hw_1_0.2)⟩)⟩ (by exact Nat.le_refl _) (by exact Nat.le_refl _) dX7_isRuleWord_50
  · skip
    refine lv_if_ne (tgt := 45) hx hb dX7_isRuleWord_6 (by decide) (fun h9 => absurd (by decide) h9) (fun _ => ?_)
    refine lv_aload_n hx hb dX7_isRuleWord_9 rfl (lv_at hl 0 rfl) ?_
    refine va_ldcS (q := sK 1) hx hb hown (hE.2.2.1 1 (by decide)) dX7_isRuleWord_10 ?_
    refine gs_calli (va_runV (As := [.ref (sK 1)]) (rest := []) ⟨hx, hb, hml, hown, hts⟩ (s_X7_isWord l G cy sK sV ad H.size st hB_st.1 1 (by decide) F N hF hN) ⟨(gz_cb (n := 1) hts gm_396 gm_3 gm_399 ⟨by decide +kernel, by decide +kernel, by decide +kernel⟩ ⟨Nat.le_of_ble_eq_true rfl, Nat.le_of_ble_eq_true rfl⟩), hts _ gm_398, hts _ gs_3⟩ (gs_preV hK hov hE hI hM hm hS hA 3 0 (by decide) rfl rfl) rfl rfl hl.1 rfl (lv_room (Nat.le_of_ble_eq_true rfl)) dX7_isRuleWord_12 ⟨Nat.le_of_ble_eq_true rfl, Nat.le_of_ble_eq_true rfl⟩) hm hS hA (fun r_2 st_2 H locs hw_2 hM hS => ?_)
    obtain ⟨n_2, hw_2⟩ := hw_2
    have n_2 := gBN.nil n_2
    subst n_2
    rcases hw_2 with ⟨rfl, hw_2_0⟩ | ⟨rfl, hw_2_0⟩
    · skip
      refine lv_if_ne (tgt := 45) hx hb dX7_isRuleWord_15 (by decide) (fun _ => ?_) (fun h9 => absurd h9 (by decide))
      refine lv_iconst (v := 1) hx hb dX7_isRuleWord_45 (by decide) ?_
      refine lv_goto (tgt := 50) hx hb dX7_isRuleWord_46 (by decide) ?_
      exact gs_iret hx hb hr hlocks hM hS (by decide) ⟨hB_st, (Or.inl ⟨rfl, hw_2_0.1, (Or.inr (Or.inl hw_2_0.2))⟩)⟩ (by exact Nat.le_refl _) (by exact Nat.le_refl _) dX7_isRuleWord_50
    · skip
      refine lv_if_ne (tgt := 45) hx hb dX7_isRuleWord_15 (by decide) (fun h9 => absurd (by decide) h9) (fun _ => ?_)
      refine lv_aload_n hx hb dX7_isRuleWord_18 rfl (lv_at hl 0 rfl) ?_
      refine va_ldcS (q := sK 2) hx hb hown (hE.2.2.1 2 (by decide)) dX7_isRuleWord_19 ?_
      refine gs_calli (va_runV (As := [.ref (sK 2)]) (rest := []) ⟨hx, hb, hml, hown, hts⟩ (s_X7_isWord l G cy sK sV ad H.size st hB_st.1 2 (by decide) F N hF hN) ⟨(gz_cb (n := 1) hts gm_396 gm_3 gm_399 ⟨by decide +kernel, by decide +kernel, by decide +kernel⟩ ⟨Nat.le_of_ble_eq_true rfl, Nat.le_of_ble_eq_true rfl⟩), hts _ gm_398, hts _ gs_3⟩ (gs_preV hK hov hE hI hM hm hS hA 3 0 (by decide) rfl rfl) rfl rfl hl.1 rfl (lv_room (Nat.le_of_ble_eq_true rfl)) dX7_isRuleWord_21 ⟨Nat.le_of_ble_eq_true rfl, Nat.le_of_ble_eq_true rfl⟩) hm hS hA (fun r_3 st_3 H locs hw_3 hM hS => ?_)
      obtain ⟨n_3, hw_3⟩ := hw_3
      have n_3 := gBN.nil n_3
      subst n_3
      rcases hw_3 with ⟨rfl, hw_3_0⟩ | ⟨rfl, hw_3_0⟩
      · skip
        refine lv_if_ne (tgt := 45) hx hb dX7_isRuleWord_24 (by decide) (fun _ => ?_) (fun h9 => absurd h9 (by decide))
        refine lv_iconst (v := 1) hx hb dX7_isRuleWord_45 (by decide) ?_
        refine lv_goto (tgt := 50) hx hb dX7_isRuleWord_46 (by decide) ?_
        exact gs_iret hx hb hr hlocks hM hS (by decide) ⟨hB_st, (Or.inl ⟨rfl, hw_3_0.1, (Or.inr (Or.inr (Or.inl hw_3_0.2)))⟩)⟩ (by exact Nat.le_refl _) (by exact Nat.le_refl _) dX7_isRuleWord_50
      · skip
        refine lv_if_ne (tgt := 45) hx hb dX7_isRuleWord_24 (by decide) (fun h9 => absurd (by decide) h9) (fun _ => ?_)
        refine lv_aload_n hx hb dX7_isRuleWord_27 rfl (lv_at hl 0 rfl) ?_
        refine va_ldcS (q := sK 3) hx hb hown (hE.2.2.1 3 (by decide)) dX7_isRuleWord_28 ?_
        refine gs_calli (va_runV (As := [.ref (sK 3)]) (rest := []) ⟨hx, hb, hml, hown, hts⟩ (s_X7_isWord l G cy sK sV ad H.size st hB_st.1 3 (by decide) F N hF hN) ⟨(gz_cb (n := 1) hts gm_396 gm_3 gm_399 ⟨by decide +kernel, by decide +kernel, by decide +kernel⟩ ⟨Nat.le_of_ble_eq_true rfl, Nat.le_of_ble_eq_true rfl⟩), hts _ gm_398, hts _ gs_3⟩ (gs_preV hK hov hE hI hM hm hS hA 3 0 (by decide) rfl rfl) rfl rfl hl.1 rfl (lv_room (Nat.le_of_ble_eq_true rfl)) dX7_isRuleWord_30 ⟨Nat.le_of_ble_eq_true rfl, Nat.le_of_ble_eq_true rfl⟩) hm hS hA (fun r_4 st_4 H locs hw_4 hM hS => ?_)
        obtain ⟨n_4, hw_4⟩ := hw_4
        have n_4 := gBN.nil n_4
        subst n_4
        rcases hw_4 with ⟨rfl, hw_4_0⟩ | ⟨rfl, hw_4_0⟩
        · skip
          refine lv_if_ne (tgt := 45) hx hb dX7_isRuleWord_33 (by decide) (fun _ => ?_) (fun h9 => absurd h9 (by decide))
          refine lv_iconst (v := 1) hx hb dX7_isRuleWord_45 (by decide) ?_
          refine lv_goto (tgt := 50) hx hb dX7_isRuleWord_46 (by decide) ?_
          exact gs_iret hx hb hr hlocks hM hS (by decide) ⟨hB_st, (Or.inl ⟨rfl, hw_4_0.1, (Or.inr (Or.inr (Or.inr (Or.inl hw_4_0.2))))⟩)⟩ (by exact Nat.le_refl _) (by exact Nat.le_refl _) dX7_isRuleWord_50
        · skip
          refine lv_if_ne (tgt := 45) hx hb dX7_isRuleWord_33 (by decide) (fun h9 => absurd (by decide) h9) (fun _ => ?_)
          refine lv_aload_n hx hb dX7_isRuleWord_36 rfl (lv_at hl 0 rfl) ?_
          refine va_ldcS (q := sK 4) hx hb hown (hE.2.2.1 4 (by decide)) dX7_isRuleWord_37 ?_
          refine gs_calli (va_runV (As := [.ref (sK 4)]) (rest := []) ⟨hx, hb, hml, hown, hts⟩ (s_X7_isWord l G cy sK sV ad H.size st hB_st.1 4 (by decide) F N hF hN) ⟨(gz_cb (n := 1) hts gm_396 gm_3 gm_399 ⟨by decide +kernel, by decide +kernel, by decide +kernel⟩ ⟨Nat.le_of_ble_eq_true rfl, Nat.le_of_ble_eq_true rfl⟩), hts _ gm_398, hts _ gs_3⟩ (gs_preV hK hov hE hI hM hm hS hA 3 0 (by decide) rfl rfl) rfl rfl hl.1 rfl (lv_room (Nat.le_of_ble_eq_true rfl)) dX7_isRuleWord_39 ⟨Nat.le_of_ble_eq_true rfl, Nat.le_of_ble_eq_true rfl⟩) hm hS hA (fun r_5 st_5 H locs hw_5 hM hS => ?_)
          obtain ⟨n_5, hw_5⟩ := hw_5
          have n_5 := gBN.nil n_5
          subst n_5
          rcases hw_5 with ⟨rfl, hw_5_0⟩ | ⟨rfl, hw_5_0⟩
          · skip
            refine lv_if_eq (tgt := 49) hx hb dX7_isRuleWord_42 (by decide) (fun h9 => absurd h9 (by decide)) (fun _ => ?_)
            refine lv_iconst (v := 1) hx hb dX7_isRuleWord_45 (by decide) ?_
            refine lv_goto (tgt := 50) hx hb dX7_isRuleWord_46 (by decide) ?_
            exact gs_iret hx hb hr hlocks hM hS (by decide) ⟨hB_st, (Or.inl ⟨rfl, hw_5_0.1, (Or.inr (Or.inr (Or.inr (Or.inr hw_5_0.2))))⟩)⟩ (by exact Nat.le_refl _) (by exact Nat.le_refl _) dX7_isRuleWord_50
          · skip
            refine lv_if_eq (tgt := 49) hx hb dX7_isRuleWord_42 (by decide) (fun _ => ?_) (fun h9 => absurd (by decide) h9)
            refine lv_iconst (v := 0) hx hb dX7_isRuleWord_49 (by decide) ?_
            exact gs_iret hx hb hr hlocks hM hS (by decide) ⟨hB_st, (Or.inr ⟨rfl, fun h9 => h9.2.elim (fun h8 => hw_1_0 ⟨h9.1, h8⟩) (fun h8 => h8.elim (fun h8 => hw_2_0 ⟨h9.1, h8⟩) (fun h8 => h8.elim (fun h8 => hw_3_0 ⟨h9.1, h8⟩) (fun h8 => h8.elim (fun h8 => hw_4_0 ⟨h9.1, h8⟩) (fun h8 => hw_5_0 ⟨h9.1, h8⟩))))⟩)⟩ (by exact Nat.le_refl _) (by exact Nat.le_refl _) dX7_isRuleWord_50

set_option maxHeartbeats 4000000 in
set_option maxRecDepth 100000 in
/-- WellCourt$Reader.readSign -/
theorem s_X7_readSign (l : Launch) (G : va_G) (cy : Nat → ClassId) (sK sV : Nat → Nat) (ad : Nat → Nat → Nat) (sz : Nat) (st : gS) (hB : gBd bX st) (x : Int32) (Xx : Int) (kx : x.toInt = Xx) (F : Nat → Int32) (N : Int) (hF : st 2 0 = F) (hN : (st 1 0 1).toInt = N) (hst : (st 3 0 3).toInt ≤ 800) : gsMi l yX7_readSign cX7_readSign 2 (some .boolean) ({ frames := 3, cells := 0, slots := 0, locals := 65 } : Room) G cy sK sV (shX cy ad) cnX ad sz [.ref (ad 3 0), .int x] st (fun (r : Int32) (u : gS) => gBN bX kX [301, 302, 303, 304, 305] st u ∧ ((r = 1 ∧ (gSign F N (cLex F N) Xx (st 3 0 3).toInt = some (u 3 0 3).toInt) ∧ ((u 3 0 3).toInt ≤ 800)) ∨ (r = 0 ∧ (gSign F N (cLex F N) Xx (st 3 0 3).toInt = none)))) := by
  refine gs_start (fun A => gsQi G (shX cy ad) cnX ad _ A) (by decide) (Nat.le_of_ble_eq_true rfl) ?_
  intro p e s m below meth c A ls H hx hb hr hml hlocks hown hts hK hov hE hI hM hm hS hA hl
  have hl : lv_has ls 2 [(0, .ref (ad 3 0)), (1, .int x)] := hl
  have hB_st : gBN bX kX [301, 302, 303, 304, 305] st st := gBN.rf hB
  refine lv_aload_n hx hb dX7_readSign_0 rfl (lv_at hl 0 rfl) ?_
  refine gs_callv (va_runV (As := []) (rest := []) ⟨hx, hb, hml, hown, hts⟩ (s_X7_advance l G cy sK sV ad H.size st hB_st.1  F N hF hN (by have hb0 : (0 : Int) ≤ (st 3 0 3).toInt ∧ (st 3 0 3).toInt ≤ (801 : Int) := hB_st.1 3 0 3; omega)) ⟨(gz_cb (n := 0) hts gm_367 gm_3 gm_370 ⟨by decide +kernel, by decide +kernel, by decide +kernel⟩ ⟨Nat.le_of_ble_eq_true rfl, Nat.le_of_ble_eq_true rfl⟩), hts _ gm_369, hts _ gs_0⟩ (gs_preV hK hov hE hI hM hm hS hA 3 0 (by decide) rfl rfl) rfl rfl hl.1 rfl (lv_room (Nat.le_of_ble_eq_true rfl)) dX7_readSign_1 ⟨Nat.le_of_ble_eq_true rfl, Nat.le_of_ble_eq_true rfl⟩) hm hS hA (fun st_1 H locs hw_1 hM hS => ?_)
  obtain ⟨n_1, hw_1⟩ := hw_1
  have hB_st_1 : gBN bX kX [301, 302, 303, 304, 305] st st_1 := hB_st.call n_1 (by decide)
  have hbhw_10 : (0 : Int) ≤ (st 3 0 3).toInt ∧ (st 3 0 3).toInt ≤ (801 : Int) := hB_st.1 3 0 3
  obtain ⟨hw_1_0, hw_1_1⟩ := hw_1
  refine lv_aload_n hx hb dX7_readSign_4 rfl (lv_at hl 0 rfl) ?_
  refine lv_iload_n hx hb dX7_readSign_5 rfl (lv_at hl 1 rfl) ?_
  refine gs_calli (va_runV (As := [.int x]) (rest := []) ⟨hx, hb, hml, hown, hts⟩ (s_X7_isSign l G cy sK sV ad H.size st_1 hB_st_1.1 x x.toInt rfl F N (((funext (fun j9 => n_1.2 2 0 j9 (show (200 : Nat) ∉ _ from by decide))).trans rfl).trans hF) ((congrArg Int32.toInt ((n_1.2 1 0 1 (show (101 : Nat) ∉ _ from by decide)))).trans hN)) ⟨(gz_cb (n := 1) hts gm_477 gm_3 gm_480 ⟨by decide +kernel, by decide +kernel, by decide +kernel⟩ ⟨Nat.le_of_ble_eq_true rfl, Nat.le_of_ble_eq_true rfl⟩), hts _ gm_479, hts _ gs_9⟩ (gs_preV hK hov hE hI hM hm hS hA 3 0 (by decide) rfl rfl) rfl rfl hl.1 rfl (lv_room (Nat.le_of_ble_eq_true rfl)) dX7_readSign_6 ⟨Nat.le_of_ble_eq_true rfl, Nat.le_of_ble_eq_true rfl⟩) hm hS hA (fun r_2 st_2 H locs hw_2 hM hS => ?_)
  obtain ⟨n_2, hw_2⟩ := hw_2
  have n_2 := gBN.nil n_2
  subst n_2
  have hbhw_20 : (0 : Int) ≤ (st_1 3 0 2).toInt ∧ (st_1 3 0 2).toInt ≤ (800 : Int) := hB_st_1.1 3 0 2
  rcases hw_2 with ⟨rfl, hw_2_0⟩ | ⟨rfl, hw_2_0⟩
  · skip
    refine lv_if_ne (tgt := 19) hx hb dX7_readSign_9 (by decide) (fun _ => ?_) (fun h9 => absurd h9 (by decide))
    refine lv_iconst (v := 1) hx hb dX7_readSign_19 (by decide) ?_
    refine lv_goto (tgt := 24) hx hb dX7_readSign_20 (by decide) ?_
    exact gs_iret hx hb hr hlocks hM hS (by decide) ⟨hB_st_1, (Or.inl ⟨rfl, gSign_yes hw_1_0 (by omega) (by omega), (by have hb0 : (0 : Int) ≤ (st_1 3 0 3).toInt ∧ (st_1 3 0 3).toInt ≤ (801 : Int) := hB_st_1.1 3 0 3; omega)⟩)⟩ (by exact Nat.le_refl _) (by exact Nat.le_refl _) dX7_readSign_24
  · skip
    refine lv_if_ne (tgt := 19) hx hb dX7_readSign_9 (by decide) (fun h9 => absurd (by decide) h9) (fun _ => ?_)
    refine lv_aload_n hx hb dX7_readSign_12 rfl (lv_at hl 0 rfl) ?_
    refine gs_calli (va_runV (As := []) (rest := []) ⟨hx, hb, hml, hown, hts⟩ (s_X7_cannotCome l G cy sK sV ad H.size st_1 hB_st_1.1  ) ⟨(gz_cb (n := 0) hts gm_452 gm_3 gm_455 ⟨by decide +kernel, by decide +kernel, by decide +kernel⟩ ⟨Nat.le_of_ble_eq_true rfl, Nat.le_of_ble_eq_true rfl⟩), hts _ gm_454, hts _ gs_4⟩ (gs_preV hK hov hE hI hM hm hS hA 3 0 (by decide) rfl rfl) rfl rfl hl.1 rfl (lv_room (Nat.le_of_ble_eq_true rfl)) dX7_readSign_13 ⟨Nat.le_of_ble_eq_true rfl, Nat.le_of_ble_eq_true rfl⟩) hm hS hA (fun r_3 st_3 H locs hw_3 hM hS => ?_)
    obtain ⟨n_3, hw_3⟩ := hw_3
    have hB_st_3 : gBN bX kX [301, 302, 303, 304, 305] st st_3 := hB_st_1.call n_3 (by decide)
    obtain rfl := hw_3
    refine lv_if_eq (tgt := 23) hx hb dX7_readSign_16 (by decide) (fun _ => ?_) (fun h9 => absurd (by decide) h9)
    refine lv_iconst (v := 0) hx hb dX7_readSign_23 (by decide) ?_
    exact gs_iret hx hb hr hlocks hM hS (by decide) ⟨hB_st_3, (Or.inr ⟨rfl, gSign_no hw_1_0 (by omega)⟩)⟩ (by exact Nat.le_refl _) (by exact Nat.le_refl _) dX7_readSign_24

set_option maxHeartbeats 4000000 in
set_option maxRecDepth 100000 in
/-- WellCourt$Reader.readWord -/
theorem s_X7_readWord (l : Launch) (G : va_G) (cy : Nat → ClassId) (sK sV : Nat → Nat) (ad : Nat → Nat → Nat) (sz : Nat) (st : gS) (hB : gBd bX st) (i : Nat) (hi_i : i < 9) (F : Nat → Int32) (N : Int) (hF : st 2 0 = F) (hN : (st 1 0 1).toInt = N) (hst : (st 3 0 3).toInt ≤ 800) : gsMi l yX7_readWord cX7_readWord 2 (some .boolean) ({ frames := 5, cells := 0, slots := 0, locals := 107 } : Room) G cy sK sV (shX cy ad) cnX ad sz [.ref (ad 3 0), .ref (sK i)] st (fun (r : Int32) (u : gS) => gBN bX kX [301, 302, 303, 304, 305] st u ∧ ((r = 1 ∧ (gWord F N (cLex F N) (wI i) (st 3 0 3).toInt = some (u 3 0 3).toInt) ∧ ((u 3 0 3).toInt ≤ 800)) ∨ (r = 0 ∧ (gWord F N (cLex F N) (wI i) (st 3 0 3).toInt = none)))) := by
  refine gs_start (fun A => gsQi G (shX cy ad) cnX ad _ A) (by decide) (Nat.le_of_ble_eq_true rfl) ?_
  intro p e s m below meth c A ls H hx hb hr hml hlocks hown hts hK hov hE hI hM hm hS hA hl
  have hl : lv_has ls 2 [(0, .ref (ad 3 0)), (1, .ref (sK i))] := hl
  have hB_st : gBN bX kX [301, 302, 303, 304, 305] st st := gBN.rf hB
  refine lv_aload_n hx hb dX7_readWord_0 rfl (lv_at hl 0 rfl) ?_
  refine gs_callv (va_runV (As := []) (rest := []) ⟨hx, hb, hml, hown, hts⟩ (s_X7_advance l G cy sK sV ad H.size st hB_st.1  F N hF hN (by have hb0 : (0 : Int) ≤ (st 3 0 3).toInt ∧ (st 3 0 3).toInt ≤ (801 : Int) := hB_st.1 3 0 3; omega)) ⟨(gz_cb (n := 0) hts gm_367 gm_3 gm_370 ⟨by decide +kernel, by decide +kernel, by decide +kernel⟩ ⟨Nat.le_of_ble_eq_true rfl, Nat.le_of_ble_eq_true rfl⟩), hts _ gm_369, hts _ gs_0⟩ (gs_preV hK hov hE hI hM hm hS hA 3 0 (by decide) rfl rfl) rfl rfl hl.1 rfl (lv_room (Nat.le_of_ble_eq_true rfl)) dX7_readWord_1 ⟨Nat.le_of_ble_eq_true rfl, Nat.le_of_ble_eq_true rfl⟩) hm hS hA (fun st_1 H locs hw_1 hM hS => ?_)
  obtain ⟨n_1, hw_1⟩ := hw_1
  have hB_st_1 : gBN bX kX [301, 302, 303, 304, 305] st st_1 := hB_st.call n_1 (by decide)
  have hbhw_10 : (0 : Int) ≤ (st 3 0 3).toInt ∧ (st 3 0 3).toInt ≤ (801 : Int) := hB_st.1 3 0 3
  obtain ⟨hw_1_0, hw_1_1⟩ := hw_1
  refine lv_aload_n hx hb dX7_readWord_4 rfl (lv_at hl 0 rfl) ?_
  refine lv_aload_n hx hb dX7_readWord_5 rfl (lv_at hl 1 rfl) ?_
  refine gs_calli (va_runV (As := [.ref (sK i)]) (rest := []) ⟨hx, hb, hml, hown, hts⟩ (s_X7_isWord l G cy sK sV ad H.size st_1 hB_st_1.1 i hi_i F N (((funext (fun j9 => n_1.2 2 0 j9 (show (200 : Nat) ∉ _ from by decide))).trans rfl).trans hF) ((congrArg Int32.toInt ((n_1.2 1 0 1 (show (101 : Nat) ∉ _ from by decide)))).trans hN)) ⟨(gz_cb (n := 1) hts gm_396 gm_3 gm_399 ⟨by decide +kernel, by decide +kernel, by decide +kernel⟩ ⟨Nat.le_of_ble_eq_true rfl, Nat.le_of_ble_eq_true rfl⟩), hts _ gm_398, hts _ gs_3⟩ (gs_preV hK hov hE hI hM hm hS hA 3 0 (by decide) rfl rfl) rfl rfl hl.1 rfl (lv_room (Nat.le_of_ble_eq_true rfl)) dX7_readWord_6 ⟨Nat.le_of_ble_eq_true rfl, Nat.le_of_ble_eq_true rfl⟩) hm hS hA (fun r_2 st_2 H locs hw_2 hM hS => ?_)
  obtain ⟨n_2, hw_2⟩ := hw_2
  have n_2 := gBN.nil n_2
  subst n_2
  have hbhw_20 : (0 : Int) ≤ (st_1 3 0 2).toInt ∧ (st_1 3 0 2).toInt ≤ (800 : Int) := hB_st_1.1 3 0 2
  have hbhw_21 : (0 : Int) ≤ (st_1 3 0 3).toInt ∧ (st_1 3 0 3).toInt ≤ (801 : Int) := hB_st_1.1 3 0 3
  rcases hw_2 with ⟨rfl, hw_2_0⟩ | ⟨rfl, hw_2_0⟩
  · skip
    refine lv_if_ne (tgt := 19) hx hb dX7_readWord_9 (by decide) (fun _ => ?_) (fun h9 => absurd h9 (by decide))
    refine lv_iconst (v := 1) hx hb dX7_readWord_19 (by decide) ?_
    refine lv_goto (tgt := 24) hx hb dX7_readWord_20 (by decide) ?_
    exact gs_iret hx hb hr hlocks hM hS (by decide) ⟨hB_st_1, (Or.inl ⟨rfl, gWord_yes hw_1_0 hw_2_0.1 hw_2_0.2, (by have hb0 : (0 : Int) ≤ (st_1 3 0 3).toInt ∧ (st_1 3 0 3).toInt ≤ (801 : Int) := hB_st_1.1 3 0 3; omega)⟩)⟩ (by exact Nat.le_refl _) (by exact Nat.le_refl _) dX7_readWord_24
  · skip
    refine lv_if_ne (tgt := 19) hx hb dX7_readWord_9 (by decide) (fun h9 => absurd (by decide) h9) (fun _ => ?_)
    refine lv_aload_n hx hb dX7_readWord_12 rfl (lv_at hl 0 rfl) ?_
    refine gs_calli (va_runV (As := []) (rest := []) ⟨hx, hb, hml, hown, hts⟩ (s_X7_cannotCome l G cy sK sV ad H.size st_1 hB_st_1.1  ) ⟨(gz_cb (n := 0) hts gm_452 gm_3 gm_455 ⟨by decide +kernel, by decide +kernel, by decide +kernel⟩ ⟨Nat.le_of_ble_eq_true rfl, Nat.le_of_ble_eq_true rfl⟩), hts _ gm_454, hts _ gs_4⟩ (gs_preV hK hov hE hI hM hm hS hA 3 0 (by decide) rfl rfl) rfl rfl hl.1 rfl (lv_room (Nat.le_of_ble_eq_true rfl)) dX7_readWord_13 ⟨Nat.le_of_ble_eq_true rfl, Nat.le_of_ble_eq_true rfl⟩) hm hS hA (fun r_3 st_3 H locs hw_3 hM hS => ?_)
    obtain ⟨n_3, hw_3⟩ := hw_3
    have hB_st_3 : gBN bX kX [301, 302, 303, 304, 305] st st_3 := hB_st_1.call n_3 (by decide)
    obtain rfl := hw_3
    refine lv_if_eq (tgt := 23) hx hb dX7_readWord_16 (by decide) (fun _ => ?_) (fun h9 => absurd (by decide) h9)
    refine lv_iconst (v := 0) hx hb dX7_readWord_23 (by decide) ?_
    exact gs_iret hx hb hr hlocks hM hS (by decide) ⟨hB_st_3, (Or.inr ⟨rfl, gWord_no hw_1_0 hw_2_0⟩)⟩ (by exact Nat.le_refl _) (by exact Nat.le_refl _) dX7_readWord_24

set_option maxHeartbeats 4000000 in
set_option maxRecDepth 100000 in
/-- WellCourt$Reader.readClan -/
theorem s_X7_readClan (l : Launch) (G : va_G) (cy : Nat → ClassId) (sK sV : Nat → Nat) (ad : Nat → Nat → Nat) (sz : Nat) (st : gS) (hB : gBd bX st) (x : Int32) (Xx : Int) (kx : x.toInt = Xx) (F : Nat → Int32) (N : Int) (hF : st 2 0 = F) (hN : (st 1 0 1).toInt = N) (hst : (st 3 0 3).toInt ≤ 800) : gsMi l yX7_readClan cX7_readClan 3 (some .int) ({ frames := 3, cells := 0, slots := 0, locals := 65 } : Room) G cy sK sV (shX cy ad) cnX ad sz [.ref (ad 3 0), .int x] st (fun (r : Int32) (u : gS) => gBN bX kX [301, 302, 303, 304, 305] st u ∧ (((gClan F N (cLex F N) (st 3 0 3).toInt = some (r.toInt, (u 3 0 3).toInt) ∧ 0 ≤ r.toInt ∧ r.toInt ≤ 5 ∧ ¬ r.toInt = Xx ∧ (u 3 0 3).toInt ≤ 800) ∨ (r.toInt = -1 ∧ (gClan F N (cLex F N) (st 3 0 3).toInt = none ∨ ∃ q, gClan F N (cLex F N) (st 3 0 3).toInt = some (Xx, q)))))) := by
  refine gs_start (fun A => gsQi G (shX cy ad) cnX ad _ A) (by decide) (Nat.le_of_ble_eq_true rfl) ?_
  intro p e s m below meth c A ls H hx hb hr hml hlocks hown hts hK hov hE hI hM hm hS hA hl
  have hl : lv_has ls 3 [(0, .ref (ad 3 0)), (1, .int x)] := hl
  have hB_st : gBN bX kX [301, 302, 303, 304, 305] st st := gBN.rf hB
  refine lv_aload_n hx hb dX7_readClan_0 rfl (lv_at hl 0 rfl) ?_
  refine gs_callv (va_runV (As := []) (rest := []) ⟨hx, hb, hml, hown, hts⟩ (s_X7_advance l G cy sK sV ad H.size st hB_st.1  F N hF hN (by have hb0 : (0 : Int) ≤ (st 3 0 3).toInt ∧ (st 3 0 3).toInt ≤ (801 : Int) := hB_st.1 3 0 3; omega)) ⟨(gz_cb (n := 0) hts gm_367 gm_3 gm_370 ⟨by decide +kernel, by decide +kernel, by decide +kernel⟩ ⟨Nat.le_of_ble_eq_true rfl, Nat.le_of_ble_eq_true rfl⟩), hts _ gm_369, hts _ gs_0⟩ (gs_preV hK hov hE hI hM hm hS hA 3 0 (by decide) rfl rfl) rfl rfl hl.1 rfl (lv_room (Nat.le_of_ble_eq_true rfl)) dX7_readClan_1 ⟨Nat.le_of_ble_eq_true rfl, Nat.le_of_ble_eq_true rfl⟩) hm hS hA (fun st_1 H locs hw_1 hM hS => ?_)
  obtain ⟨n_1, hw_1⟩ := hw_1
  have hB_st_1 : gBN bX kX [301, 302, 303, 304, 305] st st_1 := hB_st.call n_1 (by decide)
  have hbhw_10 : (0 : Int) ≤ (st 3 0 3).toInt ∧ (st 3 0 3).toInt ≤ (801 : Int) := hB_st.1 3 0 3
  obtain ⟨hw_1_0, hw_1_1⟩ := hw_1
  refine lv_aload_n hx hb dX7_readClan_4 rfl (lv_at hl 0 rfl) ?_
  refine gs_get (C := RX7) (T := TX7) (N := 6) hx hb hts inX7 hown hK hM 3 0 1 (by decide) rfl rfl (by decide) (hts _ gm_54) (fun _ h9 => h9) rfl dX7_readClan_5 ?_
  refine lv_iconst (v := 2) hx hb dX7_readClan_8 (by decide) ?_
  refine lv_icmp_ne (tgt := 42) hx hb dX7_readClan_9 (by decide) (fun c_3 => ?_) (fun c_3 => ?_)
  · have ic_3 := gz_ne (rfl : (st_1 3 0 1).toInt = (st_1 3 0 1).toInt) (by decide : (2 : Int32).toInt = 2) c_3
    refine lv_iconst (v := (-1)) hx hb dX7_readClan_42 (by decide) ?_
    refine lv_istore_n (lv' := [(2, .int (-1)), (0, .ref (ad 3 0)), (1, .int x)]) hx hb dX7_readClan_43 rfl hl (by decide) rfl (fun ls hl => ?_)
    refine lv_iload_n hx hb dX7_readClan_44 rfl (lv_at hl 0 rfl) ?_
    refine gs_calli (va_runSN (As := [.int (-1)]) (rest := []) ⟨hx, hb, hml, hown, hts⟩ (s_isClan l G cy sK sV ad H.size st_1 hB_st_1.1 ((-1) : Int32) (-1) (by decide) ) ⟨(va_cnB 1 hts (gz_good gm_487) rfl rfl rfl (hov.2.2 _ gn_485) (hts _ gm_1) ⟨by decide +kernel, by decide +kernel, by decide +kernel⟩ ⟨Nat.le_of_ble_eq_true rfl, Nat.le_of_ble_eq_true rfl⟩), hts _ gm_486, trivial⟩ (gs_preS hK hov hE hI hM hm hS hA) rfl rfl hl.1 rfl (lv_room (Nat.le_of_ble_eq_true rfl)) dX7_readClan_45 ⟨Nat.le_of_ble_eq_true rfl, Nat.le_of_ble_eq_true rfl⟩) hm hS hA (fun r_4 st_4 H locs hw_4 hM hS => ?_)
    obtain ⟨n_4, hw_4⟩ := hw_4
    have n_4 := gBN.nil n_4
    subst n_4
    rcases hw_4 with ⟨rfl, hw_4_0, hw_4_1⟩ | ⟨rfl, hw_4_0⟩
    · exfalso; omega
    · skip
      refine lv_if_ne (tgt := 58) hx hb dX7_readClan_48 (by decide) (fun h9 => absurd (by decide) h9) (fun _ => ?_)
      refine lv_aload_n hx hb dX7_readClan_51 rfl (lv_at hl 1 rfl) ?_
      refine gs_calli (va_runV (As := []) (rest := []) ⟨hx, hb, hml, hown, hts⟩ (s_X7_cannotCome l G cy sK sV ad H.size st_1 hB_st_1.1  ) ⟨(gz_cb (n := 0) hts gm_452 gm_3 gm_455 ⟨by decide +kernel, by decide +kernel, by decide +kernel⟩ ⟨Nat.le_of_ble_eq_true rfl, Nat.le_of_ble_eq_true rfl⟩), hts _ gm_454, hts _ gs_4⟩ (gs_preV hK hov hE hI hM hm hS hA 3 0 (by decide) rfl rfl) rfl rfl hl.1 rfl (lv_room (Nat.le_of_ble_eq_true rfl)) dX7_readClan_52 ⟨Nat.le_of_ble_eq_true rfl, Nat.le_of_ble_eq_true rfl⟩) hm hS hA (fun r_5 st_5 H locs hw_5 hM hS => ?_)
      obtain ⟨n_5, hw_5⟩ := hw_5
      have hB_st_5 : gBN bX kX [301, 302, 303, 304, 305] st st_5 := hB_st_1.call n_5 (by decide)
      obtain rfl := hw_5
      refine lv_pop hx hb dX7_readClan_55 rfl ?_
      refine lv_iconst (v := (-1)) hx hb dX7_readClan_56 (by decide) ?_
      exact gs_iret hx hb hr hlocks hM hS rfl ⟨hB_st_5, (by first | exact Or.inr ⟨by decide, Or.inl (gClan_no hw_1_0 (by omega))⟩ | exact Or.inr ⟨by decide, Or.inr ⟨_, gClan_yes hw_1_0 (by omega) (by omega) (by omega) (by omega) (by omega)⟩⟩)⟩ (by exact Nat.le_refl _) (by exact Nat.le_refl _) dX7_readClan_57
  · have ic_3 := gz_eqn (rfl : (st_1 3 0 1).toInt = (st_1 3 0 1).toInt) (by decide : (2 : Int32).toInt = 2) c_3
    refine lv_aload_n hx hb dX7_readClan_12 rfl (lv_at hl 0 rfl) ?_
    refine gs_get (C := RX7) (T := TX7) (N := 6) hx hb hts inX7 hown hK hM 3 0 3 (by decide) rfl rfl (by decide) (hts _ gm_56) (fun _ h9 => h9) rfl dX7_readClan_13 ?_
    have bf_6 : (0 : Int) ≤ (st_1 3 0 3).toInt ∧ (st_1 3 0 3).toInt ≤ (801 : Int) := hB_st_1.1 3 0 3
    refine lv_aload_n hx hb dX7_readClan_16 rfl (lv_at hl 0 rfl) ?_
    refine gs_get (C := RX7) (T := TX7) (N := 6) hx hb hts inX7 hown hK hM 3 0 2 (by decide) rfl rfl (by decide) (hts _ gm_55) (fun _ h9 => h9) rfl dX7_readClan_17 ?_
    have bf_7 : (0 : Int) ≤ (st_1 3 0 2).toInt ∧ (st_1 3 0 2).toInt ≤ (800 : Int) := hB_st_1.1 3 0 2
    refine lv_isub hx hb dX7_readClan_20 ?_
    refine lv_topi (fun x_8 ex_8 => ?_)
    try have tx_8 : x_8.toInt = (st_1 3 0 3).toInt - (st_1 3 0 2).toInt := by rw [ex_8]; exact gz_subI (x := (st_1 3 0 3).toInt) (y := (st_1 3 0 2).toInt) rfl rfl (by omega) (by omega)
    refine lv_iconst (v := 1) hx hb dX7_readClan_21 (by decide) ?_
    refine lv_icmp_ne (tgt := 42) hx hb dX7_readClan_22 (by decide) (fun c_9 => ?_) (fun c_9 => ?_)
    · have ic_9 := gz_ne (rfl : x_8.toInt = x_8.toInt) (by decide : (1 : Int32).toInt = 1) c_9
      refine lv_iconst (v := (-1)) hx hb dX7_readClan_42 (by decide) ?_
      refine lv_istore_n (lv' := [(2, .int (-1)), (0, .ref (ad 3 0)), (1, .int x)]) hx hb dX7_readClan_43 rfl hl (by decide) rfl (fun ls hl => ?_)
      refine lv_iload_n hx hb dX7_readClan_44 rfl (lv_at hl 0 rfl) ?_
      refine gs_calli (va_runSN (As := [.int (-1)]) (rest := []) ⟨hx, hb, hml, hown, hts⟩ (s_isClan l G cy sK sV ad H.size st_1 hB_st_1.1 ((-1) : Int32) (-1) (by decide) ) ⟨(va_cnB 1 hts (gz_good gm_487) rfl rfl rfl (hov.2.2 _ gn_485) (hts _ gm_1) ⟨by decide +kernel, by decide +kernel, by decide +kernel⟩ ⟨Nat.le_of_ble_eq_true rfl, Nat.le_of_ble_eq_true rfl⟩), hts _ gm_486, trivial⟩ (gs_preS hK hov hE hI hM hm hS hA) rfl rfl hl.1 rfl (lv_room (Nat.le_of_ble_eq_true rfl)) dX7_readClan_45 ⟨Nat.le_of_ble_eq_true rfl, Nat.le_of_ble_eq_true rfl⟩) hm hS hA (fun r_10 st_10 H locs hw_10 hM hS => ?_)
      obtain ⟨n_10, hw_10⟩ := hw_10
      have n_10 := gBN.nil n_10
      subst n_10
      rcases hw_10 with ⟨rfl, hw_10_0, hw_10_1⟩ | ⟨rfl, hw_10_0⟩
      · exfalso; omega
      · skip
        refine lv_if_ne (tgt := 58) hx hb dX7_readClan_48 (by decide) (fun h9 => absurd (by decide) h9) (fun _ => ?_)
        refine lv_aload_n hx hb dX7_readClan_51 rfl (lv_at hl 1 rfl) ?_
        refine gs_calli (va_runV (As := []) (rest := []) ⟨hx, hb, hml, hown, hts⟩ (s_X7_cannotCome l G cy sK sV ad H.size st_1 hB_st_1.1  ) ⟨(gz_cb (n := 0) hts gm_452 gm_3 gm_455 ⟨by decide +kernel, by decide +kernel, by decide +kernel⟩ ⟨Nat.le_of_ble_eq_true rfl, Nat.le_of_ble_eq_true rfl⟩), hts _ gm_454, hts _ gs_4⟩ (gs_preV hK hov hE hI hM hm hS hA 3 0 (by decide) rfl rfl) rfl rfl hl.1 rfl (lv_room (Nat.le_of_ble_eq_true rfl)) dX7_readClan_52 ⟨Nat.le_of_ble_eq_true rfl, Nat.le_of_ble_eq_true rfl⟩) hm hS hA (fun r_11 st_11 H locs hw_11 hM hS => ?_)
        obtain ⟨n_11, hw_11⟩ := hw_11
        have hB_st_11 : gBN bX kX [301, 302, 303, 304, 305] st st_11 := hB_st_1.call n_11 (by decide)
        obtain rfl := hw_11
        refine lv_pop hx hb dX7_readClan_55 rfl ?_
        refine lv_iconst (v := (-1)) hx hb dX7_readClan_56 (by decide) ?_
        exact gs_iret hx hb hr hlocks hM hS rfl ⟨hB_st_11, (by first | exact Or.inr ⟨by decide, Or.inl (gClan_no hw_1_0 (by omega))⟩ | exact Or.inr ⟨by decide, Or.inr ⟨_, gClan_yes hw_1_0 (by omega) (by omega) (by omega) (by omega) (by omega)⟩⟩)⟩ (by exact Nat.le_refl _) (by exact Nat.le_refl _) dX7_readClan_57
    · have ic_9 := gz_eqn (rfl : x_8.toInt = x_8.toInt) (by decide : (1 : Int32).toInt = 1) c_9
      refine lv_aload_n hx hb dX7_readClan_25 rfl (lv_at hl 0 rfl) ?_
      refine gs_get (C := RX7) (T := TX7) (N := 6) hx hb hts inX7 hown hK hM 3 0 0 (by decide) rfl rfl (by decide) (hts _ gm_53) (fun _ h9 => h9) rfl dX7_readClan_26 ?_
      refine lv_aload_n hx hb dX7_readClan_29 rfl (lv_at hl 0 rfl) ?_
      refine gs_get (C := RX7) (T := TX7) (N := 6) hx hb hts inX7 hown hK hM 3 0 2 (by decide) rfl rfl (by decide) (hts _ gm_55) (fun _ h9 => h9) rfl dX7_readClan_30 ?_
      have bf_12 : (0 : Int) ≤ (st_1 3 0 2).toInt ∧ (st_1 3 0 2).toInt ≤ (800 : Int) := hB_st_1.1 3 0 2
      refine gs_calli (va_runV (As := [.int (st_1 3 0 2)]) (rest := []) ⟨hx, hb, hml, hown, hts⟩ (s_X8_byteAt l G cy sK sV ad H.size st_1 hB_st_1.1 (st_1 3 0 2) ((st_1 3 0 2).toInt) rfl F N (((funext (fun j9 => n_1.2 2 0 j9 (show (200 : Nat) ∉ _ from by decide))).trans rfl).trans hF) ((congrArg Int32.toInt ((n_1.2 1 0 1 (show (101 : Nat) ∉ _ from by decide)))).trans hN)) ⟨(gz_cb (n := 1) hts gm_371 gm_2 gm_374 ⟨by decide +kernel, by decide +kernel, by decide +kernel⟩ ⟨Nat.le_of_ble_eq_true rfl, Nat.le_of_ble_eq_true rfl⟩), hts _ gm_372, hts _ gm_373⟩ (gs_preV hK hov hE hI hM hm hS hA 1 0 (by decide) rfl rfl) rfl rfl hl.1 rfl (lv_room (Nat.le_of_ble_eq_true rfl)) dX7_readClan_33 ⟨Nat.le_of_ble_eq_true rfl, Nat.le_of_ble_eq_true rfl⟩) hm hS hA (fun r_13 st_13 H locs hw_13 hM hS => ?_)
      obtain ⟨n_13, hw_13⟩ := hw_13
      have n_13 := gBN.nil n_13
      subst n_13
      have hbhw_130 : (0 : Int) ≤ (st_1 3 0 2).toInt ∧ (st_1 3 0 2).toInt ≤ (800 : Int) := hB_st_1.1 3 0 2
      have hqhw_131 : (st_1 1 0 1).toInt = ((st 1 0 1) : Int32).toInt := congrArg Int32.toInt ((n_1.2 1 0 1 (show (101 : Nat) ∉ _ from by decide)))
      have hbhw_132 : (0 : Int) ≤ (st_1 1 0 1).toInt ∧ (st_1 1 0 1).toInt ≤ (800 : Int) := hB_st_1.1 1 0 1
      obtain ⟨hw_13_0, hw_13_1, hw_13_2, hw_13_3⟩ := hw_13
      refine lv_bipush (v := 97) hx hb dX7_readClan_36 (by decide) ?_
      refine lv_isub hx hb dX7_readClan_38 ?_
      refine lv_topi (fun x_14 ex_14 => ?_)
      try have tx_14 : x_14.toInt = r_13.toInt - 97 := by rw [ex_14]; exact gz_subP (x := r_13.toInt) (y := 97) rfl (by decide) (by omega) (by omega)
      refine lv_goto (tgt := 43) hx hb dX7_readClan_39 (by decide) ?_
      refine lv_istore_n (lv' := [(2, .int x_14), (0, .ref (ad 3 0)), (1, .int x)]) hx hb dX7_readClan_43 rfl hl (by decide) rfl (fun ls hl => ?_)
      refine lv_iload_n hx hb dX7_readClan_44 rfl (lv_at hl 0 rfl) ?_
      refine gs_calli (va_runSN (As := [.int x_14]) (rest := []) ⟨hx, hb, hml, hown, hts⟩ (s_isClan l G cy sK sV ad H.size st_1 hB_st_1.1 x_14 x_14.toInt rfl ) ⟨(va_cnB 1 hts (gz_good gm_487) rfl rfl rfl (hov.2.2 _ gn_485) (hts _ gm_1) ⟨by decide +kernel, by decide +kernel, by decide +kernel⟩ ⟨Nat.le_of_ble_eq_true rfl, Nat.le_of_ble_eq_true rfl⟩), hts _ gm_486, trivial⟩ (gs_preS hK hov hE hI hM hm hS hA) rfl rfl hl.1 rfl (lv_room (Nat.le_of_ble_eq_true rfl)) dX7_readClan_45 ⟨Nat.le_of_ble_eq_true rfl, Nat.le_of_ble_eq_true rfl⟩) hm hS hA (fun r_15 st_15 H locs hw_15 hM hS => ?_)
      obtain ⟨n_15, hw_15⟩ := hw_15
      have n_15 := gBN.nil n_15
      subst n_15
      rcases hw_15 with ⟨rfl, hw_15_0, hw_15_1⟩ | ⟨rfl, hw_15_0⟩
      · skip
        refine lv_if_ne (tgt := 58) hx hb dX7_readClan_48 (by decide) (fun _ => ?_) (fun h9 => absurd h9 (by decide))
        refine lv_iload_n hx hb dX7_readClan_58 rfl (lv_at hl 0 rfl) ?_
        refine lv_iload_n hx hb dX7_readClan_59 rfl (lv_at hl 2 rfl) ?_
        refine lv_icmp_ne (tgt := 71) hx hb dX7_readClan_60 (by decide) (fun c_16 => ?_) (fun c_16 => ?_)
        · have ic_16 := gz_ne (rfl : x_14.toInt = x_14.toInt) (rfl : x.toInt = x.toInt) c_16
          refine lv_iload_n hx hb dX7_readClan_71 rfl (lv_at hl 0 rfl) ?_
          exact gs_iret hx hb hr hlocks hM hS rfl ⟨hB_st_1, (Or.inl ⟨gClan_yes hw_1_0 (by omega) (by omega) (by omega) (by omega) (by omega), by omega, by omega, by omega, (by have hb0 : (0 : Int) ≤ (st_1 3 0 3).toInt ∧ (st_1 3 0 3).toInt ≤ (801 : Int) := hB_st_1.1 3 0 3; omega)⟩)⟩ (by exact Nat.le_refl _) (by exact Nat.le_refl _) dX7_readClan_72
        · have ic_16 := gz_eqn (rfl : x_14.toInt = x_14.toInt) (rfl : x.toInt = x.toInt) c_16
          refine lv_aload_n hx hb dX7_readClan_63 rfl (lv_at hl 1 rfl) ?_
          refine lv_iconst (v := 3) hx hb dX7_readClan_64 (by decide) ?_
          refine gs_calli (va_runV (As := [.int 3]) (rest := []) ⟨hx, hb, hml, hown, hts⟩ (s_X7_fail l G cy sK sV ad H.size st_1 hB_st_1.1 (3 : Int32) ) ⟨(gz_cb (n := 1) hts gm_456 gm_3 gm_459 ⟨by decide +kernel, by decide +kernel, by decide +kernel⟩ ⟨Nat.le_of_ble_eq_true rfl, Nat.le_of_ble_eq_true rfl⟩), hts _ gm_458, hts _ gs_5⟩ (gs_preV hK hov hE hI hM hm hS hA 3 0 (by decide) rfl rfl) rfl rfl hl.1 rfl (lv_room (Nat.le_of_ble_eq_true rfl)) dX7_readClan_65 ⟨Nat.le_of_ble_eq_true rfl, Nat.le_of_ble_eq_true rfl⟩) hm hS hA (fun r_17 st_17 H locs hw_17 hM hS => ?_)
          obtain ⟨n_17, hw_17⟩ := hw_17
          have hB_st_17 : gBN bX kX [301, 302, 303, 304, 305] st st_17 := hB_st_1.call n_17 (by decide)
          obtain rfl := hw_17
          refine lv_pop hx hb dX7_readClan_68 rfl ?_
          refine lv_iconst (v := (-1)) hx hb dX7_readClan_69 (by decide) ?_
          exact gs_iret hx hb hr hlocks hM hS rfl ⟨hB_st_17, (by first | exact Or.inr ⟨by decide, Or.inl (gClan_no hw_1_0 (by omega))⟩ | exact Or.inr ⟨by decide, Or.inr ⟨_, gClan_yes hw_1_0 (by omega) (by omega) (by omega) (by omega) (by omega)⟩⟩)⟩ (by exact Nat.le_refl _) (by exact Nat.le_refl _) dX7_readClan_70
      · skip
        refine lv_if_ne (tgt := 58) hx hb dX7_readClan_48 (by decide) (fun h9 => absurd (by decide) h9) (fun _ => ?_)
        refine lv_aload_n hx hb dX7_readClan_51 rfl (lv_at hl 1 rfl) ?_
        refine gs_calli (va_runV (As := []) (rest := []) ⟨hx, hb, hml, hown, hts⟩ (s_X7_cannotCome l G cy sK sV ad H.size st_1 hB_st_1.1  ) ⟨(gz_cb (n := 0) hts gm_452 gm_3 gm_455 ⟨by decide +kernel, by decide +kernel, by decide +kernel⟩ ⟨Nat.le_of_ble_eq_true rfl, Nat.le_of_ble_eq_true rfl⟩), hts _ gm_454, hts _ gs_4⟩ (gs_preV hK hov hE hI hM hm hS hA 3 0 (by decide) rfl rfl) rfl rfl hl.1 rfl (lv_room (Nat.le_of_ble_eq_true rfl)) dX7_readClan_52 ⟨Nat.le_of_ble_eq_true rfl, Nat.le_of_ble_eq_true rfl⟩) hm hS hA (fun r_18 st_18 H locs hw_18 hM hS => ?_)
        obtain ⟨n_18, hw_18⟩ := hw_18
        have hB_st_18 : gBN bX kX [301, 302, 303, 304, 305] st st_18 := hB_st_1.call n_18 (by decide)
        obtain rfl := hw_18
        refine lv_pop hx hb dX7_readClan_55 rfl ?_
        refine lv_iconst (v := (-1)) hx hb dX7_readClan_56 (by decide) ?_
        exact gs_iret hx hb hr hlocks hM hS rfl ⟨hB_st_18, (by first | exact Or.inr ⟨by decide, Or.inl (gClan_no hw_1_0 (by omega))⟩ | exact Or.inr ⟨by decide, Or.inr ⟨_, gClan_yes hw_1_0 (by omega) (by omega) (by omega) (by omega) (by omega)⟩⟩)⟩ (by exact Nat.le_refl _) (by exact Nat.le_refl _) dX7_readClan_57

set_option maxHeartbeats 4000000 in
set_option maxRecDepth 100000 in
/-- WellCourt$Reader.readNumber -/
theorem s_X7_readNumber (l : Launch) (G : va_G) (cy : Nat → ClassId) (sK sV : Nat → Nat) (ad : Nat → Nat → Nat) (sz : Nat) (st : gS) (hB : gBd bX st) (x : Int32) (y : Int32) (Xx : Int) (Xy : Int) (kx : x.toInt = Xx) (ky : y.toInt = Xy) (F : Nat → Int32) (N : Int) (hF : st 2 0 = F) (hN : (st 1 0 1).toInt = N) (hst : (st 3 0 3).toInt ≤ 800) : gsMi l yX7_readNumber cX7_readNumber 5 (some .int) ({ frames := 3, cells := 0, slots := 0, locals := 65 } : Room) G cy sK sV (shX cy ad) cnX ad sz [.ref (ad 3 0), .int x, .int y] st (fun (r : Int32) (u : gS) => gBN bX kX [301, 302, 303, 304, 305] st u ∧ (((gNum F N (cLex F N) Xx Xy (st 3 0 3).toInt = some (r.toInt, (u 3 0 3).toInt) ∧ Xx ≤ r.toInt ∧ r.toInt ≤ Xy ∧ (u 3 0 3).toInt ≤ 800) ∨ (r.toInt = -1 ∧ gNum F N (cLex F N) Xx Xy (st 3 0 3).toInt = none)))) := by
  refine gs_start (fun A => gsQi G (shX cy ad) cnX ad _ A) (by decide) (Nat.le_of_ble_eq_true rfl) ?_
  intro p e s m below meth c A ls H hx hb hr hml hlocks hown hts hK hov hE hI hM hm hS hA hl
  have hl : lv_has ls 5 [(0, .ref (ad 3 0)), (1, .int x), (2, .int y)] := hl
  have hB_st : gBN bX kX [301, 302, 303, 304, 305] st st := gBN.rf hB
  generalize hQe : MQ below _ _ s _ _ A = Q
  refine lv_aload_n hx hb dX7_readNumber_0 rfl (lv_at hl 0 rfl) ?_
  refine gs_callv (va_runV (As := []) (rest := []) ⟨hx, hb, hml, hown, hts⟩ (s_X7_advance l G cy sK sV ad H.size st hB_st.1  F N hF hN (by have hb0 : (0 : Int) ≤ (st 3 0 3).toInt ∧ (st 3 0 3).toInt ≤ (801 : Int) := hB_st.1 3 0 3; omega)) ⟨(gz_cb (n := 0) hts gm_367 gm_3 gm_370 ⟨by decide +kernel, by decide +kernel, by decide +kernel⟩ ⟨Nat.le_of_ble_eq_true rfl, Nat.le_of_ble_eq_true rfl⟩), hts _ gm_369, hts _ gs_0⟩ (gs_preV hK hov hE hI hM hm hS hA 3 0 (by decide) rfl rfl) rfl rfl hl.1 rfl (lv_room (Nat.le_of_ble_eq_true rfl)) dX7_readNumber_1 ⟨Nat.le_of_ble_eq_true rfl, Nat.le_of_ble_eq_true rfl⟩) hm hS hA (fun st_1 H locs hw_1 hM hS => ?_)
  obtain ⟨n_1, hw_1⟩ := hw_1
  have hB_st_1 : gBN bX kX [301, 302, 303, 304, 305] st st_1 := hB_st.call n_1 (by decide)
  have hbhw_10 : (0 : Int) ≤ (st 3 0 3).toInt ∧ (st 3 0 3).toInt ≤ (801 : Int) := hB_st.1 3 0 3
  obtain ⟨hw_1_0, hw_1_1⟩ := hw_1
  refine lv_aload_n hx hb dX7_readNumber_4 rfl (lv_at hl 0 rfl) ?_
  refine gs_get (C := RX7) (T := TX7) (N := 6) hx hb hts inX7 hown hK hM 3 0 1 (by decide) rfl rfl (by decide) (hts _ gm_54) (fun _ h9 => h9) rfl dX7_readNumber_5 ?_
  refine lv_iconst (v := 3) hx hb dX7_readNumber_8 (by decide) ?_
  refine lv_icmp_eq (tgt := 19) hx hb dX7_readNumber_9 (by decide) (fun c_3 => ?_) (fun c_3 => ?_)
  · have ic_3 := gz_eq (rfl : (st_1 3 0 1).toInt = (st_1 3 0 1).toInt) (by decide : (3 : Int32).toInt = 3) c_3
    have hcn := cLex_num (show cLex F N (st 3 0 3).toInt = (3, (st_1 3 0 2).toInt, (st_1 3 0 3).toInt) from (by rw [hw_1_0, show (st_1 3 0 1).toInt = 3 by omega]))
    refine lv_iconst (v := 0) hx hb dX7_readNumber_19 (by decide) ?_
    refine lv_istore_n (lv' := [(3, .int 0), (0, .ref (ad 3 0)), (1, .int x), (2, .int y)]) hx hb dX7_readNumber_20 rfl hl (by decide) rfl (fun ls hl => ?_)
    refine lv_aload_n hx hb dX7_readNumber_21 rfl (lv_at hl 1 rfl) ?_
    refine gs_get (C := RX7) (T := TX7) (N := 6) hx hb hts inX7 hown hK hM 3 0 2 (by decide) rfl rfl (by decide) (hts _ gm_55) (fun _ h9 => h9) rfl dX7_readNumber_22 ?_
    have bf_4 : (0 : Int) ≤ (st_1 3 0 2).toInt ∧ (st_1 3 0 2).toInt ≤ (800 : Int) := hB_st_1.1 3 0 2
    refine lv_istore (lv' := [(4, .int (st_1 3 0 2)), (3, .int 0), (0, .ref (ad 3 0)), (1, .int x), (2, .int y)]) hx hb dX7_readNumber_25 hl (by decide) rfl (fun ls hl => ?_)
    have lp5 : ∀ (n5 : Nat)  (y5_0 : Int32) (y5_1 : Int32) (H : Heap) (locs : List Loc) (ls : Array Slot), ((st_1 3 0 3).toInt - y5_1.toInt).toNat < n5 →  (y5_0.toInt = vlT F N (st_1 3 0 2).toInt (y5_1.toInt - (st_1 3 0 2).toInt).toNat) → ((st_1 3 0 2).toInt ≤ y5_1.toInt) → (y5_1.toInt ≤ (st_1 3 0 3).toInt) → gM G (shX cy ad) cnX ad st_1 H → va_S A s.heap H locs → lv_has ls 5 [(4, .int y5_1), (3, .int y5_0), (0, .ref (ad 3 0)), (1, .int x), (2, .int y)] → W p l e ({ frames := 3, cells := 0, slots := 0, locals := 65 } : Room) s m [.ref (ad 3 0), .int x, .int y].toArray below meth c H locs 0 0 Q (F0 m 27 ls []) := by
      intro n5
      induction n5 with
      | zero => intro  y5_0 y5_1 H locs ls h9; exact absurd h9 (Nat.not_lt_zero _)
      | succ n5 ih_5 =>
        intro  y5_0 y5_1 H locs ls hme5  hv5_0 hv5_1 hv5_2 hM hS hl
        have hb5_0 : (0 : Int) ≤ (st_1 3 0 3).toInt ∧ (st_1 3 0 3).toInt ≤ (801 : Int) := hB_st_1.1 3 0 3
        have hb5_1 : (0 : Int) ≤ (st_1 3 0 2).toInt ∧ (st_1 3 0 2).toInt ≤ (800 : Int) := hB_st_1.1 3 0 2
        refine lv_iload hx hb dX7_readNumber_27 (lv_at hl 0 rfl) ?_
        refine lv_aload_n hx hb dX7_readNumber_29 rfl (lv_at hl 2 rfl) ?_
        refine gs_get (C := RX7) (T := TX7) (N := 6) hx hb hts inX7 hown hK hM 3 0 3 (by decide) rfl rfl (by decide) (hts _ gm_56) (fun _ h9 => h9) rfl dX7_readNumber_30 ?_
        have bf_6 : (0 : Int) ≤ (st_1 3 0 3).toInt ∧ (st_1 3 0 3).toInt ≤ (801 : Int) := hB_st_1.1 3 0 3
        refine lv_icmp_ge (tgt := 60) hx hb dX7_readNumber_33 (by decide) (fun c_7 => ?_) (fun c_7 => ?_)
        · have ic_7 := gz_le (rfl : (st_1 3 0 3).toInt = (st_1 3 0 3).toInt) (rfl : y5_1.toInt = y5_1.toInt) c_7
          refine lv_iload_n hx hb dX7_readNumber_60 rfl (lv_at hl 1 rfl) ?_
          refine lv_iload_n hx hb dX7_readNumber_61 rfl (lv_at hl 3 rfl) ?_
          refine lv_iload_n hx hb dX7_readNumber_62 rfl (lv_at hl 4 rfl) ?_
          refine gs_calli (va_runSN (As := [.int y5_0, .int x, .int y]) (rest := []) ⟨hx, hb, hml, hown, hts⟩ (s_isWithin l G cy sK sV ad H.size st_1 hB_st_1.1 y5_0 x y y5_0.toInt x.toInt y.toInt rfl rfl rfl ) ⟨(va_cnB 3 hts (gz_good gm_353) rfl rfl rfl (hov.2.2 _ gn_468) (hts _ gm_1) ⟨by decide +kernel, by decide +kernel, by decide +kernel⟩ ⟨Nat.le_of_ble_eq_true rfl, Nat.le_of_ble_eq_true rfl⟩), hts _ gm_352, trivial⟩ (gs_preS hK hov hE hI hM hm hS hA) rfl rfl hl.1 rfl (lv_room (Nat.le_of_ble_eq_true rfl)) dX7_readNumber_63 ⟨Nat.le_of_ble_eq_true rfl, Nat.le_of_ble_eq_true rfl⟩) hm hS hA (fun r_8 st_8 H locs hw_8 hM hS => ?_)
          obtain ⟨n_8, hw_8⟩ := hw_8
          have n_8 := gBN.nil n_8
          subst n_8
          rcases hw_8 with ⟨rfl, hw_8_0, hw_8_1⟩ | ⟨rfl, hw_8_0⟩
          · skip
            refine lv_if_ne (tgt := 77) hx hb dX7_readNumber_66 (by decide) (fun _ => ?_) (fun h9 => absurd h9 (by decide))
            refine lv_iload_n hx hb dX7_readNumber_77 rfl (lv_at hl 1 rfl) ?_
            rw [← hQe]
            exact gs_iret hx hb hr hlocks hM hS rfl ⟨hB_st_1, (by have h8 : vlT F N (st_1 3 0 2).toInt ((st_1 3 0 3).toInt - (st_1 3 0 2).toInt).toNat = y5_0.toInt := (by rw [show (st_1 3 0 3).toInt = y5_1.toInt by omega]; omega); exact Or.inl ⟨gNum_yes hw_1_0 (by omega) h8 (by omega) (by omega), by omega, by omega, (by have hb0 : (0 : Int) ≤ (st_1 3 0 3).toInt ∧ (st_1 3 0 3).toInt ≤ (801 : Int) := hB_st_1.1 3 0 3; omega)⟩)⟩ (by exact Nat.le_refl _) (by exact Nat.le_refl _) dX7_readNumber_78
          · skip
            refine lv_if_ne (tgt := 77) hx hb dX7_readNumber_66 (by decide) (fun h9 => absurd (by decide) h9) (fun _ => ?_)
            refine lv_aload_n hx hb dX7_readNumber_69 rfl (lv_at hl 2 rfl) ?_
            refine lv_iconst (v := 3) hx hb dX7_readNumber_70 (by decide) ?_
            refine gs_calli (va_runV (As := [.int 3]) (rest := []) ⟨hx, hb, hml, hown, hts⟩ (s_X7_fail l G cy sK sV ad H.size st_1 hB_st_1.1 (3 : Int32) ) ⟨(gz_cb (n := 1) hts gm_456 gm_3 gm_459 ⟨by decide +kernel, by decide +kernel, by decide +kernel⟩ ⟨Nat.le_of_ble_eq_true rfl, Nat.le_of_ble_eq_true rfl⟩), hts _ gm_458, hts _ gs_5⟩ (gs_preV hK hov hE hI hM hm hS hA 3 0 (by decide) rfl rfl) rfl rfl hl.1 rfl (lv_room (Nat.le_of_ble_eq_true rfl)) dX7_readNumber_71 ⟨Nat.le_of_ble_eq_true rfl, Nat.le_of_ble_eq_true rfl⟩) hm hS hA (fun r_9 st_9 H locs hw_9 hM hS => ?_)
            obtain ⟨n_9, hw_9⟩ := hw_9
            have hB_st_9 : gBN bX kX [301, 302, 303, 304, 305] st st_9 := hB_st_1.call n_9 (by decide)
            obtain rfl := hw_9
            refine lv_pop hx hb dX7_readNumber_74 rfl ?_
            refine lv_iconst (v := (-1)) hx hb dX7_readNumber_75 (by decide) ?_
            rw [← hQe]
            exact gs_iret hx hb hr hlocks hM hS rfl ⟨hB_st_9, (by have h8 : vlT F N (st_1 3 0 2).toInt ((st_1 3 0 3).toInt - (st_1 3 0 2).toInt).toNat = y5_0.toInt := (by rw [show (st_1 3 0 3).toInt = y5_1.toInt by omega]; omega); exact Or.inr ⟨by decide, gNum_no hw_1_0 (by omega)⟩)⟩ (by exact Nat.le_refl _) (by exact Nat.le_refl _) dX7_readNumber_76
        · have ic_7 := gz_nle (rfl : (st_1 3 0 3).toInt = (st_1 3 0 3).toInt) (rfl : y5_1.toInt = y5_1.toInt) c_7
          have lc_7 := gi_hi (st_1 3 0 3)
          have hvr := vlT_999 (f := F) (n := N) (s := (st_1 3 0 2).toInt) (k := (y5_1.toInt - (st_1 3 0 2).toInt).toNat) (by omega) (fun q9 q1 q2 => hcn.2.2 q9 q1 (by omega))
          have hdg := hcn.2.2 y5_1.toInt (by omega) (by omega)
          refine lv_iload_n hx hb dX7_readNumber_36 rfl (lv_at hl 1 rfl) ?_
          refine lv_bipush (v := 10) hx hb dX7_readNumber_37 (by decide) ?_
          refine lv_imul hx hb dX7_readNumber_39 ?_
          refine lv_topi (fun x_10 ex_10 => ?_)
          try have tx_10 : x_10.toInt = y5_0.toInt * 10 := by rw [ex_10]; exact gz_mulI (x := y5_0.toInt) (y := 10) rfl (by decide) (by omega) (by omega)
          refine lv_aload_n hx hb dX7_readNumber_40 rfl (lv_at hl 2 rfl) ?_
          refine gs_get (C := RX7) (T := TX7) (N := 6) hx hb hts inX7 hown hK hM 3 0 0 (by decide) rfl rfl (by decide) (hts _ gm_53) (fun _ h9 => h9) rfl dX7_readNumber_41 ?_
          refine lv_iload hx hb dX7_readNumber_44 (lv_at hl 0 rfl) ?_
          refine gs_calli (va_runV (As := [.int y5_1]) (rest := [.int x_10]) ⟨hx, hb, hml, hown, hts⟩ (s_X8_byteAt l G cy sK sV ad H.size st_1 hB_st_1.1 y5_1 y5_1.toInt rfl F N (((funext (fun j9 => n_1.2 2 0 j9 (show (200 : Nat) ∉ _ from by decide))).trans rfl).trans hF) ((congrArg Int32.toInt ((n_1.2 1 0 1 (show (101 : Nat) ∉ _ from by decide)))).trans hN)) ⟨(gz_cb (n := 1) hts gm_371 gm_2 gm_374 ⟨by decide +kernel, by decide +kernel, by decide +kernel⟩ ⟨Nat.le_of_ble_eq_true rfl, Nat.le_of_ble_eq_true rfl⟩), hts _ gm_372, hts _ gm_373⟩ (gs_preV hK hov hE hI hM hm hS hA 1 0 (by decide) rfl rfl) rfl rfl hl.1 rfl (lv_room (Nat.le_of_ble_eq_true rfl)) dX7_readNumber_46 ⟨Nat.le_of_ble_eq_true rfl, Nat.le_of_ble_eq_true rfl⟩) hm hS hA (fun r_11 st_11 H locs hw_11 hM hS => ?_)
          obtain ⟨n_11, hw_11⟩ := hw_11
          have n_11 := gBN.nil n_11
          subst n_11
          have hqhw_110 : (st_1 1 0 1).toInt = ((st 1 0 1) : Int32).toInt := congrArg Int32.toInt ((n_1.2 1 0 1 (show (101 : Nat) ∉ _ from by decide)))
          have hbhw_111 : (0 : Int) ≤ (st_1 1 0 1).toInt ∧ (st_1 1 0 1).toInt ≤ (800 : Int) := hB_st_1.1 1 0 1
          obtain ⟨hw_11_0, hw_11_1, hw_11_2, hw_11_3⟩ := hw_11
          refine lv_iadd hx hb dX7_readNumber_49 ?_
          refine lv_topi (fun x_12 ex_12 => ?_)
          try have tx_12 : x_12.toInt = x_10.toInt + r_11.toInt := by rw [ex_12]; exact gz_addI (x := x_10.toInt) (y := r_11.toInt) rfl rfl (by omega) (by omega)
          refine lv_bipush (v := 48) hx hb dX7_readNumber_50 (by decide) ?_
          refine lv_isub hx hb dX7_readNumber_52 ?_
          refine lv_topi (fun x_13 ex_13 => ?_)
          try have tx_13 : x_13.toInt = x_12.toInt - 48 := by rw [ex_13]; exact gz_subP (x := x_12.toInt) (y := 48) rfl (by decide) (by omega) (by omega)
          refine lv_istore_n (lv' := [(3, .int x_13), (4, .int y5_1), (0, .ref (ad 3 0)), (1, .int x), (2, .int y)]) hx hb dX7_readNumber_53 rfl hl (by decide) rfl (fun ls hl => ?_)
          obtain ⟨x_14, ex_14⟩ : ∃ y : Int32, y = y5_1 + 1 := ⟨_, rfl⟩
          try have tx_14 : x_14.toInt = y5_1.toInt + 1 := by rw [ex_14]; exact gz_addP (x := y5_1.toInt) (y := 1) rfl (by decide) (by omega) (by omega)
          refine lv_iinc (v := (x_14)) (lv' := [(4, .int x_14), (3, .int x_13), (0, .ref (ad 3 0)), (1, .int x), (2, .int y)]) hx hb dX7_readNumber_54 hl (k := 1) rfl (by rw [ex_14]; rfl) (by decide) rfl (fun ls hl => ?_)
          refine lv_goto (tgt := 27) hx hb dX7_readNumber_57 (by decide) ?_
          exact ih_5  (x_13 : Int32) (x_14 : Int32) H _ ls (by have hb0 : (0 : Int) ≤ (st_1 3 0 3).toInt ∧ (st_1 3 0 3).toInt ≤ (801 : Int) := hB_st_1.1 3 0 3; omega)  (by rw [vlT_step (s := (st_1 3 0 2).toInt) (a := y5_1.toInt) (by omega) (by omega)]; omega) (by have hb0 : (0 : Int) ≤ (st_1 3 0 2).toInt ∧ (st_1 3 0 2).toInt ≤ (800 : Int) := hB_st_1.1 3 0 2; omega) (by have hb0 : (0 : Int) ≤ (st_1 3 0 3).toInt ∧ (st_1 3 0 3).toInt ≤ (801 : Int) := hB_st_1.1 3 0 3; omega) hM hS (lv_sub hl [0, 1, 2, 3, 4] rfl)
    exact lp5 (((st_1 3 0 3).toInt - ((st_1 3 0 2) : Int32).toInt).toNat + 1)  ((0 : Int32) : Int32) ((st_1 3 0 2) : Int32) H _ ls (Nat.lt_succ_self _)  (by rw [Int.sub_self]; show (0 : Int32).toInt = 0; decide) (by have hl0 : (0 : Int32).toInt = 0 := (by decide); have hb1 : (0 : Int) ≤ (st_1 3 0 2).toInt ∧ (st_1 3 0 2).toInt ≤ (800 : Int) := hB_st_1.1 3 0 2; omega) (by have := hcn.1; omega) hM hS (lv_sub hl [0, 1, 2, 3, 4] rfl)
  · have ic_3 := gz_ne (rfl : (st_1 3 0 1).toInt = (st_1 3 0 1).toInt) (by decide : (3 : Int32).toInt = 3) c_3
    refine lv_aload_n hx hb dX7_readNumber_12 rfl (lv_at hl 0 rfl) ?_
    refine gs_calli (va_runV (As := []) (rest := []) ⟨hx, hb, hml, hown, hts⟩ (s_X7_cannotCome l G cy sK sV ad H.size st_1 hB_st_1.1  ) ⟨(gz_cb (n := 0) hts gm_452 gm_3 gm_455 ⟨by decide +kernel, by decide +kernel, by decide +kernel⟩ ⟨Nat.le_of_ble_eq_true rfl, Nat.le_of_ble_eq_true rfl⟩), hts _ gm_454, hts _ gs_4⟩ (gs_preV hK hov hE hI hM hm hS hA 3 0 (by decide) rfl rfl) rfl rfl hl.1 rfl (lv_room (Nat.le_of_ble_eq_true rfl)) dX7_readNumber_13 ⟨Nat.le_of_ble_eq_true rfl, Nat.le_of_ble_eq_true rfl⟩) hm hS hA (fun r_15 st_15 H locs hw_15 hM hS => ?_)
    obtain ⟨n_15, hw_15⟩ := hw_15
    have hB_st_15 : gBN bX kX [301, 302, 303, 304, 305] st st_15 := hB_st_1.call n_15 (by decide)
    obtain rfl := hw_15
    refine lv_pop hx hb dX7_readNumber_16 rfl ?_
    refine lv_iconst (v := (-1)) hx hb dX7_readNumber_17 (by decide) ?_
    rw [← hQe]
    exact gs_iret hx hb hr hlocks hM hS rfl ⟨hB_st_15, (Or.inr ⟨by decide, gNum_no hw_1_0 (by omega)⟩)⟩ (by exact Nat.le_refl _) (by exact Nat.le_refl _) dX7_readNumber_18
