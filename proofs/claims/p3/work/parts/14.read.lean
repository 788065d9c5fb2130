theorem gm_10 : (Jvm.Cond.initialized "WellCourt$Law") ∈ gz_T := gz_at 10 (by decide +kernel) rfl
theorem gm_352 : (Jvm.Cond.static ({ cls := "WellCourt", name := "isWithin", desc := "(III)Z" } : Jvm.MethodName)) ∈ gz_T := gz_at 352 (by decide +kernel) rfl
theorem gm_353 : (Jvm.Cond.code ({ cls := "WellCourt", name := "isWithin", desc := "(III)Z" } : Jvm.MethodName) prog_1_method_29_code (3 : Nat) (Option.some Jvm.ClassFile.FieldType.boolean)) ∈ gz_T := gz_at 353 (by decide +kernel) rfl
theorem gm_367 : (Jvm.Cond.methodLink "WellCourt$Reader" (31 : Nat) ({ cls := "WellCourt$Reader", name := "advance", desc := "()V" } : Jvm.MethodName)) ∈ gz_T := gz_at 367 (by decide +kernel) rfl
theorem gm_369 : (Jvm.Cond.instanceMethod ({ cls := "WellCourt$Reader", name := "advance", desc := "()V" } : Jvm.MethodName)) ∈ gz_T := gz_at 369 (by decide +kernel) rfl
theorem gm_370 : (Jvm.Cond.code ({ cls := "WellCourt$Reader", name := "advance", desc := "()V" } : Jvm.MethodName) prog_9_method_17_code (2 : Nat) (Option.none : Option Jvm.ClassFile.FieldType)) ∈ gz_T := gz_at 370 (by decide +kernel) rfl
theorem gm_396 : (Jvm.Cond.methodLink "WellCourt$Reader" (52 : Nat) ({ cls := "WellCourt$Reader", name := "isWord", desc := "(Ljava/lang/String;)Z" } : Jvm.MethodName)) ∈ gz_T := gz_at 396 (by decide +kernel) rfl
theorem gm_398 : (Jvm.Cond.instanceMethod ({ cls := "WellCourt$Reader", name := "isWord", desc := "(Ljava/lang/String;)Z" } : Jvm.MethodName)) ∈ gz_T := gz_at 398 (by decide +kernel) rfl
theorem gm_399 : (Jvm.Cond.code ({ cls := "WellCourt$Reader", name := "isWord", desc := "(Ljava/lang/String;)Z" } : Jvm.MethodName) prog_9_method_16_code (3 : Nat) (Option.some Jvm.ClassFile.FieldType.boolean)) ∈ gz_T := gz_at 399 (by decide +kernel) rfl
theorem gm_400 : (Jvm.Cond.methodLink "WellCourt$Reader" (139 : Nat) ({ cls := "java/lang/String", name := "length", desc := "()I" } : Jvm.MethodName)) ∈ gz_T := gz_at 400 (by decide +kernel) rfl
theorem gm_401 : (Jvm.Cond.instanceMethod ({ cls := "java/lang/String", name := "length", desc := "()I" } : Jvm.MethodName)) ∈ gz_T := gz_at 401 (by decide +kernel) rfl
theorem gm_402 : (Jvm.Cond.selects "java/lang/String" ({ cls := "java/lang/String", name := "length", desc := "()I" } : Jvm.MethodName) ({ cls := "java/lang/String", name := "length", desc := "()I" } : Jvm.MethodName)) ∈ gz_T := gz_at 402 (by decide +kernel) rfl
theorem gm_403 : (Jvm.Cond.code ({ cls := "java/lang/String", name := "length", desc := "()I" } : Jvm.MethodName) prog_17_method_54_code (1 : Nat) (Option.some Jvm.ClassFile.FieldType.int)) ∈ gz_T := gz_at 403 (by decide +kernel) rfl
theorem gm_410 : (Jvm.Cond.methodLink "WellCourt$Reader" (145 : Nat) ({ cls := "java/lang/String", name := "charAt", desc := "(I)C" } : Jvm.MethodName)) ∈ gz_T := gz_at 410 (by decide +kernel) rfl
theorem gm_411 : (Jvm.Cond.instanceMethod ({ cls := "java/lang/String", name := "charAt", desc := "(I)C" } : Jvm.MethodName)) ∈ gz_T := gz_at 411 (by decide +kernel) rfl
theorem gm_412 : (Jvm.Cond.selects "java/lang/String" ({ cls := "java/lang/String", name := "charAt", desc := "(I)C" } : Jvm.MethodName) ({ cls := "java/lang/String", name := "charAt", desc := "(I)C" } : Jvm.MethodName)) ∈ gz_T := gz_at 412 (by decide +kernel) rfl
theorem gm_413 : (Jvm.Cond.code ({ cls := "java/lang/String", name := "charAt", desc := "(I)C" } : Jvm.MethodName) prog_17_method_56_code (2 : Nat) (Option.some Jvm.ClassFile.FieldType.char)) ∈ gz_T := gz_at 413 (by decide +kernel) rfl
theorem gm_452 : (Jvm.Cond.methodLink "WellCourt$Reader" (43 : Nat) ({ cls := "WellCourt$Reader", name := "cannotCome", desc := "()Z" } : Jvm.MethodName)) ∈ gz_T := gz_at 452 (by decide +kernel) rfl
theorem gm_454 : (Jvm.Cond.instanceMethod ({ cls := "WellCourt$Reader", name := "cannotCome", desc := "()Z" } : Jvm.MethodName)) ∈ gz_T := gz_at 454 (by decide +kernel) rfl
theorem gm_455 : (Jvm.Cond.code ({ cls := "WellCourt$Reader", name := "cannotCome", desc := "()Z" } : Jvm.MethodName) prog_9_method_13_code (1 : Nat) (Option.some Jvm.ClassFile.FieldType.boolean)) ∈ gz_T := gz_at 455 (by decide +kernel) rfl
theorem gm_464 : (Jvm.Cond.methodLink "WellCourt$Reader" (80 : Nat) ({ cls := "WellCourt$Reader", name := "readNumber", desc := "(II)I" } : Jvm.MethodName)) ∈ gz_T := gz_at 464 (by decide +kernel) rfl
theorem gm_466 : (Jvm.Cond.instanceMethod ({ cls := "WellCourt$Reader", name := "readNumber", desc := "(II)I" } : Jvm.MethodName)) ∈ gz_T := gz_at 466 (by decide +kernel) rfl
theorem gm_467 : (Jvm.Cond.code ({ cls := "WellCourt$Reader", name := "readNumber", desc := "(II)I" } : Jvm.MethodName) prog_9_method_12_code (5 : Nat) (Option.some Jvm.ClassFile.FieldType.int)) ∈ gz_T := gz_at 467 (by decide +kernel) rfl
theorem gm_469 : (Jvm.Cond.methodLink "WellCourt$Reader" (84 : Nat) ({ cls := "WellCourt$Law", name := "hasTurns", desc := "(I)Z" } : Jvm.MethodName)) ∈ gz_T := gz_at 469 (by decide +kernel) rfl
theorem gm_470 : (Jvm.Cond.instanceMethod ({ cls := "WellCourt$Law", name := "hasTurns", desc := "(I)Z" } : Jvm.MethodName)) ∈ gz_T := gz_at 470 (by decide +kernel) rfl
theorem gm_471 : (Jvm.Cond.selects "WellCourt$Law" ({ cls := "WellCourt$Law", name := "hasTurns", desc := "(I)Z" } : Jvm.MethodName) ({ cls := "WellCourt$Law", name := "hasTurns", desc := "(I)Z" } : Jvm.MethodName)) ∈ gz_T := gz_at 471 (by decide +kernel) rfl
theorem gm_472 : (Jvm.Cond.code ({ cls := "WellCourt$Law", name := "hasTurns", desc := "(I)Z" } : Jvm.MethodName) prog_6_method_3_code (2 : Nat) (Option.some Jvm.ClassFile.FieldType.boolean)) ∈ gz_T := gz_at 472 (by decide +kernel) rfl
theorem gm_473 : (Jvm.Cond.methodLink "WellCourt$Reader" (87 : Nat) ({ cls := "WellCourt$Reader", name := "readSign", desc := "(C)Z" } : Jvm.MethodName)) ∈ gz_T := gz_at 473 (by decide +kernel) rfl
theorem gm_475 : (Jvm.Cond.instanceMethod ({ cls := "WellCourt$Reader", name := "readSign", desc := "(C)Z" } : Jvm.MethodName)) ∈ gz_T := gz_at 475 (by decide +kernel) rfl
theorem gm_476 : (Jvm.Cond.code ({ cls := "WellCourt$Reader", name := "readSign", desc := "(C)Z" } : Jvm.MethodName) prog_9_method_9_code (2 : Nat) (Option.some Jvm.ClassFile.FieldType.boolean)) ∈ gz_T := gz_at 476 (by decide +kernel) rfl
theorem gm_477 : (Jvm.Cond.methodLink "WellCourt$Reader" (99 : Nat) ({ cls := "WellCourt$Reader", name := "isSign", desc := "(C)Z" } : Jvm.MethodName)) ∈ gz_T := gz_at 477 (by decide +kernel) rfl
theorem gm_479 : (Jvm.Cond.instanceMethod ({ cls := "WellCourt$Reader", name := "isSign", desc := "(C)Z" } : Jvm.MethodName)) ∈ gz_T := gz_at 479 (by decide +kernel) rfl
theorem gm_480 : (Jvm.Cond.code ({ cls := "WellCourt$Reader", name := "isSign", desc := "(C)Z" } : Jvm.MethodName) prog_9_method_15_code (2 : Nat) (Option.some Jvm.ClassFile.FieldType.boolean)) ∈ gz_T := gz_at 480 (by decide +kernel) rfl
theorem gm_481 : (Jvm.Cond.methodLink "WellCourt$Reader" (91 : Nat) ({ cls := "WellCourt$Reader", name := "readClan", desc := "(I)I" } : Jvm.MethodName)) ∈ gz_T := gz_at 481 (by decide +kernel) rfl
theorem gm_483 : (Jvm.Cond.instanceMethod ({ cls := "WellCourt$Reader", name := "readClan", desc := "(I)I" } : Jvm.MethodName)) ∈ gz_T := gz_at 483 (by decide +kernel) rfl
theorem gm_484 : (Jvm.Cond.code ({ cls := "WellCourt$Reader", name := "readClan", desc := "(I)I" } : Jvm.MethodName) prog_9_method_11_code (3 : Nat) (Option.some Jvm.ClassFile.FieldType.int)) ∈ gz_T := gz_at 484 (by decide +kernel) rfl
theorem gm_488 : (Jvm.Cond.methodLink "WellCourt$Reader" (95 : Nat) ({ cls := "WellCourt$Law", name := "addTurn", desc := "(III)V" } : Jvm.MethodName)) ∈ gz_T := gz_at 488 (by decide +kernel) rfl
theorem gm_489 : (Jvm.Cond.instanceMethod ({ cls := "WellCourt$Law", name := "addTurn", desc := "(III)V" } : Jvm.MethodName)) ∈ gz_T := gz_at 489 (by decide +kernel) rfl
theorem gm_490 : (Jvm.Cond.selects "WellCourt$Law" ({ cls := "WellCourt$Law", name := "addTurn", desc := "(III)V" } : Jvm.MethodName) ({ cls := "WellCourt$Law", name := "addTurn", desc := "(III)V" } : Jvm.MethodName)) ∈ gz_T := gz_at 490 (by decide +kernel) rfl
theorem gm_491 : (Jvm.Cond.code ({ cls := "WellCourt$Law", name := "addTurn", desc := "(III)V" } : Jvm.MethodName) prog_6_method_4_code (5 : Nat) (Option.none : Option Jvm.ClassFile.FieldType)) ∈ gz_T := gz_at 491 (by decide +kernel) rfl
theorem gm_497 : (Jvm.Cond.methodLink "WellCourt$Reader" (104 : Nat) ({ cls := "WellCourt$Reader", name := "readWord", desc := "(Ljava/lang/String;)Z" } : Jvm.MethodName)) ∈ gz_T := gz_at 497 (by decide +kernel) rfl
theorem gm_499 : (Jvm.Cond.instanceMethod ({ cls := "WellCourt$Reader", name := "readWord", desc := "(Ljava/lang/String;)Z" } : Jvm.MethodName)) ∈ gz_T := gz_at 499 (by decide +kernel) rfl
theorem gm_500 : (Jvm.Cond.code ({ cls := "WellCourt$Reader", name := "readWord", desc := "(Ljava/lang/String;)Z" } : Jvm.MethodName) prog_9_method_10_code (2 : Nat) (Option.some Jvm.ClassFile.FieldType.boolean)) ∈ gz_T := gz_at 500 (by decide +kernel) rfl
theorem gm_502 : (Jvm.Cond.methodLink "WellCourt$Reader" (109 : Nat) ({ cls := "WellCourt$Law", name := "addGuest", desc := "(IIII)V" } : Jvm.MethodName)) ∈ gz_T := gz_at 502 (by decide +kernel) rfl
theorem gm_503 : (Jvm.Cond.instanceMethod ({ cls := "WellCourt$Law", name := "addGuest", desc := "(IIII)V" } : Jvm.MethodName)) ∈ gz_T := gz_at 503 (by decide +kernel) rfl
theorem gm_504 : (Jvm.Cond.selects "WellCourt$Law" ({ cls := "WellCourt$Law", name := "addGuest", desc := "(IIII)V" } : Jvm.MethodName) ({ cls := "WellCourt$Law", name := "addGuest", desc := "(IIII)V" } : Jvm.MethodName)) ∈ gz_T := gz_at 504 (by decide +kernel) rfl
theorem gm_505 : (Jvm.Cond.code ({ cls := "WellCourt$Law", name := "addGuest", desc := "(IIII)V" } : Jvm.MethodName) prog_6_method_8_code (5 : Nat) (Option.none : Option Jvm.ClassFile.FieldType)) ∈ gz_T := gz_at 505 (by decide +kernel) rfl
theorem gm_510 : (Jvm.Cond.methodLink "WellCourt$Reader" (113 : Nat) ({ cls := "WellCourt$Law", name := "addWed", desc := "(II)V" } : Jvm.MethodName)) ∈ gz_T := gz_at 510 (by decide +kernel) rfl
theorem gm_511 : (Jvm.Cond.instanceMethod ({ cls := "WellCourt$Law", name := "addWed", desc := "(II)V" } : Jvm.MethodName)) ∈ gz_T := gz_at 511 (by decide +kernel) rfl
theorem gm_512 : (Jvm.Cond.selects "WellCourt$Law" ({ cls := "WellCourt$Law", name := "addWed", desc := "(II)V" } : Jvm.MethodName) ({ cls := "WellCourt$Law", name := "addWed", desc := "(II)V" } : Jvm.MethodName)) ∈ gz_T := gz_at 512 (by decide +kernel) rfl
theorem gm_513 : (Jvm.Cond.code ({ cls := "WellCourt$Law", name := "addWed", desc := "(II)V" } : Jvm.MethodName) prog_6_method_5_code (3 : Nat) (Option.none : Option Jvm.ClassFile.FieldType)) ∈ gz_T := gz_at 513 (by decide +kernel) rfl
theorem gm_519 : (Jvm.Cond.methodLink "WellCourt$Reader" (119 : Nat) ({ cls := "WellCourt$Law", name := "addDrought", desc := "(III)V" } : Jvm.MethodName)) ∈ gz_T := gz_at 519 (by decide +kernel) rfl
theorem gm_520 : (Jvm.Cond.instanceMethod ({ cls := "WellCourt$Law", name := "addDrought", desc := "(III)V" } : Jvm.MethodName)) ∈ gz_T := gz_at 520 (by decide +kernel) rfl
theorem gm_521 : (Jvm.Cond.selects "WellCourt$Law" ({ cls := "WellCourt$Law", name := "addDrought", desc := "(III)V" } : Jvm.MethodName) ({ cls := "WellCourt$Law", name := "addDrought", desc := "(III)V" } : Jvm.MethodName)) ∈ gz_T := gz_at 521 (by decide +kernel) rfl
theorem gm_522 : (Jvm.Cond.code ({ cls := "WellCourt$Law", name := "addDrought", desc := "(III)V" } : Jvm.MethodName) prog_6_method_7_code (4 : Nat) (Option.none : Option Jvm.ClassFile.FieldType)) ∈ gz_T := gz_at 522 (by decide +kernel) rfl
theorem gm_528 : (Jvm.Cond.methodLink "WellCourt$Reader" (124 : Nat) ({ cls := "WellCourt$Law", name := "addDry", desc := "(II)V" } : Jvm.MethodName)) ∈ gz_T := gz_at 528 (by decide +kernel) rfl
theorem gm_529 : (Jvm.Cond.instanceMethod ({ cls := "WellCourt$Law", name := "addDry", desc := "(II)V" } : Jvm.MethodName)) ∈ gz_T := gz_at 529 (by decide +kernel) rfl
theorem gm_530 : (Jvm.Cond.selects "WellCourt$Law" ({ cls := "WellCourt$Law", name := "addDry", desc := "(II)V" } : Jvm.MethodName) ({ cls := "WellCourt$Law", name := "addDry", desc := "(II)V" } : Jvm.MethodName)) ∈ gz_T := gz_at 530 (by decide +kernel) rfl
theorem gm_531 : (Jvm.Cond.code ({ cls := "WellCourt$Law", name := "addDry", desc := "(II)V" } : Jvm.MethodName) prog_6_method_6_code (3 : Nat) (Option.none : Option Jvm.ClassFile.FieldType)) ∈ gz_T := gz_at 531 (by decide +kernel) rfl
theorem gn_468 : (Jvm.Cond.methodLinkNest "WellCourt$Reader" (135 : Nat) ({ cls := "WellCourt", name := "isWithin", desc := "(III)Z" } : Jvm.MethodName) "WellCourt") ∈ gzN := gz_nest 468 (by decide +kernel) rfl
theorem gn_485 : (Jvm.Cond.methodLinkNest "WellCourt$Reader" (132 : Nat) ({ cls := "WellCourt", name := "isClan", desc := "(I)Z" } : Jvm.MethodName) "WellCourt") ∈ gzN := gz_nest 485 (by decide +kernel) rfl
theorem gs_0 : (Jvm.Cond.selects "WellCourt$Reader" ({ cls := "WellCourt$Reader", name := "advance", desc := "()V" } : Jvm.MethodName) ({ cls := "WellCourt$Reader", name := "advance", desc := "()V" } : Jvm.MethodName)) ∈ gz_T := gz_sel 0 (by decide +kernel) rfl
theorem gs_3 : (Jvm.Cond.selects "WellCourt$Reader" ({ cls := "WellCourt$Reader", name := "isWord", desc := "(Ljava/lang/String;)Z" } : Jvm.MethodName) ({ cls := "WellCourt$Reader", name := "isWord", desc := "(Ljava/lang/String;)Z" } : Jvm.MethodName)) ∈ gz_T := gz_sel 3 (by decide +kernel) rfl
theorem gs_4 : (Jvm.Cond.selects "WellCourt$Reader" ({ cls := "WellCourt$Reader", name := "cannotCome", desc := "()Z" } : Jvm.MethodName) ({ cls := "WellCourt$Reader", name := "cannotCome", desc := "()Z" } : Jvm.MethodName)) ∈ gz_T := gz_sel 4 (by decide +kernel) rfl
theorem gs_7 : (Jvm.Cond.selects "WellCourt$Reader" ({ cls := "WellCourt$Reader", name := "readNumber", desc := "(II)I" } : Jvm.MethodName) ({ cls := "WellCourt$Reader", name := "readNumber", desc := "(II)I" } : Jvm.MethodName)) ∈ gz_T := gz_sel 7 (by decide +kernel) rfl
theorem gs_8 : (Jvm.Cond.selects "WellCourt$Reader" ({ cls := "WellCourt$Reader", name := "readSign", desc := "(C)Z" } : Jvm.MethodName) ({ cls := "WellCourt$Reader", name := "readSign", desc := "(C)Z" } : Jvm.MethodName)) ∈ gz_T := gz_sel 8 (by decide +kernel) rfl
theorem gs_9 : (Jvm.Cond.selects "WellCourt$Reader" ({ cls := "WellCourt$Reader", name := "isSign", desc := "(C)Z" } : Jvm.MethodName) ({ cls := "WellCourt$Reader", name := "isSign", desc := "(C)Z" } : Jvm.MethodName)) ∈ gz_T := gz_sel 9 (by decide +kernel) rfl
theorem gs_10 : (Jvm.Cond.selects "WellCourt$Reader" ({ cls := "WellCourt$Reader", name := "readClan", desc := "(I)I" } : Jvm.MethodName) ({ cls := "WellCourt$Reader", name := "readClan", desc := "(I)I" } : Jvm.MethodName)) ∈ gz_T := gz_sel 10 (by decide +kernel) rfl
theorem gs_12 : (Jvm.Cond.selects "WellCourt$Reader" ({ cls := "WellCourt$Reader", name := "readWord", desc := "(Ljava/lang/String;)Z" } : Jvm.MethodName) ({ cls := "WellCourt$Reader", name := "readWord", desc := "(Ljava/lang/String;)Z" } : Jvm.MethodName)) ∈ gz_T := gz_sel 12 (by decide +kernel) rfl
theorem dX7_isRuleWord_0 : decode cX7_isRuleWord 0 = .ok (.aload_n 0, 1) := by decide +kernel
theorem dX7_isRuleWord_1 : decode cX7_isRuleWord 1 = .ok (.ldc 50, 2) := by decide +kernel
theorem dX7_isRuleWord_3 : decode cX7_isRuleWord 3 = .ok (.invokevirtual 52, 3) := by decide +kernel
theorem dX7_isRuleWord_6 : decode cX7_isRuleWord 6 = .ok (.ifCond .ne 39, 3) := by decide +kernel
theorem dX7_isRuleWord_9 : decode cX7_isRuleWord 9 = .ok (.aload_n 0, 1) := by decide +kernel
theorem dX7_isRuleWord_10 : decode cX7_isRuleWord 10 = .ok (.ldc 60, 2) := by decide +kernel
theorem dX7_isRuleWord_12 : decode cX7_isRuleWord 12 = .ok (.invokevirtual 52, 3) := by decide +kernel
theorem dX7_isRuleWord_15 : decode cX7_isRuleWord 15 = .ok (.ifCond .ne 30, 3) := by decide +kernel
theorem dX7_isRuleWord_18 : decode cX7_isRuleWord 18 = .ok (.aload_n 0, 1) := by decide +kernel
theorem dX7_isRuleWord_19 : decode cX7_isRuleWord 19 = .ok (.ldc 65, 2) := by decide +kernel
theorem dX7_isRuleWord_21 : decode cX7_isRuleWord 21 = .ok (.invokevirtual 52, 3) := by decide +kernel
theorem dX7_isRuleWord_24 : decode cX7_isRuleWord 24 = .ok (.ifCond .ne 21, 3) := by decide +kernel
theorem dX7_isRuleWord_27 : decode cX7_isRuleWord 27 = .ok (.aload_n 0, 1) := by decide +kernel
theorem dX7_isRuleWord_28 : decode cX7_isRuleWord 28 = .ok (.ldc 70, 2) := by decide +kernel
theorem dX7_isRuleWord_30 : decode cX7_isRuleWord 30 = .ok (.invokevirtual 52, 3) := by decide +kernel
theorem dX7_isRuleWord_33 : decode cX7_isRuleWord 33 = .ok (.ifCond .ne 12, 3) := by decide +kernel
theorem dX7_isRuleWord_36 : decode cX7_isRuleWord 36 = .ok (.aload_n 0, 1) := by decide +kernel
theorem dX7_isRuleWord_37 : decode cX7_isRuleWord 37 = .ok (.ldc 78, 2) := by decide +kernel
theorem dX7_isRuleWord_39 : decode cX7_isRuleWord 39 = .ok (.invokevirtual 52, 3) := by decide +kernel
theorem dX7_isRuleWord_42 : decode cX7_isRuleWord 42 = .ok (.ifCond .eq 7, 3) := by decide +kernel
theorem dX7_isRuleWord_45 : decode cX7_isRuleWord 45 = .ok (.iconst 1, 1) := by decide +kernel
theorem dX7_isRuleWord_46 : decode cX7_isRuleWord 46 = .ok (.goto 4, 3) := by decide +kernel
theorem dX7_isRuleWord_49 : decode cX7_isRuleWord 49 = .ok (.iconst 0, 1) := by decide +kernel
theorem dX7_isRuleWord_50 : decode cX7_isRuleWord 50 = .ok (.ireturn, 1) := by decide +kernel
theorem dX7_isWord_0 : decode cX7_isWord 0 = .ok (.aload_n 0, 1) := by decide +kernel
theorem dX7_isWord_1 : decode cX7_isWord 1 = .ok (.getfield 11, 3) := by decide +kernel
theorem dX7_isWord_4 : decode cX7_isWord 4 = .ok (.iconst 2, 1) := by decide +kernel
theorem dX7_isWord_5 : decode cX7_isWord 5 = .ok (.if_icmp .ne 19, 3) := by decide +kernel
theorem dX7_isWord_8 : decode cX7_isWord 8 = .ok (.aload_n 0, 1) := by decide +kernel
theorem dX7_isWord_9 : decode cX7_isWord 9 = .ok (.getfield 18, 3) := by decide +kernel
theorem dX7_isWord_12 : decode cX7_isWord 12 = .ok (.aload_n 0, 1) := by decide +kernel
theorem dX7_isWord_13 : decode cX7_isWord 13 = .ok (.getfield 15, 3) := by decide +kernel
theorem dX7_isWord_16 : decode cX7_isWord 16 = .ok (.isub, 1) := by decide +kernel
theorem dX7_isWord_17 : decode cX7_isWord 17 = .ok (.aload_n 1, 1) := by decide +kernel
theorem dX7_isWord_18 : decode cX7_isWord 18 = .ok (.invokevirtual 139, 3) := by decide +kernel
theorem dX7_isWord_21 : decode cX7_isWord 21 = .ok (.if_icmp .eq 5, 3) := by decide +kernel
theorem dX7_isWord_24 : decode cX7_isWord 24 = .ok (.iconst 0, 1) := by decide +kernel
theorem dX7_isWord_25 : decode cX7_isWord 25 = .ok (.ireturn, 1) := by decide +kernel
theorem dX7_isWord_26 : decode cX7_isWord 26 = .ok (.iconst 0, 1) := by decide +kernel
theorem dX7_isWord_27 : decode cX7_isWord 27 = .ok (.istore_n 2, 1) := by decide +kernel
theorem dX7_isWord_28 : decode cX7_isWord 28 = .ok (.iload_n 2, 1) := by decide +kernel
theorem dX7_isWord_29 : decode cX7_isWord 29 = .ok (.aload_n 1, 1) := by decide +kernel
theorem dX7_isWord_30 : decode cX7_isWord 30 = .ok (.invokevirtual 139, 3) := by decide +kernel
theorem dX7_isWord_33 : decode cX7_isWord 33 = .ok (.if_icmp .ge 32, 3) := by decide +kernel
theorem dX7_isWord_36 : decode cX7_isWord 36 = .ok (.aload_n 0, 1) := by decide +kernel
theorem dX7_isWord_37 : decode cX7_isWord 37 = .ok (.getfield 27, 3) := by decide +kernel
theorem dX7_isWord_40 : decode cX7_isWord 40 = .ok (.aload_n 0, 1) := by decide +kernel
theorem dX7_isWord_41 : decode cX7_isWord 41 = .ok (.getfield 15, 3) := by decide +kernel
theorem dX7_isWord_44 : decode cX7_isWord 44 = .ok (.iload_n 2, 1) := by decide +kernel
theorem dX7_isWord_45 : decode cX7_isWord 45 = .ok (.iadd, 1) := by decide +kernel
theorem dX7_isWord_46 : decode cX7_isWord 46 = .ok (.invokevirtual 127, 3) := by decide +kernel
theorem dX7_isWord_49 : decode cX7_isWord 49 = .ok (.aload_n 1, 1) := by decide +kernel
theorem dX7_isWord_50 : decode cX7_isWord 50 = .ok (.iload_n 2, 1) := by decide +kernel
theorem dX7_isWord_51 : decode cX7_isWord 51 = .ok (.invokevirtual 145, 3) := by decide +kernel
theorem dX7_isWord_54 : decode cX7_isWord 54 = .ok (.if_icmp .eq 5, 3) := by decide +kernel
theorem dX7_isWord_57 : decode cX7_isWord 57 = .ok (.iconst 0, 1) := by decide +kernel
theorem dX7_isWord_58 : decode cX7_isWord 58 = .ok (.ireturn, 1) := by decide +kernel
theorem dX7_isWord_59 : decode cX7_isWord 59 = .ok (.iinc 2 1, 3) := by decide +kernel
theorem dX7_isWord_62 : decode cX7_isWord 62 = .ok (.goto (-34), 3) := by decide +kernel
theorem dX7_isWord_65 : decode cX7_isWord 65 = .ok (.iconst 1, 1) := by decide +kernel
theorem dX7_isWord_66 : decode cX7_isWord 66 = .ok (.ireturn, 1) := by decide +kernel
theorem dX7_readClan_0 : decode cX7_readClan 0 = .ok (.aload_n 0, 1) := by decide +kernel
theorem dX7_readClan_1 : decode cX7_readClan 1 = .ok (.invokevirtual 31, 3) := by decide +kernel
theorem dX7_readClan_4 : decode cX7_readClan 4 = .ok (.aload_n 0, 1) := by decide +kernel
theorem dX7_readClan_5 : decode cX7_readClan 5 = .ok (.getfield 11, 3) := by decide +kernel
theorem dX7_readClan_8 : decode cX7_readClan 8 = .ok (.iconst 2, 1) := by decide +kernel
theorem dX7_readClan_9 : decode cX7_readClan 9 = .ok (.if_icmp .ne 33, 3) := by decide +kernel
theorem dX7_readClan_12 : decode cX7_readClan 12 = .ok (.aload_n 0, 1) := by decide +kernel
theorem dX7_readClan_13 : decode cX7_readClan 13 = .ok (.getfield 18, 3) := by decide +kernel
theorem dX7_readClan_16 : decode cX7_readClan 16 = .ok (.aload_n 0, 1) := by decide +kernel
theorem dX7_readClan_17 : decode cX7_readClan 17 = .ok (.getfield 15, 3) := by decide +kernel
theorem dX7_readClan_20 : decode cX7_readClan 20 = .ok (.isub, 1) := by decide +kernel
theorem dX7_readClan_21 : decode cX7_readClan 21 = .ok (.iconst 1, 1) := by decide +kernel
theorem dX7_readClan_22 : decode cX7_readClan 22 = .ok (.if_icmp .ne 20, 3) := by decide +kernel
theorem dX7_readClan_25 : decode cX7_readClan 25 = .ok (.aload_n 0, 1) := by decide +kernel
theorem dX7_readClan_26 : decode cX7_readClan 26 = .ok (.getfield 27, 3) := by decide +kernel
theorem dX7_readClan_29 : decode cX7_readClan 29 = .ok (.aload_n 0, 1) := by decide +kernel
theorem dX7_readClan_30 : decode cX7_readClan 30 = .ok (.getfield 15, 3) := by decide +kernel
theorem dX7_readClan_33 : decode cX7_readClan 33 = .ok (.invokevirtual 127, 3) := by decide +kernel
theorem dX7_readClan_36 : decode cX7_readClan 36 = .ok (.bipush 97, 2) := by decide +kernel
theorem dX7_readClan_38 : decode cX7_readClan 38 = .ok (.isub, 1) := by decide +kernel
theorem dX7_readClan_39 : decode cX7_readClan 39 = .ok (.goto 4, 3) := by decide +kernel
theorem dX7_readClan_42 : decode cX7_readClan 42 = .ok (.iconst (-1), 1) := by decide +kernel
theorem dX7_readClan_43 : decode cX7_readClan 43 = .ok (.istore_n 2, 1) := by decide +kernel
theorem dX7_readClan_44 : decode cX7_readClan 44 = .ok (.iload_n 2, 1) := by decide +kernel
theorem dX7_readClan_45 : decode cX7_readClan 45 = .ok (.invokestatic 132, 3) := by decide +kernel
theorem dX7_readClan_48 : decode cX7_readClan 48 = .ok (.ifCond .ne 10, 3) := by decide +kernel
theorem dX7_readClan_51 : decode cX7_readClan 51 = .ok (.aload_n 0, 1) := by decide +kernel
theorem dX7_readClan_52 : decode cX7_readClan 52 = .ok (.invokevirtual 43, 3) := by decide +kernel
theorem dX7_readClan_55 : decode cX7_readClan 55 = .ok (.pop, 1) := by decide +kernel
theorem dX7_readClan_56 : decode cX7_readClan 56 = .ok (.iconst (-1), 1) := by decide +kernel
theorem dX7_readClan_57 : decode cX7_readClan 57 = .ok (.ireturn, 1) := by decide +kernel
theorem dX7_readClan_58 : decode cX7_readClan 58 = .ok (.iload_n 2, 1) := by decide +kernel
theorem dX7_readClan_59 : decode cX7_readClan 59 = .ok (.iload_n 1, 1) := by decide +kernel
theorem dX7_readClan_60 : decode cX7_readClan 60 = .ok (.if_icmp .ne 11, 3) := by decide +kernel
theorem dX7_readClan_63 : decode cX7_readClan 63 = .ok (.aload_n 0, 1) := by decide +kernel
theorem dX7_readClan_64 : decode cX7_readClan 64 = .ok (.iconst 3, 1) := by decide +kernel
theorem dX7_readClan_65 : decode cX7_readClan 65 = .ok (.invokevirtual 46, 3) := by decide +kernel
theorem dX7_readClan_68 : decode cX7_readClan 68 = .ok (.pop, 1) := by decide +kernel
theorem dX7_readClan_69 : decode cX7_readClan 69 = .ok (.iconst (-1), 1) := by decide +kernel
theorem dX7_readClan_70 : decode cX7_readClan 70 = .ok (.ireturn, 1) := by decide +kernel
theorem dX7_readClan_71 : decode cX7_readClan 71 = .ok (.iload_n 2, 1) := by decide +kernel
theorem dX7_readClan_72 : decode cX7_readClan 72 = .ok (.ireturn, 1) := by decide +kernel
theorem dX7_readDrought_0 : decode cX7_readDrought 0 = .ok (.aload_n 0, 1) := by decide +kernel
theorem dX7_readDrought_1 : decode cX7_readDrought 1 = .ok (.iconst 0, 1) := by decide +kernel
theorem dX7_readDrought_2 : decode cX7_readDrought 2 = .ok (.iconst 5, 1) := by decide +kernel
theorem dX7_readDrought_3 : decode cX7_readDrought 3 = .ok (.invokevirtual 80, 3) := by decide +kernel
theorem dX7_readDrought_6 : decode cX7_readDrought 6 = .ok (.istore_n 2, 1) := by decide +kernel
theorem dX7_readDrought_7 : decode cX7_readDrought 7 = .ok (.iload_n 2, 1) := by decide +kernel
theorem dX7_readDrought_8 : decode cX7_readDrought 8 = .ok (.iconst (-1), 1) := by decide +kernel
theorem dX7_readDrought_9 : decode cX7_readDrought 9 = .ok (.if_icmp .eq 12, 3) := by decide +kernel
theorem dX7_readDrought_12 : decode cX7_readDrought 12 = .ok (.aload_n 0, 1) := by decide +kernel
theorem dX7_readDrought_13 : decode cX7_readDrought 13 = .ok (.ldc 117, 2) := by decide +kernel
theorem dX7_readDrought_15 : decode cX7_readDrought 15 = .ok (.invokevirtual 104, 3) := by decide +kernel
theorem dX7_readDrought_18 : decode cX7_readDrought 18 = .ok (.ifCond .ne 5, 3) := by decide +kernel
theorem dX7_readDrought_21 : decode cX7_readDrought 21 = .ok (.iconst 0, 1) := by decide +kernel
theorem dX7_readDrought_22 : decode cX7_readDrought 22 = .ok (.ireturn, 1) := by decide +kernel
theorem dX7_readDrought_23 : decode cX7_readDrought 23 = .ok (.aload_n 0, 1) := by decide +kernel
theorem dX7_readDrought_24 : decode cX7_readDrought 24 = .ok (.iconst 0, 1) := by decide +kernel
theorem dX7_readDrought_25 : decode cX7_readDrought 25 = .ok (.sipush 1000, 3) := by decide +kernel
theorem dX7_readDrought_28 : decode cX7_readDrought 28 = .ok (.invokevirtual 80, 3) := by decide +kernel
theorem dX7_readDrought_31 : decode cX7_readDrought 31 = .ok (.istore_n 3, 1) := by decide +kernel
theorem dX7_readDrought_32 : decode cX7_readDrought 32 = .ok (.iload_n 3, 1) := by decide +kernel
theorem dX7_readDrought_33 : decode cX7_readDrought 33 = .ok (.iconst (-1), 1) := by decide +kernel
theorem dX7_readDrought_34 : decode cX7_readDrought 34 = .ok (.if_icmp .ne 5, 3) := by decide +kernel
theorem dX7_readDrought_37 : decode cX7_readDrought 37 = .ok (.iconst 0, 1) := by decide +kernel
theorem dX7_readDrought_38 : decode cX7_readDrought 38 = .ok (.ireturn, 1) := by decide +kernel
theorem dX7_readDrought_39 : decode cX7_readDrought 39 = .ok (.aload_n 0, 1) := by decide +kernel
theorem dX7_readDrought_40 : decode cX7_readDrought 40 = .ok (.iconst (-1), 1) := by decide +kernel
theorem dX7_readDrought_41 : decode cX7_readDrought 41 = .ok (.invokevirtual 91, 3) := by decide +kernel
theorem dX7_readDrought_44 : decode cX7_readDrought 44 = .ok (.istore 4, 2) := by decide +kernel
theorem dX7_readDrought_46 : decode cX7_readDrought 46 = .ok (.iload 4, 2) := by decide +kernel
theorem dX7_readDrought_48 : decode cX7_readDrought 48 = .ok (.iconst (-1), 1) := by decide +kernel
theorem dX7_readDrought_49 : decode cX7_readDrought 49 = .ok (.if_icmp .eq 12, 3) := by decide +kernel
theorem dX7_readDrought_52 : decode cX7_readDrought 52 = .ok (.aload_n 0, 1) := by decide +kernel
theorem dX7_readDrought_53 : decode cX7_readDrought 53 = .ok (.bipush 59, 2) := by decide +kernel
theorem dX7_readDrought_55 : decode cX7_readDrought 55 = .ok (.invokevirtual 87, 3) := by decide +kernel
theorem dX7_readDrought_58 : decode cX7_readDrought 58 = .ok (.ifCond .ne 5, 3) := by decide +kernel
theorem dX7_readDrought_61 : decode cX7_readDrought 61 = .ok (.iconst 0, 1) := by decide +kernel
theorem dX7_readDrought_62 : decode cX7_readDrought 62 = .ok (.ireturn, 1) := by decide +kernel
theorem dX7_readDrought_63 : decode cX7_readDrought 63 = .ok (.aload_n 1, 1) := by decide +kernel
theorem dX7_readDrought_64 : decode cX7_readDrought 64 = .ok (.iload_n 2, 1) := by decide +kernel
theorem dX7_readDrought_65 : decode cX7_readDrought 65 = .ok (.iload_n 3, 1) := by decide +kernel
theorem dX7_readDrought_66 : decode cX7_readDrought 66 = .ok (.iload 4, 2) := by decide +kernel
theorem dX7_readDrought_68 : decode cX7_readDrought 68 = .ok (.invokevirtual 119, 3) := by decide +kernel
theorem dX7_readDrought_71 : decode cX7_readDrought 71 = .ok (.iconst 1, 1) := by decide +kernel
theorem dX7_readDrought_72 : decode cX7_readDrought 72 = .ok (.ireturn, 1) := by decide +kernel
theorem dX7_readDry_0 : decode cX7_readDry 0 = .ok (.aload_n 0, 1) := by decide +kernel
theorem dX7_readDry_1 : decode cX7_readDry 1 = .ok (.iconst 0, 1) := by decide +kernel
theorem dX7_readDry_2 : decode cX7_readDry 2 = .ok (.iconst 5, 1) := by decide +kernel
theorem dX7_readDry_3 : decode cX7_readDry 3 = .ok (.invokevirtual 80, 3) := by decide +kernel
theorem dX7_readDry_6 : decode cX7_readDry 6 = .ok (.istore_n 2, 1) := by decide +kernel
theorem dX7_readDry_7 : decode cX7_readDry 7 = .ok (.iload_n 2, 1) := by decide +kernel
theorem dX7_readDry_8 : decode cX7_readDry 8 = .ok (.iconst (-1), 1) := by decide +kernel
theorem dX7_readDry_9 : decode cX7_readDry 9 = .ok (.if_icmp .eq 12, 3) := by decide +kernel
theorem dX7_readDry_12 : decode cX7_readDry 12 = .ok (.aload_n 0, 1) := by decide +kernel
theorem dX7_readDry_13 : decode cX7_readDry 13 = .ok (.ldc 122, 2) := by decide +kernel
theorem dX7_readDry_15 : decode cX7_readDry 15 = .ok (.invokevirtual 104, 3) := by decide +kernel
theorem dX7_readDry_18 : decode cX7_readDry 18 = .ok (.ifCond .ne 5, 3) := by decide +kernel
theorem dX7_readDry_21 : decode cX7_readDry 21 = .ok (.iconst 0, 1) := by decide +kernel
theorem dX7_readDry_22 : decode cX7_readDry 22 = .ok (.ireturn, 1) := by decide +kernel
theorem dX7_readDry_23 : decode cX7_readDry 23 = .ok (.aload_n 0, 1) := by decide +kernel
theorem dX7_readDry_24 : decode cX7_readDry 24 = .ok (.iconst 0, 1) := by decide +kernel
theorem dX7_readDry_25 : decode cX7_readDry 25 = .ok (.iconst 5, 1) := by decide +kernel
theorem dX7_readDry_26 : decode cX7_readDry 26 = .ok (.invokevirtual 80, 3) := by decide +kernel
theorem dX7_readDry_29 : decode cX7_readDry 29 = .ok (.istore_n 3, 1) := by decide +kernel
theorem dX7_readDry_30 : decode cX7_readDry 30 = .ok (.iload_n 3, 1) := by decide +kernel
theorem dX7_readDry_31 : decode cX7_readDry 31 = .ok (.iconst (-1), 1) := by decide +kernel
theorem dX7_readDry_32 : decode cX7_readDry 32 = .ok (.if_icmp .ne 5, 3) := by decide +kernel
theorem dX7_readDry_35 : decode cX7_readDry 35 = .ok (.iconst 0, 1) := by decide +kernel
theorem dX7_readDry_36 : decode cX7_readDry 36 = .ok (.ireturn, 1) := by decide +kernel
theorem dX7_readDry_37 : decode cX7_readDry 37 = .ok (.iload_n 3, 1) := by decide +kernel
theorem dX7_readDry_38 : decode cX7_readDry 38 = .ok (.iload_n 2, 1) := by decide +kernel
theorem dX7_readDry_39 : decode cX7_readDry 39 = .ok (.if_icmp .ne 9, 3) := by decide +kernel
theorem dX7_readDry_42 : decode cX7_readDry 42 = .ok (.aload_n 0, 1) := by decide +kernel
theorem dX7_readDry_43 : decode cX7_readDry 43 = .ok (.iconst 3, 1) := by decide +kernel
theorem dX7_readDry_44 : decode cX7_readDry 44 = .ok (.invokevirtual 46, 3) := by decide +kernel
theorem dX7_readDry_47 : decode cX7_readDry 47 = .ok (.ireturn, 1) := by decide +kernel
theorem dX7_readDry_48 : decode cX7_readDry 48 = .ok (.aload_n 0, 1) := by decide +kernel
theorem dX7_readDry_49 : decode cX7_readDry 49 = .ok (.bipush 59, 2) := by decide +kernel
theorem dX7_readDry_51 : decode cX7_readDry 51 = .ok (.invokevirtual 87, 3) := by decide +kernel
theorem dX7_readDry_54 : decode cX7_readDry 54 = .ok (.ifCond .ne 5, 3) := by decide +kernel
theorem dX7_readDry_57 : decode cX7_readDry 57 = .ok (.iconst 0, 1) := by decide +kernel
theorem dX7_readDry_58 : decode cX7_readDry 58 = .ok (.ireturn, 1) := by decide +kernel
theorem dX7_readDry_59 : decode cX7_readDry 59 = .ok (.aload_n 1, 1) := by decide +kernel
theorem dX7_readDry_60 : decode cX7_readDry 60 = .ok (.iload_n 2, 1) := by decide +kernel
theorem dX7_readDry_61 : decode cX7_readDry 61 = .ok (.iload_n 3, 1) := by decide +kernel
theorem dX7_readDry_62 : decode cX7_readDry 62 = .ok (.invokevirtual 124, 3) := by decide +kernel
theorem dX7_readDry_65 : decode cX7_readDry 65 = .ok (.iconst 1, 1) := by decide +kernel
theorem dX7_readDry_66 : decode cX7_readDry 66 = .ok (.ireturn, 1) := by decide +kernel
theorem dX7_readGuest_0 : decode cX7_readGuest 0 = .ok (.aload_n 0, 1) := by decide +kernel
theorem dX7_readGuest_1 : decode cX7_readGuest 1 = .ok (.iconst (-1), 1) := by decide +kernel
theorem dX7_readGuest_2 : decode cX7_readGuest 2 = .ok (.invokevirtual 91, 3) := by decide +kernel
theorem dX7_readGuest_5 : decode cX7_readGuest 5 = .ok (.istore_n 2, 1) := by decide +kernel
theorem dX7_readGuest_6 : decode cX7_readGuest 6 = .ok (.iload_n 2, 1) := by decide +kernel
theorem dX7_readGuest_7 : decode cX7_readGuest 7 = .ok (.iconst (-1), 1) := by decide +kernel
theorem dX7_readGuest_8 : decode cX7_readGuest 8 = .ok (.if_icmp .eq 12, 3) := by decide +kernel
theorem dX7_readGuest_11 : decode cX7_readGuest 11 = .ok (.aload_n 0, 1) := by decide +kernel
theorem dX7_readGuest_12 : decode cX7_readGuest 12 = .ok (.ldc 102, 2) := by decide +kernel
theorem dX7_readGuest_14 : decode cX7_readGuest 14 = .ok (.invokevirtual 104, 3) := by decide +kernel
theorem dX7_readGuest_17 : decode cX7_readGuest 17 = .ok (.ifCond .ne 5, 3) := by decide +kernel
theorem dX7_readGuest_20 : decode cX7_readGuest 20 = .ok (.iconst 0, 1) := by decide +kernel
theorem dX7_readGuest_21 : decode cX7_readGuest 21 = .ok (.ireturn, 1) := by decide +kernel
theorem dX7_readGuest_22 : decode cX7_readGuest 22 = .ok (.aload_n 0, 1) := by decide +kernel
theorem dX7_readGuest_23 : decode cX7_readGuest 23 = .ok (.iconst 0, 1) := by decide +kernel
theorem dX7_readGuest_24 : decode cX7_readGuest 24 = .ok (.iconst 5, 1) := by decide +kernel
theorem dX7_readGuest_25 : decode cX7_readGuest 25 = .ok (.invokevirtual 80, 3) := by decide +kernel
theorem dX7_readGuest_28 : decode cX7_readGuest 28 = .ok (.istore_n 3, 1) := by decide +kernel
theorem dX7_readGuest_29 : decode cX7_readGuest 29 = .ok (.iload_n 3, 1) := by decide +kernel
theorem dX7_readGuest_30 : decode cX7_readGuest 30 = .ok (.iconst (-1), 1) := by decide +kernel
theorem dX7_readGuest_31 : decode cX7_readGuest 31 = .ok (.if_icmp .eq 12, 3) := by decide +kernel
theorem dX7_readGuest_34 : decode cX7_readGuest 34 = .ok (.aload_n 0, 1) := by decide +kernel
theorem dX7_readGuest_35 : decode cX7_readGuest 35 = .ok (.ldc 107, 2) := by decide +kernel
theorem dX7_readGuest_37 : decode cX7_readGuest 37 = .ok (.invokevirtual 104, 3) := by decide +kernel
theorem dX7_readGuest_40 : decode cX7_readGuest 40 = .ok (.ifCond .ne 5, 3) := by decide +kernel
theorem dX7_readGuest_43 : decode cX7_readGuest 43 = .ok (.iconst 0, 1) := by decide +kernel
theorem dX7_readGuest_44 : decode cX7_readGuest 44 = .ok (.ireturn, 1) := by decide +kernel
theorem dX7_readGuest_45 : decode cX7_readGuest 45 = .ok (.aload_n 0, 1) := by decide +kernel
theorem dX7_readGuest_46 : decode cX7_readGuest 46 = .ok (.iload_n 2, 1) := by decide +kernel
theorem dX7_readGuest_47 : decode cX7_readGuest 47 = .ok (.invokevirtual 91, 3) := by decide +kernel
theorem dX7_readGuest_50 : decode cX7_readGuest 50 = .ok (.istore 4, 2) := by decide +kernel
theorem dX7_readGuest_52 : decode cX7_readGuest 52 = .ok (.iload 4, 2) := by decide +kernel
theorem dX7_readGuest_54 : decode cX7_readGuest 54 = .ok (.iconst (-1), 1) := by decide +kernel
theorem dX7_readGuest_55 : decode cX7_readGuest 55 = .ok (.if_icmp .ne 5, 3) := by decide +kernel
theorem dX7_readGuest_58 : decode cX7_readGuest 58 = .ok (.iconst 0, 1) := by decide +kernel
theorem dX7_readGuest_59 : decode cX7_readGuest 59 = .ok (.ireturn, 1) := by decide +kernel
theorem dX7_readGuest_60 : decode cX7_readGuest 60 = .ok (.aload_n 0, 1) := by decide +kernel
theorem dX7_readGuest_61 : decode cX7_readGuest 61 = .ok (.iconst 0, 1) := by decide +kernel
theorem dX7_readGuest_62 : decode cX7_readGuest 62 = .ok (.sipush 1000, 3) := by decide +kernel
theorem dX7_readGuest_65 : decode cX7_readGuest 65 = .ok (.invokevirtual 80, 3) := by decide +kernel
theorem dX7_readGuest_68 : decode cX7_readGuest 68 = .ok (.istore 5, 2) := by decide +kernel
theorem dX7_readGuest_70 : decode cX7_readGuest 70 = .ok (.iload 5, 2) := by decide +kernel
theorem dX7_readGuest_72 : decode cX7_readGuest 72 = .ok (.iconst (-1), 1) := by decide +kernel
theorem dX7_readGuest_73 : decode cX7_readGuest 73 = .ok (.if_icmp .eq 12, 3) := by decide +kernel
theorem dX7_readGuest_76 : decode cX7_readGuest 76 = .ok (.aload_n 0, 1) := by decide +kernel
theorem dX7_readGuest_77 : decode cX7_readGuest 77 = .ok (.bipush 59, 2) := by decide +kernel
theorem dX7_readGuest_79 : decode cX7_readGuest 79 = .ok (.invokevirtual 87, 3) := by decide +kernel
theorem dX7_readGuest_82 : decode cX7_readGuest 82 = .ok (.ifCond .ne 5, 3) := by decide +kernel
theorem dX7_readGuest_85 : decode cX7_readGuest 85 = .ok (.iconst 0, 1) := by decide +kernel
theorem dX7_readGuest_86 : decode cX7_readGuest 86 = .ok (.ireturn, 1) := by decide +kernel
theorem dX7_readGuest_87 : decode cX7_readGuest 87 = .ok (.aload_n 1, 1) := by decide +kernel
theorem dX7_readGuest_88 : decode cX7_readGuest 88 = .ok (.iload_n 2, 1) := by decide +kernel
theorem dX7_readGuest_89 : decode cX7_readGuest 89 = .ok (.iload_n 3, 1) := by decide +kernel
theorem dX7_readGuest_90 : decode cX7_readGuest 90 = .ok (.iload 4, 2) := by decide +kernel
theorem dX7_readGuest_92 : decode cX7_readGuest 92 = .ok (.iload 5, 2) := by decide +kernel
theorem dX7_readGuest_94 : decode cX7_readGuest 94 = .ok (.invokevirtual 109, 3) := by decide +kernel
theorem dX7_readGuest_97 : decode cX7_readGuest 97 = .ok (.iconst 1, 1) := by decide +kernel
theorem dX7_readGuest_98 : decode cX7_readGuest 98 = .ok (.ireturn, 1) := by decide +kernel
theorem dX7_readNumber_0 : decode cX7_readNumber 0 = .ok (.aload_n 0, 1) := by decide +kernel
theorem dX7_readNumber_1 : decode cX7_readNumber 1 = .ok (.invokevirtual 31, 3) := by decide +kernel
theorem dX7_readNumber_4 : decode cX7_readNumber 4 = .ok (.aload_n 0, 1) := by decide +kernel
theorem dX7_readNumber_5 : decode cX7_readNumber 5 = .ok (.getfield 11, 3) := by decide +kernel
theorem dX7_readNumber_8 : decode cX7_readNumber 8 = .ok (.iconst 3, 1) := by decide +kernel
theorem dX7_readNumber_9 : decode cX7_readNumber 9 = .ok (.if_icmp .eq 10, 3) := by decide +kernel
theorem dX7_readNumber_12 : decode cX7_readNumber 12 = .ok (.aload_n 0, 1) := by decide +kernel
theorem dX7_readNumber_13 : decode cX7_readNumber 13 = .ok (.invokevirtual 43, 3) := by decide +kernel
theorem dX7_readNumber_16 : decode cX7_readNumber 16 = .ok (.pop, 1) := by decide +kernel
theorem dX7_readNumber_17 : decode cX7_readNumber 17 = .ok (.iconst (-1), 1) := by decide +kernel
theorem dX7_readNumber_18 : decode cX7_readNumber 18 = .ok (.ireturn, 1) := by decide +kernel
theorem dX7_readNumber_19 : decode cX7_readNumber 19 = .ok (.iconst 0, 1) := by decide +kernel
theorem dX7_readNumber_20 : decode cX7_readNumber 20 = .ok (.istore_n 3, 1) := by decide +kernel
theorem dX7_readNumber_21 : decode cX7_readNumber 21 = .ok (.aload_n 0, 1) := by decide +kernel
theorem dX7_readNumber_22 : decode cX7_readNumber 22 = .ok (.getfield 15, 3) := by decide +kernel
theorem dX7_readNumber_25 : decode cX7_readNumber 25 = .ok (.istore 4, 2) := by decide +kernel
theorem dX7_readNumber_27 : decode cX7_readNumber 27 = .ok (.iload 4, 2) := by decide +kernel
theorem dX7_readNumber_29 : decode cX7_readNumber 29 = .ok (.aload_n 0, 1) := by decide +kernel
theorem dX7_readNumber_30 : decode cX7_readNumber 30 = .ok (.getfield 18, 3) := by decide +kernel
theorem dX7_readNumber_33 : decode cX7_readNumber 33 = .ok (.if_icmp .ge 27, 3) := by decide +kernel
theorem dX7_readNumber_36 : decode cX7_readNumber 36 = .ok (.iload_n 3, 1) := by decide +kernel
theorem dX7_readNumber_37 : decode cX7_readNumber 37 = .ok (.bipush 10, 2) := by decide +kernel
theorem dX7_readNumber_39 : decode cX7_readNumber 39 = .ok (.imul, 1) := by decide +kernel
theorem dX7_readNumber_40 : decode cX7_readNumber 40 = .ok (.aload_n 0, 1) := by decide +kernel
theorem dX7_readNumber_41 : decode cX7_readNumber 41 = .ok (.getfield 27, 3) := by decide +kernel
theorem dX7_readNumber_44 : decode cX7_readNumber 44 = .ok (.iload 4, 2) := by decide +kernel
theorem dX7_readNumber_46 : decode cX7_readNumber 46 = .ok (.invokevirtual 127, 3) := by decide +kernel
theorem dX7_readNumber_49 : decode cX7_readNumber 49 = .ok (.iadd, 1) := by decide +kernel
theorem dX7_readNumber_50 : decode cX7_readNumber 50 = .ok (.bipush 48, 2) := by decide +kernel
theorem dX7_readNumber_52 : decode cX7_readNumber 52 = .ok (.isub, 1) := by decide +kernel
theorem dX7_readNumber_53 : decode cX7_readNumber 53 = .ok (.istore_n 3, 1) := by decide +kernel
theorem dX7_readNumber_54 : decode cX7_readNumber 54 = .ok (.iinc 4 1, 3) := by decide +kernel
theorem dX7_readNumber_57 : decode cX7_readNumber 57 = .ok (.goto (-30), 3) := by decide +kernel
theorem dX7_readNumber_60 : decode cX7_readNumber 60 = .ok (.iload_n 3, 1) := by decide +kernel
theorem dX7_readNumber_61 : decode cX7_readNumber 61 = .ok (.iload_n 1, 1) := by decide +kernel
theorem dX7_readNumber_62 : decode cX7_readNumber 62 = .ok (.iload_n 2, 1) := by decide +kernel
theorem dX7_readNumber_63 : decode cX7_readNumber 63 = .ok (.invokestatic 135, 3) := by decide +kernel
theorem dX7_readNumber_66 : decode cX7_readNumber 66 = .ok (.ifCond .ne 11, 3) := by decide +kernel
theorem dX7_readNumber_69 : decode cX7_readNumber 69 = .ok (.aload_n 0, 1) := by decide +kernel
theorem dX7_readNumber_70 : decode cX7_readNumber 70 = .ok (.iconst 3, 1) := by decide +kernel
theorem dX7_readNumber_71 : decode cX7_readNumber 71 = .ok (.invokevirtual 46, 3) := by decide +kernel
theorem dX7_readNumber_74 : decode cX7_readNumber 74 = .ok (.pop, 1) := by decide +kernel
theorem dX7_readNumber_75 : decode cX7_readNumber 75 = .ok (.iconst (-1), 1) := by decide +kernel
theorem dX7_readNumber_76 : decode cX7_readNumber 76 = .ok (.ireturn, 1) := by decide +kernel
theorem dX7_readNumber_77 : decode cX7_readNumber 77 = .ok (.iload_n 3, 1) := by decide +kernel
theorem dX7_readNumber_78 : decode cX7_readNumber 78 = .ok (.ireturn, 1) := by decide +kernel
theorem dX7_readSign_0 : decode cX7_readSign 0 = .ok (.aload_n 0, 1) := by decide +kernel
theorem dX7_readSign_1 : decode cX7_readSign 1 = .ok (.invokevirtual 31, 3) := by decide +kernel
theorem dX7_readSign_4 : decode cX7_readSign 4 = .ok (.aload_n 0, 1) := by decide +kernel
theorem dX7_readSign_5 : decode cX7_readSign 5 = .ok (.iload_n 1, 1) := by decide +kernel
theorem dX7_readSign_6 : decode cX7_readSign 6 = .ok (.invokevirtual 99, 3) := by decide +kernel
theorem dX7_readSign_9 : decode cX7_readSign 9 = .ok (.ifCond .ne 10, 3) := by decide +kernel
theorem dX7_readSign_12 : decode cX7_readSign 12 = .ok (.aload_n 0, 1) := by decide +kernel
theorem dX7_readSign_13 : decode cX7_readSign 13 = .ok (.invokevirtual 43, 3) := by decide +kernel
theorem dX7_readSign_16 : decode cX7_readSign 16 = .ok (.ifCond .eq 7, 3) := by decide +kernel
theorem dX7_readSign_19 : decode cX7_readSign 19 = .ok (.iconst 1, 1) := by decide +kernel
theorem dX7_readSign_20 : decode cX7_readSign 20 = .ok (.goto 4, 3) := by decide +kernel
theorem dX7_readSign_23 : decode cX7_readSign 23 = .ok (.iconst 0, 1) := by decide +kernel
theorem dX7_readSign_24 : decode cX7_readSign 24 = .ok (.ireturn, 1) := by decide +kernel
theorem dX7_readTurns_0 : decode cX7_readTurns 0 = .ok (.aload_n 0, 1) := by decide +kernel
theorem dX7_readTurns_1 : decode cX7_readTurns 1 = .ok (.iconst 0, 1) := by decide +kernel
theorem dX7_readTurns_2 : decode cX7_readTurns 2 = .ok (.iconst 5, 1) := by decide +kernel
theorem dX7_readTurns_3 : decode cX7_readTurns 3 = .ok (.invokevirtual 80, 3) := by decide +kernel
theorem dX7_readTurns_6 : decode cX7_readTurns 6 = .ok (.istore_n 2, 1) := by decide +kernel
theorem dX7_readTurns_7 : decode cX7_readTurns 7 = .ok (.iload_n 2, 1) := by decide +kernel
theorem dX7_readTurns_8 : decode cX7_readTurns 8 = .ok (.iconst (-1), 1) := by decide +kernel
theorem dX7_readTurns_9 : decode cX7_readTurns 9 = .ok (.if_icmp .ne 5, 3) := by decide +kernel
theorem dX7_readTurns_12 : decode cX7_readTurns 12 = .ok (.iconst 0, 1) := by decide +kernel
theorem dX7_readTurns_13 : decode cX7_readTurns 13 = .ok (.ireturn, 1) := by decide +kernel
theorem dX7_readTurns_14 : decode cX7_readTurns 14 = .ok (.aload_n 1, 1) := by decide +kernel
theorem dX7_readTurns_15 : decode cX7_readTurns 15 = .ok (.iload_n 2, 1) := by decide +kernel
theorem dX7_readTurns_16 : decode cX7_readTurns 16 = .ok (.invokevirtual 84, 3) := by decide +kernel
theorem dX7_readTurns_19 : decode cX7_readTurns 19 = .ok (.ifCond .eq 9, 3) := by decide +kernel
theorem dX7_readTurns_22 : decode cX7_readTurns 22 = .ok (.aload_n 0, 1) := by decide +kernel
theorem dX7_readTurns_23 : decode cX7_readTurns 23 = .ok (.iconst 3, 1) := by decide +kernel
theorem dX7_readTurns_24 : decode cX7_readTurns 24 = .ok (.invokevirtual 46, 3) := by decide +kernel
theorem dX7_readTurns_27 : decode cX7_readTurns 27 = .ok (.ireturn, 1) := by decide +kernel
theorem dX7_readTurns_28 : decode cX7_readTurns 28 = .ok (.aload_n 0, 1) := by decide +kernel
theorem dX7_readTurns_29 : decode cX7_readTurns 29 = .ok (.bipush 58, 2) := by decide +kernel
theorem dX7_readTurns_31 : decode cX7_readTurns 31 = .ok (.invokevirtual 87, 3) := by decide +kernel
theorem dX7_readTurns_34 : decode cX7_readTurns 34 = .ok (.ifCond .ne 5, 3) := by decide +kernel
theorem dX7_readTurns_37 : decode cX7_readTurns 37 = .ok (.iconst 0, 1) := by decide +kernel
theorem dX7_readTurns_38 : decode cX7_readTurns 38 = .ok (.ireturn, 1) := by decide +kernel
theorem dX7_readTurns_39 : decode cX7_readTurns 39 = .ok (.iconst 0, 1) := by decide +kernel
theorem dX7_readTurns_40 : decode cX7_readTurns 40 = .ok (.istore_n 3, 1) := by decide +kernel
theorem dX7_readTurns_41 : decode cX7_readTurns 41 = .ok (.iload_n 3, 1) := by decide +kernel
theorem dX7_readTurns_42 : decode cX7_readTurns 42 = .ok (.bipush 8, 2) := by decide +kernel
theorem dX7_readTurns_44 : decode cX7_readTurns 44 = .ok (.if_icmp .gt 91, 3) := by decide +kernel
theorem dX7_readTurns_47 : decode cX7_readTurns 47 = .ok (.aload_n 0, 1) := by decide +kernel
theorem dX7_readTurns_48 : decode cX7_readTurns 48 = .ok (.iconst (-1), 1) := by decide +kernel
theorem dX7_readTurns_49 : decode cX7_readTurns 49 = .ok (.invokevirtual 91, 3) := by decide +kernel
theorem dX7_readTurns_52 : decode cX7_readTurns 52 = .ok (.istore 4, 2) := by decide +kernel
theorem dX7_readTurns_54 : decode cX7_readTurns 54 = .ok (.iload 4, 2) := by decide +kernel
theorem dX7_readTurns_56 : decode cX7_readTurns 56 = .ok (.iconst (-1), 1) := by decide +kernel
theorem dX7_readTurns_57 : decode cX7_readTurns 57 = .ok (.if_icmp .ne 5, 3) := by decide +kernel
theorem dX7_readTurns_60 : decode cX7_readTurns 60 = .ok (.iconst 0, 1) := by decide +kernel
theorem dX7_readTurns_61 : decode cX7_readTurns 61 = .ok (.ireturn, 1) := by decide +kernel
theorem dX7_readTurns_62 : decode cX7_readTurns 62 = .ok (.iload_n 3, 1) := by decide +kernel
theorem dX7_readTurns_63 : decode cX7_readTurns 63 = .ok (.bipush 8, 2) := by decide +kernel
theorem dX7_readTurns_65 : decode cX7_readTurns 65 = .ok (.if_icmp .ne 9, 3) := by decide +kernel
theorem dX7_readTurns_68 : decode cX7_readTurns 68 = .ok (.aload_n 0, 1) := by decide +kernel
theorem dX7_readTurns_69 : decode cX7_readTurns 69 = .ok (.iconst 4, 1) := by decide +kernel
theorem dX7_readTurns_70 : decode cX7_readTurns 70 = .ok (.invokevirtual 46, 3) := by decide +kernel
theorem dX7_readTurns_73 : decode cX7_readTurns 73 = .ok (.ireturn, 1) := by decide +kernel
theorem dX7_readTurns_74 : decode cX7_readTurns 74 = .ok (.aload_n 0, 1) := by decide +kernel
theorem dX7_readTurns_75 : decode cX7_readTurns 75 = .ok (.iconst 1, 1) := by decide +kernel
theorem dX7_readTurns_76 : decode cX7_readTurns 76 = .ok (.bipush 9, 2) := by decide +kernel
theorem dX7_readTurns_78 : decode cX7_readTurns 78 = .ok (.invokevirtual 80, 3) := by decide +kernel
theorem dX7_readTurns_81 : decode cX7_readTurns 81 = .ok (.istore 5, 2) := by decide +kernel
theorem dX7_readTurns_83 : decode cX7_readTurns 83 = .ok (.iload 5, 2) := by decide +kernel
theorem dX7_readTurns_85 : decode cX7_readTurns 85 = .ok (.iconst (-1), 1) := by decide +kernel
theorem dX7_readTurns_86 : decode cX7_readTurns 86 = .ok (.if_icmp .ne 5, 3) := by decide +kernel
theorem dX7_readTurns_89 : decode cX7_readTurns 89 = .ok (.iconst 0, 1) := by decide +kernel
theorem dX7_readTurns_90 : decode cX7_readTurns 90 = .ok (.ireturn, 1) := by decide +kernel
theorem dX7_readTurns_91 : decode cX7_readTurns 91 = .ok (.aload_n 1, 1) := by decide +kernel
theorem dX7_readTurns_92 : decode cX7_readTurns 92 = .ok (.iload_n 2, 1) := by decide +kernel
theorem dX7_readTurns_93 : decode cX7_readTurns 93 = .ok (.iload 4, 2) := by decide +kernel
theorem dX7_readTurns_95 : decode cX7_readTurns 95 = .ok (.iload 5, 2) := by decide +kernel
theorem dX7_readTurns_97 : decode cX7_readTurns 97 = .ok (.invokevirtual 95, 3) := by decide +kernel
theorem dX7_readTurns_100 : decode cX7_readTurns 100 = .ok (.aload_n 0, 1) := by decide +kernel
theorem dX7_readTurns_101 : decode cX7_readTurns 101 = .ok (.invokevirtual 31, 3) := by decide +kernel
theorem dX7_readTurns_104 : decode cX7_readTurns 104 = .ok (.aload_n 0, 1) := by decide +kernel
theorem dX7_readTurns_105 : decode cX7_readTurns 105 = .ok (.bipush 59, 2) := by decide +kernel
theorem dX7_readTurns_107 : decode cX7_readTurns 107 = .ok (.invokevirtual 99, 3) := by decide +kernel
theorem dX7_readTurns_110 : decode cX7_readTurns 110 = .ok (.ifCond .eq 5, 3) := by decide +kernel
theorem dX7_readTurns_113 : decode cX7_readTurns 113 = .ok (.iconst 1, 1) := by decide +kernel
theorem dX7_readTurns_114 : decode cX7_readTurns 114 = .ok (.ireturn, 1) := by decide +kernel
theorem dX7_readTurns_115 : decode cX7_readTurns 115 = .ok (.aload_n 0, 1) := by decide +kernel
theorem dX7_readTurns_116 : decode cX7_readTurns 116 = .ok (.bipush 44, 2) := by decide +kernel
theorem dX7_readTurns_118 : decode cX7_readTurns 118 = .ok (.invokevirtual 99, 3) := by decide +kernel
theorem dX7_readTurns_121 : decode cX7_readTurns 121 = .ok (.ifCond .ne 8, 3) := by decide +kernel
theorem dX7_readTurns_124 : decode cX7_readTurns 124 = .ok (.aload_n 0, 1) := by decide +kernel
theorem dX7_readTurns_125 : decode cX7_readTurns 125 = .ok (.invokevirtual 43, 3) := by decide +kernel
theorem dX7_readTurns_128 : decode cX7_readTurns 128 = .ok (.ireturn, 1) := by decide +kernel
theorem dX7_readTurns_129 : decode cX7_readTurns 129 = .ok (.iinc 3 1, 3) := by decide +kernel
theorem dX7_readTurns_132 : decode cX7_readTurns 132 = .ok (.goto (-91), 3) := by decide +kernel
theorem dX7_readTurns_135 : decode cX7_readTurns 135 = .ok (.iconst 0, 1) := by decide +kernel
theorem dX7_readTurns_136 : decode cX7_readTurns 136 = .ok (.ireturn, 1) := by decide +kernel
theorem dX7_readWed_0 : decode cX7_readWed 0 = .ok (.aload_n 0, 1) := by decide +kernel
theorem dX7_readWed_1 : decode cX7_readWed 1 = .ok (.iconst (-1), 1) := by decide +kernel
theorem dX7_readWed_2 : decode cX7_readWed 2 = .ok (.invokevirtual 91, 3) := by decide +kernel
theorem dX7_readWed_5 : decode cX7_readWed 5 = .ok (.istore_n 2, 1) := by decide +kernel
theorem dX7_readWed_6 : decode cX7_readWed 6 = .ok (.iload_n 2, 1) := by decide +kernel
theorem dX7_readWed_7 : decode cX7_readWed 7 = .ok (.iconst (-1), 1) := by decide +kernel
theorem dX7_readWed_8 : decode cX7_readWed 8 = .ok (.if_icmp .ne 5, 3) := by decide +kernel
theorem dX7_readWed_11 : decode cX7_readWed 11 = .ok (.iconst 0, 1) := by decide +kernel
theorem dX7_readWed_12 : decode cX7_readWed 12 = .ok (.ireturn, 1) := by decide +kernel
theorem dX7_readWed_13 : decode cX7_readWed 13 = .ok (.aload_n 0, 1) := by decide +kernel
theorem dX7_readWed_14 : decode cX7_readWed 14 = .ok (.iload_n 2, 1) := by decide +kernel
theorem dX7_readWed_15 : decode cX7_readWed 15 = .ok (.invokevirtual 91, 3) := by decide +kernel
theorem dX7_readWed_18 : decode cX7_readWed 18 = .ok (.istore_n 3, 1) := by decide +kernel
theorem dX7_readWed_19 : decode cX7_readWed 19 = .ok (.iload_n 3, 1) := by decide +kernel
theorem dX7_readWed_20 : decode cX7_readWed 20 = .ok (.iconst (-1), 1) := by decide +kernel
theorem dX7_readWed_21 : decode cX7_readWed 21 = .ok (.if_icmp .eq 12, 3) := by decide +kernel
theorem dX7_readWed_24 : decode cX7_readWed 24 = .ok (.aload_n 0, 1) := by decide +kernel
theorem dX7_readWed_25 : decode cX7_readWed 25 = .ok (.bipush 59, 2) := by decide +kernel
theorem dX7_readWed_27 : decode cX7_readWed 27 = .ok (.invokevirtual 87, 3) := by decide +kernel
theorem dX7_readWed_30 : decode cX7_readWed 30 = .ok (.ifCond .ne 5, 3) := by decide +kernel
theorem dX7_readWed_33 : decode cX7_readWed 33 = .ok (.iconst 0, 1) := by decide +kernel
theorem dX7_readWed_34 : decode cX7_readWed 34 = .ok (.ireturn, 1) := by decide +kernel
theorem dX7_readWed_35 : decode cX7_readWed 35 = .ok (.aload_n 1, 1) := by decide +kernel
theorem dX7_readWed_36 : decode cX7_readWed 36 = .ok (.iload_n 2, 1) := by decide +kernel
theorem dX7_readWed_37 : decode cX7_readWed 37 = .ok (.iload_n 3, 1) := by decide +kernel
theorem dX7_readWed_38 : decode cX7_readWed 38 = .ok (.invokevirtual 113, 3) := by decide +kernel
theorem dX7_readWed_41 : decode cX7_readWed 41 = .ok (.iconst 1, 1) := by decide +kernel
theorem dX7_readWed_42 : decode cX7_readWed 42 = .ok (.ireturn, 1) := by decide +kernel
theorem dX7_readWord_0 : decode cX7_readWord 0 = .ok (.aload_n 0, 1) := by decide +kernel
theorem dX7_readWord_1 : decode cX7_readWord 1 = .ok (.invokevirtual 31, 3) := by decide +kernel
theorem dX7_readWord_4 : decode cX7_readWord 4 = .ok (.aload_n 0, 1) := by decide +kernel
theorem dX7_readWord_5 : decode cX7_readWord 5 = .ok (.aload_n 1, 1) := by decide +kernel
theorem dX7_readWord_6 : decode cX7_readWord 6 = .ok (.invokevirtual 52, 3) := by decide +kernel
theorem dX7_readWord_9 : decode cX7_readWord 9 = .ok (.ifCond .ne 10, 3) := by decide +kernel
theorem dX7_readWord_12 : decode cX7_readWord 12 = .ok (.aload_n 0, 1) := by decide +kernel
theorem dX7_readWord_13 : decode cX7_readWord 13 = .ok (.invokevirtual 43, 3) := by decide +kernel
theorem dX7_readWord_16 : decode cX7_readWord 16 = .ok (.ifCond .eq 7, 3) := by decide +kernel
theorem dX7_readWord_19 : decode cX7_readWord 19 = .ok (.iconst 1, 1) := by decide +kernel
theorem dX7_readWord_20 : decode cX7_readWord 20 = .ok (.goto 4, 3) := by decide +kernel
theorem dX7_readWord_23 : decode cX7_readWord 23 = .ok (.iconst 0, 1) := by decide +kernel
theorem dX7_readWord_24 : decode cX7_readWord 24 = .ok (.ireturn, 1) := by decide +kernel
set_option maxHeartbeats 4000000 in
set_option maxRecDepth 100000 in
/-- WellCourt$Reader.isWord -/
theorem s_X7_isWord (l : Launch) (G : va_G) (cy : Nat → ClassId) (sK sV : Nat → Nat) (ad : Nat → Nat → Nat) (sz : Nat) (st : gS) (hB : gBd bX st) (i : Nat) (hi_i : i < 9) : gsMi l yX7_isWord cX7_isWord 3 (some .boolean) ({ frames := 4, cells := 0, slots := 0, locals := 85 } : Room) G cy sK sV (shX cy ad) cnX ad sz [.ref (ad 3 0), .ref (sK i)] st (fun (r : Int32) (u : gS) => gBN bX kX [] st u ∧ ((r = 1) ∨ (r = 0))) := by
  refine gs_start (fun A => gsQi G (shX cy ad) cnX ad _ A) (by decide) (Nat.le_of_ble_eq_true rfl) ?_
  intro p e s m below meth c A ls H hx hb hr hml hlocks hown hts hK hov hE hI hM hm hS hA hl
  have hl : lv_has ls 3 [(0, .ref (ad 3 0)), (1, .ref (sK i))] := hl
  have hB_st : gBN bX kX [] st st := gBN.rf hB
  have hsl := sx_small i hi_i
  have hsg := gi_hi (Int32.ofNat (sxL.getD i 0))
  generalize hQe : MQ below _ _ s _ _ A = Q
  refine lv_aload_n hx hb dX7_isWord_0 rfl (lv_at hl 0 rfl) ?_
  refine gs_get (C := RX7) (T := TX7) (N := 6) hx hb hts inX7 hown hK hM 3 0 1 (by decide) rfl rfl (by decide) (hts _ gm_54) (fun _ h9 => h9) rfl dX7_isWord_1 ?_
  refine lv_iconst (v := 2) hx hb dX7_isWord_4 (by decide) ?_
  refine lv_icmp_ne (tgt := 24) hx hb dX7_isWord_5 (by decide) (fun c_2 => ?_) (fun c_2 => ?_)
  · have ic_2 := gz_ne (rfl : (st 3 0 1).toInt = (st 3 0 1).toInt) (by decide : (2 : Int32).toInt = 2) c_2
    refine lv_iconst (v := 0) hx hb dX7_isWord_24 (by decide) ?_
    rw [← hQe]
    exact gs_iret hx hb hr hlocks hM hS (by decide) ⟨hB_st, (Or.inr (rfl))⟩ (by exact Nat.le_refl _) (by exact Nat.le_refl _) dX7_isWord_25
  · have ic_2 := gz_eqn (rfl : (st 3 0 1).toInt = (st 3 0 1).toInt) (by decide : (2 : Int32).toInt = 2) c_2
    refine lv_aload_n hx hb dX7_isWord_8 rfl (lv_at hl 0 rfl) ?_
    refine gs_get (C := RX7) (T := TX7) (N := 6) hx hb hts inX7 hown hK hM 3 0 3 (by decide) rfl rfl (by decide) (hts _ gm_56) (fun _ h9 => h9) rfl dX7_isWord_9 ?_
    refine lv_aload_n hx hb dX7_isWord_12 rfl (lv_at hl 0 rfl) ?_
    refine gs_get (C := RX7) (T := TX7) (N := 6) hx hb hts inX7 hown hK hM 3 0 2 (by decide) rfl rfl (by decide) (hts _ gm_55) (fun _ h9 => h9) rfl dX7_isWord_13 ?_
    refine lv_isub hx hb dX7_isWord_16 ?_
    refine lv_topi (fun x_5 ex_5 => ?_)
    try have tx_5 : x_5.toInt = (st 3 0 3).toInt - (st 3 0 2).toInt := by rw [ex_5]; exact gz_subI (x := (st 3 0 3).toInt) (y := (st 3 0 2).toInt) rfl rfl (by omega) (by omega)
    refine lv_aload_n hx hb dX7_isWord_17 rfl (lv_at hl 1 rfl) ?_
    refine gs_calli (va_runV (As := []) (rest := [.int x_5]) ⟨hx, hb, hml, hown, hts⟩ (s_len l G cy sK sV ad H.size st hB_st.1 i hi_i ) ⟨(gz_cb (n := 0) hts gm_400 gm_13 gm_403 ⟨by decide +kernel, by decide +kernel, by decide +kernel⟩ ⟨Nat.le_of_ble_eq_true rfl, Nat.le_of_ble_eq_true rfl⟩), hts _ gm_401, hts _ gm_402⟩ (gs_preK hK hov hE hI hM hm hS hA i hi_i) rfl rfl hl.1 rfl (lv_room (Nat.le_of_ble_eq_true rfl)) dX7_isWord_18 ⟨Nat.le_of_ble_eq_true rfl, Nat.le_of_ble_eq_true rfl⟩) hm hS hA (fun r_6 st_6 H locs hw_6 hM hS => ?_)
    obtain ⟨n_6, hw_6⟩ := hw_6
    have n_6 := gBN.nil n_6
    subst n_6
    have hw_6_0 := hw_6
    refine lv_icmp_eq (tgt := 26) hx hb dX7_isWord_21 (by decide) (fun c_7 => ?_) (fun c_7 => ?_)
    · have ic_7 := gz_eq (rfl : x_5.toInt = x_5.toInt) (rfl : r_6.toInt = r_6.toInt) c_7
      refine lv_iconst (v := 0) hx hb dX7_isWord_26 (by decide) ?_
      refine lv_istore_n (lv' := [(2, .int 0), (0, .ref (ad 3 0)), (1, .ref (sK i))]) hx hb dX7_isWord_27 rfl hl (by decide) rfl (fun ls hl => ?_)
      have lp8 : ∀ (n8 : Nat) (sv8 : gS) (y8_0 : Int32) (H : Heap) (locs : List Loc) (ls : Array Slot), (((sxL.getD i 0 : Nat) : Int) - y8_0.toInt).toNat < n8 → gBN bX kX [] st sv8 → (0 ≤ y8_0.toInt) → gM G (shX cy ad) cnX ad sv8 H → va_S A s.heap H locs → lv_has ls 3 [(2, .int y8_0), (0, .ref (ad 3 0)), (1, .ref (sK i))] → W p l e ({ frames := 4, cells := 0, slots := 0, locals := 85 } : Room) s m [.ref (ad 3 0), .ref (sK i)].toArray below meth c H locs 0 0 Q (F0 m 28 ls []) := by
        intro n8
        induction n8 with
        | zero => intro sv8 y8_0 H locs ls h9; exact absurd h9 (Nat.not_lt_zero _)
        | succ n8 ih_8 =>
          intro sv8 y8_0 H locs ls hme8 hB_sv8 hv8_0 hM hS hl
          refine lv_iload_n hx hb dX7_isWord_28 rfl (lv_at hl 0 rfl) ?_
          refine lv_aload_n hx hb dX7_isWord_29 rfl (lv_at hl 2 rfl) ?_
          refine gs_calli (va_runV (As := []) (rest := [.int y8_0]) ⟨hx, hb, hml, hown, hts⟩ (s_len l G cy sK sV ad H.size sv8 hB_sv8.1 i hi_i ) ⟨(gz_cb (n := 0) hts gm_400 gm_13 gm_403 ⟨by decide +kernel, by decide +kernel, by decide +kernel⟩ ⟨Nat.le_of_ble_eq_true rfl, Nat.le_of_ble_eq_true rfl⟩), hts _ gm_401, hts _ gm_402⟩ (gs_preK hK hov hE hI hM hm hS hA i hi_i) rfl rfl hl.1 rfl (lv_room (Nat.le_of_ble_eq_true rfl)) dX7_isWord_30 ⟨Nat.le_of_ble_eq_true rfl, Nat.le_of_ble_eq_true rfl⟩) hm hS hA (fun r_9 st_9 H locs hw_9 hM hS => ?_)
          obtain ⟨n_9, hw_9⟩ := hw_9
          have n_9 := gBN.nil n_9
          subst n_9
          have hw_9_0 := hw_9
          refine lv_icmp_ge (tgt := 65) hx hb dX7_isWord_33 (by decide) (fun c_10 => ?_) (fun c_10 => ?_)
          · have ic_10 := gz_le (rfl : r_9.toInt = r_9.toInt) (rfl : y8_0.toInt = y8_0.toInt) c_10
            refine lv_iconst (v := 1) hx hb dX7_isWord_65 (by decide) ?_
            rw [← hQe]
            exact gs_iret hx hb hr hlocks hM hS (by decide) ⟨hB_sv8, (Or.inl rfl)⟩ (by exact Nat.le_refl _) (by exact Nat.le_refl _) dX7_isWord_66
          · have ic_10 := gz_nle (rfl : r_9.toInt = r_9.toInt) (rfl : y8_0.toInt = y8_0.toInt) c_10
            have lc_10 := gi_hi r_9
            refine lv_aload_n hx hb dX7_isWord_36 rfl (lv_at hl 1 rfl) ?_
            refine gs_get (C := RX7) (T := TX7) (N := 6) hx hb hts inX7 hown hK hM 3 0 0 (by decide) rfl rfl (by decide) (hts _ gm_53) (fun _ h9 => h9) rfl dX7_isWord_37 ?_
            refine lv_aload_n hx hb dX7_isWord_40 rfl (lv_at hl 1 rfl) ?_
            refine gs_get (C := RX7) (T := TX7) (N := 6) hx hb hts inX7 hown hK hM 3 0 2 (by decide) rfl rfl (by decide) (hts _ gm_55) (fun _ h9 => h9) rfl dX7_isWord_41 ?_
            refine lv_topi (fun x_11 ex_11 => ?_)
            have ex_11 : (st 3 0 2) = x_11 := Eq.symm (ex_11.trans (hB_sv8.2 3 0 2 (show (302 : Nat) ∉ _ from by decide)))
            subst ex_11
            refine lv_iload_n hx hb dX7_isWord_44 rfl (lv_at hl 0 rfl) ?_
            refine lv_iadd hx hb dX7_isWord_45 ?_
            refine lv_topi (fun x_13 ex_13 => ?_)
            try have tx_13 : x_13.toInt = (st 3 0 2).toInt + y8_0.toInt := by rw [ex_13]; exact gz_addI (x := (st 3 0 2).toInt) (y := y8_0.toInt) rfl rfl (by omega) (by omega)
            refine gs_calli (va_runV (As := [.int x_13]) (rest := []) ⟨hx, hb, hml, hown, hts⟩ (s_X8_byteAt l G cy sK sV ad H.size sv8 hB_sv8.1 x_13 x_13.toInt rfl ) ⟨(gz_cb (n := 1) hts gm_371 gm_2 gm_374 ⟨by decide +kernel, by decide +kernel, by decide +kernel⟩ ⟨Nat.le_of_ble_eq_true rfl, Nat.le_of_ble_eq_true rfl⟩), hts _ gm_372, hts _ gm_373⟩ (gs_preV hK hov hE hI hM hm hS hA 1 0 (by decide) rfl rfl) rfl rfl hl.1 rfl (lv_room (Nat.le_of_ble_eq_true rfl)) dX7_isWord_46 ⟨Nat.le_of_ble_eq_true rfl, Nat.le_of_ble_eq_true rfl⟩) hm hS hA (fun r_14 st_14 H locs hw_14 hM hS => ?_)
            obtain ⟨n_14, hw_14⟩ := hw_14
            have n_14 := gBN.nil n_14
            subst n_14
            have hqhw_140 : (sv8 1 0 1).toInt = ((st 1 0 1) : Int32).toInt := congrArg Int32.toInt ((hB_sv8.2 1 0 1 (show (101 : Nat) ∉ _ from by decide)))
            have hbhw_141 : (0 : Int) ≤ (sv8 1 0 1).toInt ∧ (sv8 1 0 1).toInt ≤ (800 : Int) := hB_sv8.1 1 0 1
            have hw_14_0 := hw_14
            refine lv_aload_n hx hb dX7_isWord_49 rfl (lv_at hl 2 rfl) ?_
            refine lv_iload_n hx hb dX7_isWord_50 rfl (lv_at hl 0 rfl) ?_
            refine gs_calli (va_runV (As := [.int y8_0]) (rest := [.int r_14]) ⟨hx, hb, hml, hown, hts⟩ (s_charAt l G cy sK sV ad H.size sv8 hB_sv8.1 i y8_0 hi_i (by first | decide | omega) (by first | decide | omega)) ⟨(gz_cb (n := 1) hts gm_410 gm_13 gm_413 ⟨by decide +kernel, by decide +kernel, by decide +kernel⟩ ⟨Nat.le_of_ble_eq_true rfl, Nat.le_of_ble_eq_true rfl⟩), hts _ gm_411, hts _ gm_412⟩ (gs_preK hK hov hE hI hM hm hS hA i hi_i) rfl rfl hl.1 rfl (lv_room (Nat.le_of_ble_eq_true rfl)) dX7_isWord_51 ⟨Nat.le_of_ble_eq_true rfl, Nat.le_of_ble_eq_true rfl⟩) hm hS hA (fun r_15 st_15 H locs hw_15 hM hS => ?_)
            obtain ⟨n_15, hw_15⟩ := hw_15
            have n_15 := gBN.nil n_15
            subst n_15
            refine lv_icmp_eq (tgt := 59) hx hb dX7_isWord_54 (by decide) (fun c_16 => ?_) (fun c_16 => ?_)
            · have ic_16 := gz_eq (rfl : r_14.toInt = r_14.toInt) (rfl : r_15.toInt = r_15.toInt) c_16
              obtain ⟨x_17, ex_17⟩ : ∃ y : Int32, y = y8_0 + 1 := ⟨_, rfl⟩
              try have tx_17 : x_17.toInt = y8_0.toInt + 1 := by rw [ex_17]; exact gz_addP (x := y8_0.toInt) (y := 1) rfl (by decide) (by omega) (by omega)
              refine lv_iinc (v := (x_17)) (lv' := [(2, .int x_17), (0, .ref (ad 3 0)), (1, .ref (sK i))]) hx hb dX7_isWord_59 hl (k := 0) rfl (by rw [ex_17]; rfl) (by decide) rfl (fun ls hl => ?_)
              refine lv_goto (tgt := 28) hx hb dX7_isWord_62 (by decide) ?_
              exact ih_8 sv8 (x_17 : Int32) H _ ls (by omega) hB_sv8 (by omega) hM hS (lv_sub hl [0, 1, 2] rfl)
            · have ic_16 := gz_ne (rfl : r_14.toInt = r_14.toInt) (rfl : r_15.toInt = r_15.toInt) c_16
              refine lv_iconst (v := 0) hx hb dX7_isWord_57 (by decide) ?_
              rw [← hQe]
              exact gs_iret hx hb hr hlocks hM hS (by decide) ⟨hB_sv8, (Or.inr (rfl))⟩ (by exact Nat.le_refl _) (by exact Nat.le_refl _) dX7_isWord_58
      exact lp8 ((((sxL.getD i 0 : Nat) : Int) - ((0 : Int32) : Int32).toInt).toNat + 1) st ((0 : Int32) : Int32) H _ ls (Nat.lt_succ_self _) hB_st (by have hl0 : (0 : Int32).toInt = 0 := (by decide); omega) hM hS (lv_sub hl [0, 1, 2] rfl)
    · have ic_7 := gz_ne (rfl : x_5.toInt = x_5.toInt) (rfl : r_6.toInt = r_6.toInt) c_7
      refine lv_iconst (v := 0) hx hb dX7_isWord_24 (by decide) ?_
      rw [← hQe]
      exact gs_iret hx hb hr hlocks hM hS (by decide) ⟨hB_st, (Or.inr (rfl))⟩ (by exact Nat.le_refl _) (by exact Nat.le_refl _) dX7_isWord_25

set_option maxHeartbeats 4000000 in
set_option maxRecDepth 100000 in
/-- WellCourt$Reader.isRuleWord -/
theorem s_X7_isRuleWord (l : Launch) (G : va_G) (cy : Nat → ClassId) (sK sV : Nat → Nat) (ad : Nat → Nat → Nat) (sz : Nat) (st : gS) (hB : gBd bX st) : gsMi l yX7_isRuleWord cX7_isRuleWord 1 (some .boolean) ({ frames := 5, cells := 0, slots := 0, locals := 107 } : Room) G cy sK sV (shX cy ad) cnX ad sz [.ref (ad 3 0)] st (fun (r : Int32) (u : gS) => gBN bX kX [] st u ∧ ((r = 1) ∨ (r = 0))) := by
  refine gs_start (fun A => gsQi G (shX cy ad) cnX ad _ A) (by decide) (Nat.le_of_ble_eq_true rfl) ?_
  intro p e s m below meth c A ls H hx hb hr hml hlocks hown hts hK hov hE hI hM hm hS hA hl
  have hl : lv_has ls 1 [(0, .ref (ad 3 0))] := hl
  have hB_st : gBN bX kX [] st st := gBN.rf hB
  refine lv_aload_n hx hb dX7_isRuleWord_0 rfl (lv_at hl 0 rfl) ?_
  refine va_ldcS (q := sK 0) hx hb hown (hE.2.2.1 0 (by decide)) dX7_isRuleWord_1 ?_
  refine gs_calli (va_runV (As := [.ref (sK 0)]) (rest := []) ⟨hx, hb, hml, hown, hts⟩ (s_X7_isWord l G cy sK sV ad H.size st hB_st.1 0 (by decide) ) ⟨(gz_cb (n := 1) hts gm_396 gm_3 gm_399 ⟨by decide +kernel, by decide +kernel, by decide +kernel⟩ ⟨Nat.le_of_ble_eq_true rfl, Nat.le_of_ble_eq_true rfl⟩), hts _ gm_398, hts _ gs_3⟩ (gs_preV hK hov hE hI hM hm hS hA 3 0 (by decide) rfl rfl) rfl rfl hl.1 rfl (lv_room (Nat.le_of_ble_eq_true rfl)) dX7_isRuleWord_3 ⟨Nat.le_of_ble_eq_true rfl, Nat.le_of_ble_eq_true rfl⟩) hm hS hA (fun r_1 st_1 H locs hw_1 hM hS => ?_)
  obtain ⟨n_1, hw_1⟩ := hw_1
  have n_1 := gBN.nil n_1
  subst n_1
  rcases hw_1 with rfl | rfl
  · skip
    refine lv_if_ne (tgt := 45) hx hb dX7_isRuleWord_6 (by decide) (fun _ => ?_) (fun h9 => absurd h9 (by decide))
    refine lv_iconst (v := 1) hx hb dX7_isRuleWord_45 (by decide) ?_
    refine lv_goto (tgt := 50) hx hb dX7_isRuleWord_46 (by decide) ?_
    exact gs_iret hx hb hr hlocks hM hS (by decide) ⟨hB_st, (Or.inl rfl)⟩ (by exact Nat.le_refl _) (by exact Nat.le_refl _) dX7_isRuleWord_50
  · skip
    refine lv_if_ne (tgt := 45) hx hb dX7_isRuleWord_6 (by decide) (fun h9 => absurd (by decide) h9) (fun _ => ?_)
    refine lv_aload_n hx hb dX7_isRuleWord_9 rfl (lv_at hl 0 rfl) ?_
    refine va_ldcS (q := sK 1) hx hb hown (hE.2.2.1 1 (by decide)) dX7_isRuleWord_10 ?_
    refine gs_calli (va_runV (As := [.ref (sK 1)]) (rest := []) ⟨hx, hb, hml, hown, hts⟩ (s_X7_isWord l G cy sK sV ad H.size st hB_st.1 1 (by decide) ) ⟨(gz_cb (n := 1) hts gm_396 gm_3 gm_399 ⟨by decide +kernel, by decide +kernel, by decide +kernel⟩ ⟨Nat.le_of_ble_eq_true rfl, Nat.le_of_ble_eq_true rfl⟩), hts _ gm_398, hts _ gs_3⟩ (gs_preV hK hov hE hI hM hm hS hA 3 0 (by decide) rfl rfl) rfl rfl hl.1 rfl (lv_room (Nat.le_of_ble_eq_true rfl)) dX7_isRuleWord_12 ⟨Nat.le_of_ble_eq_true rfl, Nat.le_of_ble_eq_true rfl⟩) hm hS hA (fun r_2 st_2 H locs hw_2 hM hS => ?_)
    obtain ⟨n_2, hw_2⟩ := hw_2
    have n_2 := gBN.nil n_2
    subst n_2
    rcases hw_2 with rfl | rfl
    · skip
      refine lv_if_ne (tgt := 45) hx hb dX7_isRuleWord_15 (by decide) (fun _ => ?_) (fun h9 => absurd h9 (by decide))
      refine lv_iconst (v := 1) hx hb dX7_isRuleWord_45 (by decide) ?_
      refine lv_goto (tgt := 50) hx hb dX7_isRuleWord_46 (by decide) ?_
      exact gs_iret hx hb hr hlocks hM hS (by decide) ⟨hB_st, (Or.inl rfl)⟩ (by exact Nat.le_refl _) (by exact Nat.le_refl _) dX7_isRuleWord_50
    · skip
      refine lv_if_ne (tgt := 45) hx hb dX7_isRuleWord_15 (by decide) (fun h9 => absurd (by decide) h9) (fun _ => ?_)
      refine lv_aload_n hx hb dX7_isRuleWord_18 rfl (lv_at hl 0 rfl) ?_
      refine va_ldcS (q := sK 2) hx hb hown (hE.2.2.1 2 (by decide)) dX7_isRuleWord_19 ?_
      refine gs_calli (va_runV (As := [.ref (sK 2)]) (rest := []) ⟨hx, hb, hml, hown, hts⟩ (s_X7_isWord l G cy sK sV ad H.size st hB_st.1 2 (by decide) ) ⟨(gz_cb (n := 1) hts gm_396 gm_3 gm_399 ⟨by decide +kernel, by decide +kernel, by decide +kernel⟩ ⟨Nat.le_of_ble_eq_true rfl, Nat.le_of_ble_eq_true rfl⟩), hts _ gm_398, hts _ gs_3⟩ (gs_preV hK hov hE hI hM hm hS hA 3 0 (by decide) rfl rfl) rfl rfl hl.1 rfl (lv_room (Nat.le_of_ble_eq_true rfl)) dX7_isRuleWord_21 ⟨Nat.le_of_ble_eq_true rfl, Nat.le_of_ble_eq_true rfl⟩) hm hS hA (fun r_3 st_3 H locs hw_3 hM hS => ?_)
      obtain ⟨n_3, hw_3⟩ := hw_3
      have n_3 := gBN.nil n_3
      subst n_3
      rcases hw_3 with rfl | rfl
      · skip
        refine lv_if_ne (tgt := 45) hx hb dX7_isRuleWord_24 (by decide) (fun _ => ?_) (fun h9 => absurd h9 (by decide))
        refine lv_iconst (v := 1) hx hb dX7_isRuleWord_45 (by decide) ?_
        refine lv_goto (tgt := 50) hx hb dX7_isRuleWord_46 (by decide) ?_
        exact gs_iret hx hb hr hlocks hM hS (by decide) ⟨hB_st, (Or.inl rfl)⟩ (by exact Nat.le_refl _) (by exact Nat.le_refl _) dX7_isRuleWord_50
      · skip
        refine lv_if_ne (tgt := 45) hx hb dX7_isRuleWord_24 (by decide) (fun h9 => absurd (by decide) h9) (fun _ => ?_)
        refine lv_aload_n hx hb dX7_isRuleWord_27 rfl (lv_at hl 0 rfl) ?_
        refine va_ldcS (q := sK 3) hx hb hown (hE.2.2.1 3 (by decide)) dX7_isRuleWord_28 ?_
        refine gs_calli (va_runV (As := [.ref (sK 3)]) (rest := []) ⟨hx, hb, hml, hown, hts⟩ (s_X7_isWord l G cy sK sV ad H.size st hB_st.1 3 (by decide) ) ⟨(gz_cb (n := 1) hts gm_396 gm_3 gm_399 ⟨by decide +kernel, by decide +kernel, by decide +kernel⟩ ⟨Nat.le_of_ble_eq_true rfl, Nat.le_of_ble_eq_true rfl⟩), hts _ gm_398, hts _ gs_3⟩ (gs_preV hK hov hE hI hM hm hS hA 3 0 (by decide) rfl rfl) rfl rfl hl.1 rfl (lv_room (Nat.le_of_ble_eq_true rfl)) dX7_isRuleWord_30 ⟨Nat.le_of_ble_eq_true rfl, Nat.le_of_ble_eq_true rfl⟩) hm hS hA (fun r_4 st_4 H locs hw_4 hM hS => ?_)
        obtain ⟨n_4, hw_4⟩ := hw_4
        have n_4 := gBN.nil n_4
        subst n_4
        rcases hw_4 with rfl | rfl
        · skip
          refine lv_if_ne (tgt := 45) hx hb dX7_isRuleWord_33 (by decide) (fun _ => ?_) (fun h9 => absurd h9 (by decide))
          refine lv_iconst (v := 1) hx hb dX7_isRuleWord_45 (by decide) ?_
          refine lv_goto (tgt := 50) hx hb dX7_isRuleWord_46 (by decide) ?_
          exact gs_iret hx hb hr hlocks hM hS (by decide) ⟨hB_st, (Or.inl rfl)⟩ (by exact Nat.le_refl _) (by exact Nat.le_refl _) dX7_isRuleWord_50
        · skip
          refine lv_if_ne (tgt := 45) hx hb dX7_isRuleWord_33 (by decide) (fun h9 => absurd (by decide) h9) (fun _ => ?_)
          refine lv_aload_n hx hb dX7_isRuleWord_36 rfl (lv_at hl 0 rfl) ?_
          refine va_ldcS (q := sK 4) hx hb hown (hE.2.2.1 4 (by decide)) dX7_isRuleWord_37 ?_
          refine gs_calli (va_runV (As := [.ref (sK 4)]) (rest := []) ⟨hx, hb, hml, hown, hts⟩ (s_X7_isWord l G cy sK sV ad H.size st hB_st.1 4 (by decide) ) ⟨(gz_cb (n := 1) hts gm_396 gm_3 gm_399 ⟨by decide +kernel, by decide +kernel, by decide +kernel⟩ ⟨Nat.le_of_ble_eq_true rfl, Nat.le_of_ble_eq_true rfl⟩), hts _ gm_398, hts _ gs_3⟩ (gs_preV hK hov hE hI hM hm hS hA 3 0 (by decide) rfl rfl) rfl rfl hl.1 rfl (lv_room (Nat.le_of_ble_eq_true rfl)) dX7_isRuleWord_39 ⟨Nat.le_of_ble_eq_true rfl, Nat.le_of_ble_eq_true rfl⟩) hm hS hA (fun r_5 st_5 H locs hw_5 hM hS => ?_)
          obtain ⟨n_5, hw_5⟩ := hw_5
          have n_5 := gBN.nil n_5
          subst n_5
          rcases hw_5 with rfl | rfl
          · skip
            refine lv_if_eq (tgt := 49) hx hb dX7_isRuleWord_42 (by decide) (fun h9 => absurd h9 (by decide)) (fun _ => ?_)
            refine lv_iconst (v := 1) hx hb dX7_isRuleWord_45 (by decide) ?_
            refine lv_goto (tgt := 50) hx hb dX7_isRuleWord_46 (by decide) ?_
            exact gs_iret hx hb hr hlocks hM hS (by decide) ⟨hB_st, (Or.inl rfl)⟩ (by exact Nat.le_refl _) (by exact Nat.le_refl _) dX7_isRuleWord_50
          · skip
            refine lv_if_eq (tgt := 49) hx hb dX7_isRuleWord_42 (by decide) (fun _ => ?_) (fun h9 => absurd (by decide) h9)
            refine lv_iconst (v := 0) hx hb dX7_isRuleWord_49 (by decide) ?_
            exact gs_iret hx hb hr hlocks hM hS (by decide) ⟨hB_st, (Or.inr (rfl))⟩ (by exact Nat.le_refl _) (by exact Nat.le_refl _) dX7_isRuleWord_50

set_option maxHeartbeats 4000000 in
set_option maxRecDepth 100000 in
/-- WellCourt$Reader.readSign -/
theorem s_X7_readSign (l : Launch) (G : va_G) (cy : Nat → ClassId) (sK sV : Nat → Nat) (ad : Nat → Nat → Nat) (sz : Nat) (st : gS) (hB : gBd bX st) (x : Int32) : gsMi l yX7_readSign cX7_readSign 2 (some .boolean) ({ frames := 3, cells := 0, slots := 0, locals := 65 } : Room) G cy sK sV (shX cy ad) cnX ad sz [.ref (ad 3 0), .int x] st (fun (r : Int32) (u : gS) => gBN bX kX [301, 302, 303, 304, 305] st u ∧ ((r = 1) ∨ (r = 0))) := by
  refine gs_start (fun A => gsQi G (shX cy ad) cnX ad _ A) (by decide) (Nat.le_of_ble_eq_true rfl) ?_
  intro p e s m below meth c A ls H hx hb hr hml hlocks hown hts hK hov hE hI hM hm hS hA hl
  have hl : lv_has ls 2 [(0, .ref (ad 3 0)), (1, .int x)] := hl
  have hB_st : gBN bX kX [301, 302, 303, 304, 305] st st := gBN.rf hB
  refine lv_aload_n hx hb dX7_readSign_0 rfl (lv_at hl 0 rfl) ?_
  refine gs_callv (va_runV (As := []) (rest := []) ⟨hx, hb, hml, hown, hts⟩ (s_X7_advance l G cy sK sV ad H.size st hB_st.1  ) ⟨(gz_cb (n := 0) hts gm_367 gm_3 gm_370 ⟨by decide +kernel, by decide +kernel, by decide +kernel⟩ ⟨Nat.le_of_ble_eq_true rfl, Nat.le_of_ble_eq_true rfl⟩), hts _ gm_369, hts _ gs_0⟩ (gs_preV hK hov hE hI hM hm hS hA 3 0 (by decide) rfl rfl) rfl rfl hl.1 rfl (lv_room (Nat.le_of_ble_eq_true rfl)) dX7_readSign_1 ⟨Nat.le_of_ble_eq_true rfl, Nat.le_of_ble_eq_true rfl⟩) hm hS hA (fun st_1 H locs hw_1 hM hS => ?_)
  obtain ⟨n_1, hw_1⟩ := hw_1
  have hB_st_1 : gBN bX kX [301, 302, 303, 304, 305] st st_1 := hB_st.call n_1 (by decide)
  refine lv_aload_n hx hb dX7_readSign_4 rfl (lv_at hl 0 rfl) ?_
  refine lv_iload_n hx hb dX7_readSign_5 rfl (lv_at hl 1 rfl) ?_
  refine gs_calli (va_runV (As := [.int x]) (rest := []) ⟨hx, hb, hml, hown, hts⟩ (s_X7_isSign l G cy sK sV ad H.size st_1 hB_st_1.1 x ) ⟨(gz_cb (n := 1) hts gm_477 gm_3 gm_480 ⟨by decide +kernel, by decide +kernel, by decide +kernel⟩ ⟨Nat.le_of_ble_eq_true rfl, Nat.le_of_ble_eq_true rfl⟩), hts _ gm_479, hts _ gs_9⟩ (gs_preV hK hov hE hI hM hm hS hA 3 0 (by decide) rfl rfl) rfl rfl hl.1 rfl (lv_room (Nat.le_of_ble_eq_true rfl)) dX7_readSign_6 ⟨Nat.le_of_ble_eq_true rfl, Nat.le_of_ble_eq_true rfl⟩) hm hS hA (fun r_2 st_2 H locs hw_2 hM hS => ?_)
  obtain ⟨n_2, hw_2⟩ := hw_2
  have n_2 := gBN.nil n_2
  subst n_2
  rcases hw_2 with rfl | rfl
  · skip
    refine lv_if_ne (tgt := 19) hx hb dX7_readSign_9 (by decide) (fun _ => ?_) (fun h9 => absurd h9 (by decide))
    refine lv_iconst (v := 1) hx hb dX7_readSign_19 (by decide) ?_
    refine lv_goto (tgt := 24) hx hb dX7_readSign_20 (by decide) ?_
    exact gs_iret hx hb hr hlocks hM hS (by decide) ⟨hB_st_1, (Or.inl rfl)⟩ (by exact Nat.le_refl _) (by exact Nat.le_refl _) dX7_readSign_24
  · skip
    refine lv_if_ne (tgt := 19) hx hb dX7_readSign_9 (by decide) (fun h9 => absurd (by decide) h9) (fun _ => ?_)
    refine lv_aload_n hx hb dX7_readSign_12 rfl (lv_at hl 0 rfl) ?_
    refine gs_calli (va_runV (As := []) (rest := []) ⟨hx, hb, hml, hown, hts⟩ (s_X7_cannotCome l G cy sK sV ad H.size st_1 hB_st_1.1  ) ⟨(gz_cb (n := 0) hts gm_452 gm_3 gm_455 ⟨by decide +kernel, by decide +kernel, by decide +kernel⟩ ⟨Nat.le_of_ble_eq_true rfl, Nat.le_of_ble_eq_true rfl⟩), hts _ gm_454, hts _ gs_4⟩ (gs_preV hK hov hE hI hM hm hS hA 3 0 (by decide) rfl rfl) rfl rfl hl.1 rfl (lv_room (Nat.le_of_ble_eq_true rfl)) dX7_readSign_13 ⟨Nat.le_of_ble_eq_true rfl, Nat.le_of_ble_eq_true rfl⟩) hm hS hA (fun r_3 st_3 H locs hw_3 hM hS => ?_)
    obtain ⟨n_3, hw_3⟩ := hw_3
    have hB_st_3 : gBN bX kX [301, 302, 303, 304, 305] st st_3 := hB_st_1.call n_3 (by decide)
    obtain rfl := hw_3
    refine lv_if_eq (tgt := 23) hx hb dX7_readSign_16 (by decide) (fun _ => ?_) (fun h9 => absurd (by decide) h9)
    refine lv_iconst (v := 0) hx hb dX7_readSign_23 (by decide) ?_
    exact gs_iret hx hb hr hlocks hM hS (by decide) ⟨hB_st_3, (Or.inr (rfl))⟩ (by exact Nat.le_refl _) (by exact Nat.le_refl _) dX7_readSign_24

set_option maxHeartbeats 4000000 in
set_option maxRecDepth 100000 in
/-- WellCourt$Reader.readWord -/
theorem s_X7_readWord (l : Launch) (G : va_G) (cy : Nat → ClassId) (sK sV : Nat → Nat) (ad : Nat → Nat → Nat) (sz : Nat) (st : gS) (hB : gBd bX st) (i : Nat) (hi_i : i < 9) : gsMi l yX7_readWord cX7_readWord 2 (some .boolean) ({ frames := 5, cells := 0, slots := 0, locals := 107 } : Room) G cy sK sV (shX cy ad) cnX ad sz [.ref (ad 3 0), .ref (sK i)] st (fun (r : Int32) (u : gS) => gBN bX kX [301, 302, 303, 304, 305] st u ∧ ((r = 1) ∨ (r = 0))) := by
  refine gs_start (fun A => gsQi G (shX cy ad) cnX ad _ A) (by decide) (Nat.le_of_ble_eq_true rfl) ?_
  intro p e s m below meth c A ls H hx hb hr hml hlocks hown hts hK hov hE hI hM hm hS hA hl
  have hl : lv_has ls 2 [(0, .ref (ad 3 0)), (1, .ref (sK i))] := hl
  have hB_st : gBN bX kX [301, 302, 303, 304, 305] st st := gBN.rf hB
  refine lv_aload_n hx hb dX7_readWord_0 rfl (lv_at hl 0 rfl) ?_
  refine gs_callv (va_runV (As := []) (rest := []) ⟨hx, hb, hml, hown, hts⟩ (s_X7_advance l G cy sK sV ad H.size st hB_st.1  ) ⟨(gz_cb (n := 0) hts gm_367 gm_3 gm_370 ⟨by decide +kernel, by decide +kernel, by decide +kernel⟩ ⟨Nat.le_of_ble_eq_true rfl, Nat.le_of_ble_eq_true rfl⟩), hts _ gm_369, hts _ gs_0⟩ (gs_preV hK hov hE hI hM hm hS hA 3 0 (by decide) rfl rfl) rfl rfl hl.1 rfl (lv_room (Nat.le_of_ble_eq_true rfl)) dX7_readWord_1 ⟨Nat.le_of_ble_eq_true rfl, Nat.le_of_ble_eq_true rfl⟩) hm hS hA (fun st_1 H locs hw_1 hM hS => ?_)
  obtain ⟨n_1, hw_1⟩ := hw_1
  have hB_st_1 : gBN bX kX [301, 302, 303, 304, 305] st st_1 := hB_st.call n_1 (by decide)
  refine lv_aload_n hx hb dX7_readWord_4 rfl (lv_at hl 0 rfl) ?_
  refine lv_aload_n hx hb dX7_readWord_5 rfl (lv_at hl 1 rfl) ?_
  refine gs_calli (va_runV (As := [.ref (sK i)]) (rest := []) ⟨hx, hb, hml, hown, hts⟩ (s_X7_isWord l G cy sK sV ad H.size st_1 hB_st_1.1 i hi_i ) ⟨(gz_cb (n := 1) hts gm_396 gm_3 gm_399 ⟨by decide +kernel, by decide +kernel, by decide +kernel⟩ ⟨Nat.le_of_ble_eq_true rfl, Nat.le_of_ble_eq_true rfl⟩), hts _ gm_398, hts _ gs_3⟩ (gs_preV hK hov hE hI hM hm hS hA 3 0 (by decide) rfl rfl) rfl rfl hl.1 rfl (lv_room (Nat.le_of_ble_eq_true rfl)) dX7_readWord_6 ⟨Nat.le_of_ble_eq_true rfl, Nat.le_of_ble_eq_true rfl⟩) hm hS hA (fun r_2 st_2 H locs hw_2 hM hS => ?_)
  obtain ⟨n_2, hw_2⟩ := hw_2
  have n_2 := gBN.nil n_2
  subst n_2
  rcases hw_2 with rfl | rfl
  · skip
    refine lv_if_ne (tgt := 19) hx hb dX7_readWord_9 (by decide) (fun _ => ?_) (fun h9 => absurd h9 (by decide))
    refine lv_iconst (v := 1) hx hb dX7_readWord_19 (by decide) ?_
    refine lv_goto (tgt := 24) hx hb dX7_readWord_20 (by decide) ?_
    exact gs_iret hx hb hr hlocks hM hS (by decide) ⟨hB_st_1, (Or.inl rfl)⟩ (by exact Nat.le_refl _) (by exact Nat.le_refl _) dX7_readWord_24
  · skip
    refine lv_if_ne (tgt := 19) hx hb dX7_readWord_9 (by decide) (fun h9 => absurd (by decide) h9) (fun _ => ?_)
    refine lv_aload_n hx hb dX7_readWord_12 rfl (lv_at hl 0 rfl) ?_
    refine gs_calli (va_runV (As := []) (rest := []) ⟨hx, hb, hml, hown, hts⟩ (s_X7_cannotCome l G cy sK sV ad H.size st_1 hB_st_1.1  ) ⟨(gz_cb (n := 0) hts gm_452 gm_3 gm_455 ⟨by decide +kernel, by decide +kernel, by decide +kernel⟩ ⟨Nat.le_of_ble_eq_true rfl, Nat.le_of_ble_eq_true rfl⟩), hts _ gm_454, hts _ gs_4⟩ (gs_preV hK hov hE hI hM hm hS hA 3 0 (by decide) rfl rfl) rfl rfl hl.1 rfl (lv_room (Nat.le_of_ble_eq_true rfl)) dX7_readWord_13 ⟨Nat.le_of_ble_eq_true rfl, Nat.le_of_ble_eq_true rfl⟩) hm hS hA (fun r_3 st_3 H locs hw_3 hM hS => ?_)
    obtain ⟨n_3, hw_3⟩ := hw_3
    have hB_st_3 : gBN bX kX [301, 302, 303, 304, 305] st st_3 := hB_st_1.call n_3 (by decide)
    obtain rfl := hw_3
    refine lv_if_eq (tgt := 23) hx hb dX7_readWord_16 (by decide) (fun _ => ?_) (fun h9 => absurd (by decide) h9)
    refine lv_iconst (v := 0) hx hb dX7_readWord_23 (by decide) ?_
    exact gs_iret hx hb hr hlocks hM hS (by decide) ⟨hB_st_3, (Or.inr (rfl))⟩ (by exact Nat.le_refl _) (by exact Nat.le_refl _) dX7_readWord_24

set_option maxHeartbeats 4000000 in
set_option maxRecDepth 100000 in
/-- WellCourt$Reader.readClan -/
theorem s_X7_readClan (l : Launch) (G : va_G) (cy : Nat → ClassId) (sK sV : Nat → Nat) (ad : Nat → Nat → Nat) (sz : Nat) (st : gS) (hB : gBd bX st) (x : Int32) (Xx : Int) (kx : x.toInt = Xx) : gsMi l yX7_readClan cX7_readClan 3 (some .int) ({ frames := 3, cells := 0, slots := 0, locals := 65 } : Room) G cy sK sV (shX cy ad) cnX ad sz [.ref (ad 3 0), .int x] st (fun (r : Int32) (u : gS) => gBN bX kX [301, 302, 303, 304, 305] st u ∧ ((r.toInt = -1 ∨ (0 ≤ r.toInt ∧ r.toInt ≤ 5)))) := by
  refine gs_start (fun A => gsQi G (shX cy ad) cnX ad _ A) (by decide) (Nat.le_of_ble_eq_true rfl) ?_
  intro p e s m below meth c A ls H hx hb hr hml hlocks hown hts hK hov hE hI hM hm hS hA hl
  have hl : lv_has ls 3 [(0, .ref (ad 3 0)), (1, .int x)] := hl
  have hB_st : gBN bX kX [301, 302, 303, 304, 305] st st := gBN.rf hB
  refine lv_aload_n hx hb dX7_readClan_0 rfl (lv_at hl 0 rfl) ?_
  refine gs_callv (va_runV (As := []) (rest := []) ⟨hx, hb, hml, hown, hts⟩ (s_X7_advance l G cy sK sV ad H.size st hB_st.1  ) ⟨(gz_cb (n := 0) hts gm_367 gm_3 gm_370 ⟨by decide +kernel, by decide +kernel, by decide +kernel⟩ ⟨Nat.le_of_ble_eq_true rfl, Nat.le_of_ble_eq_true rfl⟩), hts _ gm_369, hts _ gs_0⟩ (gs_preV hK hov hE hI hM hm hS hA 3 0 (by decide) rfl rfl) rfl rfl hl.1 rfl (lv_room (Nat.le_of_ble_eq_true rfl)) dX7_readClan_1 ⟨Nat.le_of_ble_eq_true rfl, Nat.le_of_ble_eq_true rfl⟩) hm hS hA (fun st_1 H locs hw_1 hM hS => ?_)
  obtain ⟨n_1, hw_1⟩ := hw_1
  have hB_st_1 : gBN bX kX [301, 302, 303, 304, 305] st st_1 := hB_st.call n_1 (by decide)
  refine lv_aload_n hx hb dX7_readClan_4 rfl (lv_at hl 0 rfl) ?_
  refine gs_get (C := RX7) (T := TX7) (N := 6) hx hb hts inX7 hown hK hM 3 0 1 (by decide) rfl rfl (by decide) (hts _ gm_54) (fun _ h9 => h9) rfl dX7_readClan_5 ?_
  refine lv_iconst (v := 2) hx hb dX7_readClan_8 (by decide) ?_
  refine lv_icmp_ne (tgt := 42) hx hb dX7_readClan_9 (by decide) (fun c_3 => ?_) (fun c_3 => ?_)
  · have ic_3 := gz_ne (rfl : (st_1 3 0 1).toInt = (st_1 3 0 1).toInt) (by decide : (2 : Int32).toInt = 2) c_3
    refine lv_iconst (v := (-1)) hx hb dX7_readClan_42 (by decide) ?_
    refine lv_istore_n (lv' := [(2, .int (-1)), (0, .ref (ad 3 0)), (1, .int x)]) hx hb dX7_readClan_43 rfl hl (by decide) rfl (fun ls hl => ?_)
    refine lv_iload_n hx hb dX7_readClan_44 rfl (lv_at hl 0 rfl) ?_
    refine gs_calli (va_runSN (As := [.int (-1)]) (rest := []) ⟨hx, hb, hml, hown, hts⟩ (s_isClan l G cy sK sV ad H.size st_1 hB_st_1.1 ((-1) : Int32) (-1) (by decide) ) ⟨(va_cnB 1 hts (gz_good gm_487) rfl rfl rfl (hov.2.2 _ gn_485) (hts _ gm_1) ⟨by decide +kernel, by decide +kernel, by decide +kernel⟩ ⟨Nat.le_of_ble_eq_true rfl, Nat.le_of_ble_eq_true rfl⟩), hts _ gm_486, trivial⟩ (gs_preS hK hov hE hI hM hm hS hA) rfl rfl hl.1 rfl (lv_room (Nat.le_of_ble_eq_true rfl)) dX7_readClan_45 ⟨Nat.le_of_ble_eq_true rfl, Nat.le_of_ble_eq_true rfl⟩) hm hS hA (fun r_4 st_4 H locs hw_4 hM hS => ?_)
    obtain ⟨n_4, hw_4⟩ := hw_4
    have n_4 := gBN.nil n_4
    subst n_4
    rcases hw_4 with ⟨rfl, hw_4_0, hw_4_1⟩ | ⟨rfl, hw_4_0⟩
    · exfalso; omega
    · skip
      refine lv_if_ne (tgt := 58) hx hb dX7_readClan_48 (by decide) (fun h9 => absurd (by decide) h9) (fun _ => ?_)
      refine lv_aload_n hx hb dX7_readClan_51 rfl (lv_at hl 1 rfl) ?_
      refine gs_calli (va_runV (As := []) (rest := []) ⟨hx, hb, hml, hown, hts⟩ (s_X7_cannotCome l G cy sK sV ad H.size st_1 hB_st_1.1  ) ⟨(gz_cb (n := 0) hts gm_452 gm_3 gm_455 ⟨by decide +kernel, by decide +kernel, by decide +kernel⟩ ⟨Nat.le_of_ble_eq_true rfl, Nat.le_of_ble_eq_true rfl⟩), hts _ gm_454, hts _ gs_4⟩ (gs_preV hK hov hE hI hM hm hS hA 3 0 (by decide) rfl rfl) rfl rfl hl.1 rfl (lv_room (Nat.le_of_ble_eq_true rfl)) dX7_readClan_52 ⟨Nat.le_of_ble_eq_true rfl, Nat.le_of_ble_eq_true rfl⟩) hm hS hA (fun r_5 st_5 H locs hw_5 hM hS => ?_)
      obtain ⟨n_5, hw_5⟩ := hw_5
      have hB_st_5 : gBN bX kX [301, 302, 303, 304, 305] st st_5 := hB_st_1.call n_5 (by decide)
      obtain rfl := hw_5
      refine lv_pop hx hb dX7_readClan_55 rfl ?_
      refine lv_iconst (v := (-1)) hx hb dX7_readClan_56 (by decide) ?_
      exact gs_iret hx hb hr hlocks hM hS rfl ⟨hB_st_5, (by have hl0 : ((-1) : Int32).toInt = -1 := (by decide); omega)⟩ (by exact Nat.le_refl _) (by exact Nat.le_refl _) dX7_readClan_57
  · have ic_3 := gz_eqn (rfl : (st_1 3 0 1).toInt = (st_1 3 0 1).toInt) (by decide : (2 : Int32).toInt = 2) c_3
    refine lv_aload_n hx hb dX7_readClan_12 rfl (lv_at hl 0 rfl) ?_
    refine gs_get (C := RX7) (T := TX7) (N := 6) hx hb hts inX7 hown hK hM 3 0 3 (by decide) rfl rfl (by decide) (hts _ gm_56) (fun _ h9 => h9) rfl dX7_readClan_13 ?_
    refine lv_aload_n hx hb dX7_readClan_16 rfl (lv_at hl 0 rfl) ?_
    refine gs_get (C := RX7) (T := TX7) (N := 6) hx hb hts inX7 hown hK hM 3 0 2 (by decide) rfl rfl (by decide) (hts _ gm_55) (fun _ h9 => h9) rfl dX7_readClan_17 ?_
    refine lv_isub hx hb dX7_readClan_20 ?_
    refine lv_topi (fun x_8 ex_8 => ?_)
    try have tx_8 : x_8.toInt = (st_1 3 0 3).toInt - (st_1 3 0 2).toInt := by rw [ex_8]; exact gz_subI (x := (st_1 3 0 3).toInt) (y := (st_1 3 0 2).toInt) rfl rfl (by omega) (by omega)
    refine lv_iconst (v := 1) hx hb dX7_readClan_21 (by decide) ?_
    refine lv_icmp_ne (tgt := 42) hx hb dX7_readClan_22 (by decide) (fun c_9 => ?_) (fun c_9 => ?_)
    · have ic_9 := gz_ne (rfl : x_8.toInt = x_8.toInt) (by decide : (1 : Int32).toInt = 1) c_9
      refine lv_iconst (v := (-1)) hx hb dX7_readClan_42 (by decide) ?_
      refine lv_istore_n (lv' := [(2, .int (-1)), (0, .ref (ad 3 0)), (1, .int x)]) hx hb dX7_readClan_43 rfl hl (by decide) rfl (fun ls hl => ?_)
      refine lv_iload_n hx hb dX7_readClan_44 rfl (lv_at hl 0 rfl) ?_
      refine gs_calli (va_runSN (As := [.int (-1)]) (rest := []) ⟨hx, hb, hml, hown, hts⟩ (s_isClan l G cy sK sV ad H.size st_1 hB_st_1.1 ((-1) : Int32) (-1) (by decide) ) ⟨(va_cnB 1 hts (gz_good gm_487) rfl rfl rfl (hov.2.2 _ gn_485) (hts _ gm_1) ⟨by decide +kernel, by decide +kernel, by decide +kernel⟩ ⟨Nat.le_of_ble_eq_true rfl, Nat.le_of_ble_eq_true rfl⟩), hts _ gm_486, trivial⟩ (gs_preS hK hov hE hI hM hm hS hA) rfl rfl hl.1 rfl (lv_room (Nat.le_of_ble_eq_true rfl)) dX7_readClan_45 ⟨Nat.le_of_ble_eq_true rfl, Nat.le_of_ble_eq_true rfl⟩) hm hS hA (fun r_10 st_10 H locs hw_10 hM hS => ?_)
      obtain ⟨n_10, hw_10⟩ := hw_10
      have n_10 := gBN.nil n_10
      subst n_10
      rcases hw_10 with ⟨rfl, hw_10_0, hw_10_1⟩ | ⟨rfl, hw_10_0⟩
      · exfalso; omega
      · skip
        refine lv_if_ne (tgt := 58) hx hb dX7_readClan_48 (by decide) (fun h9 => absurd (by decide) h9) (fun _ => ?_)
        refine lv_aload_n hx hb dX7_readClan_51 rfl (lv_at hl 1 rfl) ?_
        refine gs_calli (va_runV (As := []) (rest := []) ⟨hx, hb, hml, hown, hts⟩ (s_X7_cannotCome l G cy sK sV ad H.size st_1 hB_st_1.1  ) ⟨(gz_cb (n := 0) hts gm_452 gm_3 gm_455 ⟨by decide +kernel, by decide +kernel, by decide +kernel⟩ ⟨Nat.le_of_ble_eq_true rfl, Nat.le_of_ble_eq_true rfl⟩), hts _ gm_454, hts _ gs_4⟩ (gs_preV hK hov hE hI hM hm hS hA 3 0 (by decide) rfl rfl) rfl rfl hl.1 rfl (lv_room (Nat.le_of_ble_eq_true rfl)) dX7_readClan_52 ⟨Nat.le_of_ble_eq_true rfl, Nat.le_of_ble_eq_true rfl⟩) hm hS hA (fun r_11 st_11 H locs hw_11 hM hS => ?_)
        obtain ⟨n_11, hw_11⟩ := hw_11
        have hB_st_11 : gBN bX kX [301, 302, 303, 304, 305] st st_11 := hB_st_1.call n_11 (by decide)
        obtain rfl := hw_11
        refine lv_pop hx hb dX7_readClan_55 rfl ?_
        refine lv_iconst (v := (-1)) hx hb dX7_readClan_56 (by decide) ?_
        exact gs_iret hx hb hr hlocks hM hS rfl ⟨hB_st_11, (by have hl0 : ((-1) : Int32).toInt = -1 := (by decide); omega)⟩ (by exact Nat.le_refl _) (by exact Nat.le_refl _) dX7_readClan_57
    · have ic_9 := gz_eqn (rfl : x_8.toInt = x_8.toInt) (by decide : (1 : Int32).toInt = 1) c_9
      refine lv_aload_n hx hb dX7_readClan_25 rfl (lv_at hl 0 rfl) ?_
      refine gs_get (C := RX7) (T := TX7) (N := 6) hx hb hts inX7 hown hK hM 3 0 0 (by decide) rfl rfl (by decide) (hts _ gm_53) (fun _ h9 => h9) rfl dX7_readClan_26 ?_
      refine lv_aload_n hx hb dX7_readClan_29 rfl (lv_at hl 0 rfl) ?_
      refine gs_get (C := RX7) (T := TX7) (N := 6) hx hb hts inX7 hown hK hM 3 0 2 (by decide) rfl rfl (by decide) (hts _ gm_55) (fun _ h9 => h9) rfl dX7_readClan_30 ?_
      refine gs_calli (va_runV (As := [.int (st_1 3 0 2)]) (rest := []) ⟨hx, hb, hml, hown, hts⟩ (s_X8_byteAt l G cy sK sV ad H.size st_1 hB_st_1.1 (st_1 3 0 2) ((st_1 3 0 2).toInt) rfl ) ⟨(gz_cb (n := 1) hts gm_371 gm_2 gm_374 ⟨by decide +kernel, by decide +kernel, by decide +kernel⟩ ⟨Nat.le_of_ble_eq_true rfl, Nat.le_of_ble_eq_true rfl⟩), hts _ gm_372, hts _ gm_373⟩ (gs_preV hK hov hE hI hM hm hS hA 1 0 (by decide) rfl rfl) rfl rfl hl.1 rfl (lv_room (Nat.le_of_ble_eq_true rfl)) dX7_readClan_33 ⟨Nat.le_of_ble_eq_true rfl, Nat.le_of_ble_eq_true rfl⟩) hm hS hA (fun r_13 st_13 H locs hw_13 hM hS => ?_)
      obtain ⟨n_13, hw_13⟩ := hw_13
      have n_13 := gBN.nil n_13
      subst n_13
      have hqhw_130 : (st_1 1 0 1).toInt = ((st 1 0 1) : Int32).toInt := congrArg Int32.toInt ((n_1.2 1 0 1 (show (101 : Nat) ∉ _ from by decide)))
      have hbhw_131 : (0 : Int) ≤ (st_1 1 0 1).toInt ∧ (st_1 1 0 1).toInt ≤ (800 : Int) := hB_st_1.1 1 0 1
      have hw_13_0 := hw_13
      refine lv_bipush (v := 97) hx hb dX7_readClan_36 (by decide) ?_
      refine lv_isub hx hb dX7_readClan_38 ?_
      refine lv_topi (fun x_14 ex_14 => ?_)
      try have tx_14 : x_14.toInt = r_13.toInt - 97 := by rw [ex_14]; exact gz_subP (x := r_13.toInt) (y := 97) rfl (by decide) (by omega) (by omega)
      refine lv_goto (tgt := 43) hx hb dX7_readClan_39 (by decide) ?_
      refine lv_istore_n (lv' := [(2, .int x_14), (0, .ref (ad 3 0)), (1, .int x)]) hx hb dX7_readClan_43 rfl hl (by decide) rfl (fun ls hl => ?_)
      refine lv_iload_n hx hb dX7_readClan_44 rfl (lv_at hl 0 rfl) ?_
      refine gs_calli (va_runSN (As := [.int x_14]) (rest := []) ⟨hx, hb, hml, hown, hts⟩ (s_isClan l G cy sK sV ad H.size st_1 hB_st_1.1 x_14 x_14.toInt rfl ) ⟨(va_cnB 1 hts (gz_good gm_487) rfl rfl rfl (hov.2.2 _ gn_485) (hts _ gm_1) ⟨by decide +kernel, by decide +kernel, by decide +kernel⟩ ⟨Nat.le_of_ble_eq_true rfl, Nat.le_of_ble_eq_true rfl⟩), hts _ gm_486, trivial⟩ (gs_preS hK hov hE hI hM hm hS hA) rfl rfl hl.1 rfl (lv_room (Nat.le_of_ble_eq_true rfl)) dX7_readClan_45 ⟨Nat.le_of_ble_eq_true rfl, Nat.le_of_ble_eq_true rfl⟩) hm hS hA (fun r_15 st_15 H locs hw_15 hM hS => ?_)
      obtain ⟨n_15, hw_15⟩ := hw_15
      have n_15 := gBN.nil n_15
      subst n_15
      rcases hw_15 with ⟨rfl, hw_15_0, hw_15_1⟩ | ⟨rfl, hw_15_0⟩
      · skip
        refine lv_if_ne (tgt := 58) hx hb dX7_readClan_48 (by decide) (fun _ => ?_) (fun h9 => absurd h9 (by decide))
        refine lv_iload_n hx hb dX7_readClan_58 rfl (lv_at hl 0 rfl) ?_
        refine lv_iload_n hx hb dX7_readClan_59 rfl (lv_at hl 2 rfl) ?_
        refine lv_icmp_ne (tgt := 71) hx hb dX7_readClan_60 (by decide) (fun c_16 => ?_) (fun c_16 => ?_)
        · have ic_16 := gz_ne (rfl : x_14.toInt = x_14.toInt) (rfl : x.toInt = x.toInt) c_16
          refine lv_iload_n hx hb dX7_readClan_71 rfl (lv_at hl 0 rfl) ?_
          exact gs_iret hx hb hr hlocks hM hS rfl ⟨hB_st_1, (by omega)⟩ (by exact Nat.le_refl _) (by exact Nat.le_refl _) dX7_readClan_72
        · have ic_16 := gz_eqn (rfl : x_14.toInt = x_14.toInt) (rfl : x.toInt = x.toInt) c_16
          refine lv_aload_n hx hb dX7_readClan_63 rfl (lv_at hl 1 rfl) ?_
          refine lv_iconst (v := 3) hx hb dX7_readClan_64 (by decide) ?_
          refine gs_calli (va_runV (As := [.int 3]) (rest := []) ⟨hx, hb, hml, hown, hts⟩ (s_X7_fail l G cy sK sV ad H.size st_1 hB_st_1.1 (3 : Int32) ) ⟨(gz_cb (n := 1) hts gm_456 gm_3 gm_459 ⟨by decide +kernel, by decide +kernel, by decide +kernel⟩ ⟨Nat.le_of_ble_eq_true rfl, Nat.le_of_ble_eq_true rfl⟩), hts _ gm_458, hts _ gs_5⟩ (gs_preV hK hov hE hI hM hm hS hA 3 0 (by decide) rfl rfl) rfl rfl hl.1 rfl (lv_room (Nat.le_of_ble_eq_true rfl)) dX7_readClan_65 ⟨Nat.le_of_ble_eq_true rfl, Nat.le_of_ble_eq_true rfl⟩) hm hS hA (fun r_17 st_17 H locs hw_17 hM hS => ?_)
          obtain ⟨n_17, hw_17⟩ := hw_17
          have hB_st_17 : gBN bX kX [301, 302, 303, 304, 305] st st_17 := hB_st_1.call n_17 (by decide)
          obtain rfl := hw_17
          refine lv_pop hx hb dX7_readClan_68 rfl ?_
          refine lv_iconst (v := (-1)) hx hb dX7_readClan_69 (by decide) ?_
          exact gs_iret hx hb hr hlocks hM hS rfl ⟨hB_st_17, (by have hl0 : ((-1) : Int32).toInt = -1 := (by decide); omega)⟩ (by exact Nat.le_refl _) (by exact Nat.le_refl _) dX7_readClan_70
      · skip
        refine lv_if_ne (tgt := 58) hx hb dX7_readClan_48 (by decide) (fun h9 => absurd (by decide) h9) (fun _ => ?_)
        refine lv_aload_n hx hb dX7_readClan_51 rfl (lv_at hl 1 rfl) ?_
        refine gs_calli (va_runV (As := []) (rest := []) ⟨hx, hb, hml, hown, hts⟩ (s_X7_cannotCome l G cy sK sV ad H.size st_1 hB_st_1.1  ) ⟨(gz_cb (n := 0) hts gm_452 gm_3 gm_455 ⟨by decide +kernel, by decide +kernel, by decide +kernel⟩ ⟨Nat.le_of_ble_eq_true rfl, Nat.le_of_ble_eq_true rfl⟩), hts _ gm_454, hts _ gs_4⟩ (gs_preV hK hov hE hI hM hm hS hA 3 0 (by decide) rfl rfl) rfl rfl hl.1 rfl (lv_room (Nat.le_of_ble_eq_true rfl)) dX7_readClan_52 ⟨Nat.le_of_ble_eq_true rfl, Nat.le_of_ble_eq_true rfl⟩) hm hS hA (fun r_18 st_18 H locs hw_18 hM hS => ?_)
        obtain ⟨n_18, hw_18⟩ := hw_18
        have hB_st_18 : gBN bX kX [301, 302, 303, 304, 305] st st_18 := hB_st_1.call n_18 (by decide)
        obtain rfl := hw_18
        refine lv_pop hx hb dX7_readClan_55 rfl ?_
        refine lv_iconst (v := (-1)) hx hb dX7_readClan_56 (by decide) ?_
        exact gs_iret hx hb hr hlocks hM hS rfl ⟨hB_st_18, (by have hl0 : ((-1) : Int32).toInt = -1 := (by decide); omega)⟩ (by exact Nat.le_refl _) (by exact Nat.le_refl _) dX7_readClan_57

set_option maxHeartbeats 4000000 in
set_option maxRecDepth 100000 in
/-- WellCourt$Reader.readNumber -/
theorem s_X7_readNumber (l : Launch) (G : va_G) (cy : Nat → ClassId) (sK sV : Nat → Nat) (ad : Nat → Nat → Nat) (sz : Nat) (st : gS) (hB : gBd bX st) (x : Int32) (y : Int32) (Xx : Int) (Xy : Int) (kx : x.toInt = Xx) (ky : y.toInt = Xy) : gsMi l yX7_readNumber cX7_readNumber 5 (some .int) ({ frames := 3, cells := 0, slots := 0, locals := 65 } : Room) G cy sK sV (shX cy ad) cnX ad sz [.ref (ad 3 0), .int x, .int y] st (fun (r : Int32) (u : gS) => gBN bX kX [301, 302, 303, 304, 305] st u ∧ ((r.toInt = -1 ∨ (Xx ≤ r.toInt ∧ r.toInt ≤ Xy)))) := by
  refine gs_start (fun A => gsQi G (shX cy ad) cnX ad _ A) (by decide) (Nat.le_of_ble_eq_true rfl) ?_
  intro p e s m below meth c A ls H hx hb hr hml hlocks hown hts hK hov hE hI hM hm hS hA hl
  have hl : lv_has ls 5 [(0, .ref (ad 3 0)), (1, .int x), (2, .int y)] := hl
  have hB_st : gBN bX kX [301, 302, 303, 304, 305] st st := gBN.rf hB
  generalize hQe : MQ below _ _ s _ _ A = Q
  refine lv_aload_n hx hb dX7_readNumber_0 rfl (lv_at hl 0 rfl) ?_
  refine gs_callv (va_runV (As := []) (rest := []) ⟨hx, hb, hml, hown, hts⟩ (s_X7_advance l G cy sK sV ad H.size st hB_st.1  ) ⟨(gz_cb (n := 0) hts gm_367 gm_3 gm_370 ⟨by decide +kernel, by decide +kernel, by decide +kernel⟩ ⟨Nat.le_of_ble_eq_true rfl, Nat.le_of_ble_eq_true rfl⟩), hts _ gm_369, hts _ gs_0⟩ (gs_preV hK hov hE hI hM hm hS hA 3 0 (by decide) rfl rfl) rfl rfl hl.1 rfl (lv_room (Nat.le_of_ble_eq_true rfl)) dX7_readNumber_1 ⟨Nat.le_of_ble_eq_true rfl, Nat.le_of_ble_eq_true rfl⟩) hm hS hA (fun st_1 H locs hw_1 hM hS => ?_)
  obtain ⟨n_1, hw_1⟩ := hw_1
  have hB_st_1 : gBN bX kX [301, 302, 303, 304, 305] st st_1 := hB_st.call n_1 (by decide)
  refine lv_aload_n hx hb dX7_readNumber_4 rfl (lv_at hl 0 rfl) ?_
  refine gs_get (C := RX7) (T := TX7) (N := 6) hx hb hts inX7 hown hK hM 3 0 1 (by decide) rfl rfl (by decide) (hts _ gm_54) (fun _ h9 => h9) rfl dX7_readNumber_5 ?_
  refine lv_iconst (v := 3) hx hb dX7_readNumber_8 (by decide) ?_
  refine lv_icmp_eq (tgt := 19) hx hb dX7_readNumber_9 (by decide) (fun c_3 => ?_) (fun c_3 => ?_)
  · have ic_3 := gz_eq (rfl : (st_1 3 0 1).toInt = (st_1 3 0 1).toInt) (by decide : (3 : Int32).toInt = 3) c_3
    refine lv_iconst (v := 0) hx hb dX7_readNumber_19 (by decide) ?_
    refine lv_istore_n (lv' := [(3, .int 0), (0, .ref (ad 3 0)), (1, .int x), (2, .int y)]) hx hb dX7_readNumber_20 rfl hl (by decide) rfl (fun ls hl => ?_)
    refine lv_aload_n hx hb dX7_readNumber_21 rfl (lv_at hl 1 rfl) ?_
    refine gs_get (C := RX7) (T := TX7) (N := 6) hx hb hts inX7 hown hK hM 3 0 2 (by decide) rfl rfl (by decide) (hts _ gm_55) (fun _ h9 => h9) rfl dX7_readNumber_22 ?_
    refine lv_istore (lv' := [(4, .int (st_1 3 0 2)), (3, .int 0), (0, .ref (ad 3 0)), (1, .int x), (2, .int y)]) hx hb dX7_readNumber_25 hl (by decide) rfl (fun ls hl => ?_)
    have lp5 : ∀ (n5 : Nat) (sv5 : gS) (y5_0 : Int32) (y5_1 : Int32) (H : Heap) (locs : List Loc) (ls : Array Slot), ((sv5 3 0 3).toInt - y5_1.toInt).toNat < n5 → gBN bX kX [301, 302, 303, 304, 305] st sv5 →  gM G (shX cy ad) cnX ad sv5 H → va_S A s.heap H locs → lv_has ls 5 [(4, .int y5_1), (3, .int y5_0), (0, .ref (ad 3 0)), (1, .int x), (2, .int y)] → W p l e ({ frames := 3, cells := 0, slots := 0, locals := 65 } : Room) s m [.ref (ad 3 0), .int x, .int y].toArray below meth c H locs 0 0 Q (F0 m 27 ls []) := by
      intro n5
      induction n5 with
      | zero => intro sv5 y5_0 y5_1 H locs ls h9; exact absurd h9 (Nat.not_lt_zero _)
      | succ n5 ih_5 =>
        intro sv5 y5_0 y5_1 H locs ls hme5 hB_sv5  hM hS hl
        refine lv_iload hx hb dX7_readNumber_27 (lv_at hl 0 rfl) ?_
        refine lv_aload_n hx hb dX7_readNumber_29 rfl (lv_at hl 2 rfl) ?_
        refine gs_get (C := RX7) (T := TX7) (N := 6) hx hb hts inX7 hown hK hM 3 0 3 (by decide) rfl rfl (by decide) (hts _ gm_56) (fun _ h9 => h9) rfl dX7_readNumber_30 ?_
        refine lv_icmp_ge (tgt := 60) hx hb dX7_readNumber_33 (by decide) (fun c_7 => ?_) (fun c_7 => ?_)
        · have ic_7 := gz_le (rfl : (sv5 3 0 3).toInt = (sv5 3 0 3).toInt) (rfl : y5_1.toInt = y5_1.toInt) c_7
          refine lv_iload_n hx hb dX7_readNumber_60 rfl (lv_at hl 1 rfl) ?_
          refine lv_iload_n hx hb dX7_readNumber_61 rfl (lv_at hl 3 rfl) ?_
          refine lv_iload_n hx hb dX7_readNumber_62 rfl (lv_at hl 4 rfl) ?_
          refine gs_calli (va_runSN (As := [.int y5_0, .int x, .int y]) (rest := []) ⟨hx, hb, hml, hown, hts⟩ (s_isWithin l G cy sK sV ad H.size sv5 hB_sv5.1 y5_0 x y y5_0.toInt x.toInt y.toInt rfl rfl rfl ) ⟨(va_cnB 3 hts (gz_good gm_353) rfl rfl rfl (hov.2.2 _ gn_468) (hts _ gm_1) ⟨by decide +kernel, by decide +kernel, by decide +kernel⟩ ⟨Nat.le_of_ble_eq_true rfl, Nat.le_of_ble_eq_true rfl⟩), hts _ gm_352, trivial⟩ (gs_preS hK hov hE hI hM hm hS hA) rfl rfl hl.1 rfl (lv_room (Nat.le_of_ble_eq_true rfl)) dX7_readNumber_63 ⟨Nat.le_of_ble_eq_true rfl, Nat.le_of_ble_eq_true rfl⟩) hm hS hA (fun r_8 st_8 H locs hw_8 hM hS => ?_)
          obtain ⟨n_8, hw_8⟩ := hw_8
          have n_8 := gBN.nil n_8
          subst n_8
          rcases hw_8 with ⟨rfl, hw_8_0, hw_8_1⟩ | ⟨rfl, hw_8_0⟩
          · skip
            refine lv_if_ne (tgt := 77) hx hb dX7_readNumber_66 (by decide) (fun _ => ?_) (fun h9 => absurd h9 (by decide))
            refine lv_iload_n hx hb dX7_readNumber_77 rfl (lv_at hl 1 rfl) ?_
            rw [← hQe]
            exact gs_iret hx hb hr hlocks hM hS rfl ⟨hB_sv5, (by omega)⟩ (by exact Nat.le_refl _) (by exact Nat.le_refl _) dX7_readNumber_78
          · skip
            refine lv_if_ne (tgt := 77) hx hb dX7_readNumber_66 (by decide) (fun h9 => absurd (by decide) h9) (fun _ => ?_)
            refine lv_aload_n hx hb dX7_readNumber_69 rfl (lv_at hl 2 rfl) ?_
            refine lv_iconst (v := 3) hx hb dX7_readNumber_70 (by decide) ?_
            refine gs_calli (va_runV (As := [.int 3]) (rest := []) ⟨hx, hb, hml, hown, hts⟩ (s_X7_fail l G cy sK sV ad H.size sv5 hB_sv5.1 (3 : Int32) ) ⟨(gz_cb (n := 1) hts gm_456 gm_3 gm_459 ⟨by decide +kernel, by decide +kernel, by decide +kernel⟩ ⟨Nat.le_of_ble_eq_true rfl, Nat.le_of_ble_eq_true rfl⟩), hts _ gm_458, hts _ gs_5⟩ (gs_preV hK hov hE hI hM hm hS hA 3 0 (by decide) rfl rfl) rfl rfl hl.1 rfl (lv_room (Nat.le_of_ble_eq_true rfl)) dX7_readNumber_71 ⟨Nat.le_of_ble_eq_true rfl, Nat.le_of_ble_eq_true rfl⟩) hm hS hA (fun r_9 st_9 H locs hw_9 hM hS => ?_)
            obtain ⟨n_9, hw_9⟩ := hw_9
            have hB_st_9 : gBN bX kX [301, 302, 303, 304, 305] st st_9 := hB_sv5.call n_9 (by decide)
            obtain rfl := hw_9
            refine lv_pop hx hb dX7_readNumber_74 rfl ?_
            refine lv_iconst (v := (-1)) hx hb dX7_readNumber_75 (by decide) ?_
            rw [← hQe]
            exact gs_iret hx hb hr hlocks hM hS rfl ⟨hB_st_9, (by have hl0 : ((-1) : Int32).toInt = -1 := (by decide); omega)⟩ (by exact Nat.le_refl _) (by exact Nat.le_refl _) dX7_readNumber_76
        · have ic_7 := gz_nle (rfl : (sv5 3 0 3).toInt = (sv5 3 0 3).toInt) (rfl : y5_1.toInt = y5_1.toInt) c_7
          have lc_7 := gi_hi (sv5 3 0 3)
          refine lv_iload_n hx hb dX7_readNumber_36 rfl (lv_at hl 1 rfl) ?_
          refine lv_bipush (v := 10) hx hb dX7_readNumber_37 (by decide) ?_
          refine lv_imul hx hb dX7_readNumber_39 ?_
          refine lv_topi (fun x_10 ex_10 => ?_)
          refine lv_aload_n hx hb dX7_readNumber_40 rfl (lv_at hl 2 rfl) ?_
          refine gs_get (C := RX7) (T := TX7) (N := 6) hx hb hts inX7 hown hK hM 3 0 0 (by decide) rfl rfl (by decide) (hts _ gm_53) (fun _ h9 => h9) rfl dX7_readNumber_41 ?_
          refine lv_iload hx hb dX7_readNumber_44 (lv_at hl 0 rfl) ?_
          refine gs_calli (va_runV (As := [.int y5_1]) (rest := [.int x_10]) ⟨hx, hb, hml, hown, hts⟩ (s_X8_byteAt l G cy sK sV ad H.size sv5 hB_sv5.1 y5_1 y5_1.toInt rfl ) ⟨(gz_cb (n := 1) hts gm_371 gm_2 gm_374 ⟨by decide +kernel, by decide +kernel, by decide +kernel⟩ ⟨Nat.le_of_ble_eq_true rfl, Nat.le_of_ble_eq_true rfl⟩), hts _ gm_372, hts _ gm_373⟩ (gs_preV hK hov hE hI hM hm hS hA 1 0 (by decide) rfl rfl) rfl rfl hl.1 rfl (lv_room (Nat.le_of_ble_eq_true rfl)) dX7_readNumber_46 ⟨Nat.le_of_ble_eq_true rfl, Nat.le_of_ble_eq_true rfl⟩) hm hS hA (fun r_11 st_11 H locs hw_11 hM hS => ?_)
          obtain ⟨n_11, hw_11⟩ := hw_11
          have n_11 := gBN.nil n_11
          subst n_11
          have hqhw_110 : (sv5 1 0 1).toInt = ((st 1 0 1) : Int32).toInt := congrArg Int32.toInt ((hB_sv5.2 1 0 1 (show (101 : Nat) ∉ _ from by decide)))
          have hbhw_111 : (0 : Int) ≤ (sv5 1 0 1).toInt ∧ (sv5 1 0 1).toInt ≤ (800 : Int) := hB_sv5.1 1 0 1
          have hw_11_0 := hw_11
          refine lv_iadd hx hb dX7_readNumber_49 ?_
          refine lv_topi (fun x_12 ex_12 => ?_)
          refine lv_bipush (v := 48) hx hb dX7_readNumber_50 (by decide) ?_
          refine lv_isub hx hb dX7_readNumber_52 ?_
          refine lv_topi (fun x_13 ex_13 => ?_)
          refine lv_istore_n (lv' := [(3, .int x_13), (4, .int y5_1), (0, .ref (ad 3 0)), (1, .int x), (2, .int y)]) hx hb dX7_readNumber_53 rfl hl (by decide) rfl (fun ls hl => ?_)
          obtain ⟨x_14, ex_14⟩ : ∃ y : Int32, y = y5_1 + 1 := ⟨_, rfl⟩
          try have tx_14 : x_14.toInt = y5_1.toInt + 1 := by rw [ex_14]; exact gz_addP (x := y5_1.toInt) (y := 1) rfl (by decide) (by omega) (by omega)
          refine lv_iinc (v := (x_14)) (lv' := [(4, .int x_14), (3, .int x_13), (0, .ref (ad 3 0)), (1, .int x), (2, .int y)]) hx hb dX7_readNumber_54 hl (k := 1) rfl (by rw [ex_14]; rfl) (by decide) rfl (fun ls hl => ?_)
          refine lv_goto (tgt := 27) hx hb dX7_readNumber_57 (by decide) ?_
          exact ih_5 sv5 (x_13 : Int32) (x_14 : Int32) H _ ls (by omega) hB_sv5  hM hS (lv_sub hl [0, 1, 2, 3, 4] rfl)
    exact lp5 (((st_1 3 0 3).toInt - ((st_1 3 0 2) : Int32).toInt).toNat + 1) st_1 ((0 : Int32) : Int32) ((st_1 3 0 2) : Int32) H _ ls (Nat.lt_succ_self _) hB_st_1  hM hS (lv_sub hl [0, 1, 2, 3, 4] rfl)
  · have ic_3 := gz_ne (rfl : (st_1 3 0 1).toInt = (st_1 3 0 1).toInt) (by decide : (3 : Int32).toInt = 3) c_3
    refine lv_aload_n hx hb dX7_readNumber_12 rfl (lv_at hl 0 rfl) ?_
    refine gs_calli (va_runV (As := []) (rest := []) ⟨hx, hb, hml, hown, hts⟩ (s_X7_cannotCome l G cy sK sV ad H.size st_1 hB_st_1.1  ) ⟨(gz_cb (n := 0) hts gm_452 gm_3 gm_455 ⟨by decide +kernel, by decide +kernel, by decide +kernel⟩ ⟨Nat.le_of_ble_eq_true rfl, Nat.le_of_ble_eq_true rfl⟩), hts _ gm_454, hts _ gs_4⟩ (gs_preV hK hov hE hI hM hm hS hA 3 0 (by decide) rfl rfl) rfl rfl hl.1 rfl (lv_room (Nat.le_of_ble_eq_true rfl)) dX7_readNumber_13 ⟨Nat.le_of_ble_eq_true rfl, Nat.le_of_ble_eq_true rfl⟩) hm hS hA (fun r_15 st_15 H locs hw_15 hM hS => ?_)
    obtain ⟨n_15, hw_15⟩ := hw_15
    have hB_st_15 : gBN bX kX [301, 302, 303, 304, 305] st st_15 := hB_st_1.call n_15 (by decide)
    obtain rfl := hw_15
    refine lv_pop hx hb dX7_readNumber_16 rfl ?_
    refine lv_iconst (v := (-1)) hx hb dX7_readNumber_17 (by decide) ?_
    rw [← hQe]
    exact gs_iret hx hb hr hlocks hM hS rfl ⟨hB_st_15, (by have hl0 : ((-1) : Int32).toInt = -1 := (by decide); omega)⟩ (by exact Nat.le_refl _) (by exact Nat.le_refl _) dX7_readNumber_18

set_option maxHeartbeats 4000000 in
set_option maxRecDepth 100000 in
/-- WellCourt$Reader.readTurns -/
theorem s_X7_readTurns (l : Launch) (G : va_G) (cy : Nat → ClassId) (sK sV : Nat → Nat) (ad : Nat → Nat → Nat) (sz : Nat) (st : gS) (hB : gBd bX st) (z : Int32) (hz_z : (0 : Int) ≤ z.toInt ∧ z.toInt ≤ (1 : Int)) : gsMi l yX7_readTurns cX7_readTurns 6 (some .boolean) ({ frames := 4, cells := 0, slots := 0, locals := 89 } : Room) G cy sK sV (shX cy ad) cnX ad sz [.ref (ad 3 0), .ref (ad 25 z.toNatClampNeg)] st (fun (r : Int32) (u : gS) => gBN bX kX [301, 302, 303, 304, 305, 2700, 2800] st u ∧ ((r = 1) ∨ (r = 0))) := by
  refine gs_start (fun A => gsQi G (shX cy ad) cnX ad _ A) (by decide) (Nat.le_of_ble_eq_true rfl) ?_
  intro p e s m below meth c A ls H hx hb hr hml hlocks hown hts hK hov hE hI hM hm hS hA hl
  have hl : lv_has ls 6 [(0, .ref (ad 3 0)), (1, .ref (ad 25 z.toNatClampNeg))] := hl
  have hB_st : gBN bX kX [301, 302, 303, 304, 305, 2700, 2800] st st := gBN.rf hB
  generalize hQe : MQ below _ _ s _ _ A = Q
  refine lv_aload_n hx hb dX7_readTurns_0 rfl (lv_at hl 0 rfl) ?_
  refine lv_iconst (v := 0) hx hb dX7_readTurns_1 (by decide) ?_
  refine lv_iconst (v := 5) hx hb dX7_readTurns_2 (by decide) ?_
  refine gs_calli (va_runV (As := [.int 0, .int 5]) (rest := []) ⟨hx, hb, hml, hown, hts⟩ (s_X7_readNumber l G cy sK sV ad H.size st hB_st.1 (0 : Int32) (5 : Int32) 0 5 (by decide) (by decide) ) ⟨(gz_cb (n := 2) hts gm_464 gm_3 gm_467 ⟨by decide +kernel, by decide +kernel, by decide +kernel⟩ ⟨Nat.le_of_ble_eq_true rfl, Nat.le_of_ble_eq_true rfl⟩), hts _ gm_466, hts _ gs_7⟩ (gs_preV hK hov hE hI hM hm hS hA 3 0 (by decide) rfl rfl) rfl rfl hl.1 rfl (lv_room (Nat.le_of_ble_eq_true rfl)) dX7_readTurns_3 ⟨Nat.le_of_ble_eq_true rfl, Nat.le_of_ble_eq_true rfl⟩) hm hS hA (fun r_1 st_1 H locs hw_1 hM hS => ?_)
  obtain ⟨n_1, hw_1⟩ := hw_1
  have hB_st_1 : gBN bX kX [301, 302, 303, 304, 305, 2700, 2800] st st_1 := hB_st.call n_1 (by decide)
  have hw_1_0 := hw_1
  refine lv_istore_n (lv' := [(2, .int r_1), (0, .ref (ad 3 0)), (1, .ref (ad 25 z.toNatClampNeg))]) hx hb dX7_readTurns_6 rfl hl (by decide) rfl (fun ls hl => ?_)
  refine lv_iload_n hx hb dX7_readTurns_7 rfl (lv_at hl 0 rfl) ?_
  refine lv_iconst (v := (-1)) hx hb dX7_readTurns_8 (by decide) ?_
  refine lv_icmp_ne (tgt := 14) hx hb dX7_readTurns_9 (by decide) (fun c_2 => ?_) (fun c_2 => ?_)
  · have ic_2 := gz_ne (rfl : r_1.toInt = r_1.toInt) (by decide : ((-1) : Int32).toInt = -1) c_2
    refine lv_aload_n hx hb dX7_readTurns_14 rfl (lv_at hl 2 rfl) ?_
    refine lv_iload_n hx hb dX7_readTurns_15 rfl (lv_at hl 0 rfl) ?_
    refine gs_calli (va_runV (As := [.int r_1]) (rest := []) ⟨hx, hb, hml, hown, hts⟩ (s_X4_hasTurns l G cy sK sV ad H.size st_1 hB_st_1.1 z r_1 r_1.toInt rfl hz_z (by first | decide | omega) (by first | decide | omega)) ⟨(gz_cb (n := 1) hts gm_469 gm_10 gm_472 ⟨by decide +kernel, by decide +kernel, by decide +kernel⟩ ⟨Nat.le_of_ble_eq_true rfl, Nat.le_of_ble_eq_true rfl⟩), hts _ gm_470, hts _ gm_471⟩ (gs_preV hK hov hE hI hM hm hS hA 25 z.toNatClampNeg (gs_sel hz_z) rfl rfl) rfl rfl hl.1 rfl (lv_room (Nat.le_of_ble_eq_true rfl)) dX7_readTurns_16 ⟨Nat.le_of_ble_eq_true rfl, Nat.le_of_ble_eq_true rfl⟩) hm hS hA (fun r_3 st_3 H locs hw_3 hM hS => ?_)
    obtain ⟨n_3, hw_3⟩ := hw_3
    have n_3 := gBN.nil n_3
    subst n_3
    rcases hw_3 with rfl | rfl
    · skip
      refine lv_if_eq (tgt := 28) hx hb dX7_readTurns_19 (by decide) (fun h9 => absurd h9 (by decide)) (fun _ => ?_)
      refine lv_aload_n hx hb dX7_readTurns_22 rfl (lv_at hl 1 rfl) ?_
      refine lv_iconst (v := 3) hx hb dX7_readTurns_23 (by decide) ?_
      refine gs_calli (va_runV (As := [.int 3]) (rest := []) ⟨hx, hb, hml, hown, hts⟩ (s_X7_fail l G cy sK sV ad H.size st_1 hB_st_1.1 (3 : Int32) ) ⟨(gz_cb (n := 1) hts gm_456 gm_3 gm_459 ⟨by decide +kernel, by decide +kernel, by decide +kernel⟩ ⟨Nat.le_of_ble_eq_true rfl, Nat.le_of_ble_eq_true rfl⟩), hts _ gm_458, hts _ gs_5⟩ (gs_preV hK hov hE hI hM hm hS hA 3 0 (by decide) rfl rfl) rfl rfl hl.1 rfl (lv_room (Nat.le_of_ble_eq_true rfl)) dX7_readTurns_24 ⟨Nat.le_of_ble_eq_true rfl, Nat.le_of_ble_eq_true rfl⟩) hm hS hA (fun r_4 st_4 H locs hw_4 hM hS => ?_)
      obtain ⟨n_4, hw_4⟩ := hw_4
      have hB_st_4 : gBN bX kX [301, 302, 303, 304, 305, 2700, 2800] st st_4 := hB_st_1.call n_4 (by decide)
      obtain rfl := hw_4
      rw [← hQe]
      exact gs_iret hx hb hr hlocks hM hS (by decide) ⟨hB_st_4, (Or.inr (rfl))⟩ (by exact Nat.le_refl _) (by exact Nat.le_refl _) dX7_readTurns_27
    · skip
      refine lv_if_eq (tgt := 28) hx hb dX7_readTurns_19 (by decide) (fun _ => ?_) (fun h9 => absurd (by decide) h9)
      refine lv_aload_n hx hb dX7_readTurns_28 rfl (lv_at hl 1 rfl) ?_
      refine lv_bipush (v := 58) hx hb dX7_readTurns_29 (by decide) ?_
      refine gs_calli (va_runV (As := [.int 58]) (rest := []) ⟨hx, hb, hml, hown, hts⟩ (s_X7_readSign l G cy sK sV ad H.size st_1 hB_st_1.1 (58 : Int32) ) ⟨(gz_cb (n := 1) hts gm_473 gm_3 gm_476 ⟨by decide +kernel, by decide +kernel, by decide +kernel⟩ ⟨Nat.le_of_ble_eq_true rfl, Nat.le_of_ble_eq_true rfl⟩), hts _ gm_475, hts _ gs_8⟩ (gs_preV hK hov hE hI hM hm hS hA 3 0 (by decide) rfl rfl) rfl rfl hl.1 rfl (lv_room (Nat.le_of_ble_eq_true rfl)) dX7_readTurns_31 ⟨Nat.le_of_ble_eq_true rfl, Nat.le_of_ble_eq_true rfl⟩) hm hS hA (fun r_5 st_5 H locs hw_5 hM hS => ?_)
      obtain ⟨n_5, hw_5⟩ := hw_5
      have hB_st_5 : gBN bX kX [301, 302, 303, 304, 305, 2700, 2800] st st_5 := hB_st_1.call n_5 (by decide)
      rcases hw_5 with rfl | rfl
      · skip
        refine lv_if_ne (tgt := 39) hx hb dX7_readTurns_34 (by decide) (fun _ => ?_) (fun h9 => absurd h9 (by decide))
        refine lv_iconst (v := 0) hx hb dX7_readTurns_39 (by decide) ?_
        refine lv_istore_n (lv' := [(3, .int 0), (2, .int r_1), (0, .ref (ad 3 0)), (1, .ref (ad 25 z.toNatClampNeg))]) hx hb dX7_readTurns_40 rfl hl (by decide) rfl (fun ls hl => ?_)
        have lp6 : ∀ (n6 : Nat) (sv6 : gS) (y6_0 : Int32) (H : Heap) (locs : List Loc) (ls : Array Slot), (9 - y6_0.toInt).toNat < n6 → gBN bX kX [301, 302, 303, 304, 305, 2700, 2800] st sv6 → (0 ≤ y6_0.toInt) → gM G (shX cy ad) cnX ad sv6 H → va_S A s.heap H locs → lv_has ls 6 [(3, .int y6_0), (2, .int r_1), (0, .ref (ad 3 0)), (1, .ref (ad 25 z.toNatClampNeg))] → W p l e ({ frames := 4, cells := 0, slots := 0, locals := 89 } : Room) s m [.ref (ad 3 0), .ref (ad 25 z.toNatClampNeg)].toArray below meth c H locs 0 0 Q (F0 m 41 ls []) := by
          intro n6
          induction n6 with
          | zero => intro sv6 y6_0 H locs ls h9; exact absurd h9 (Nat.not_lt_zero _)
          | succ n6 ih_6 =>
            intro sv6 y6_0 H locs ls hme6 hB_sv6 hv6_0 hM hS hl
            refine lv_iload_n hx hb dX7_readTurns_41 rfl (lv_at hl 0 rfl) ?_
            refine lv_bipush (v := 8) hx hb dX7_readTurns_42 (by decide) ?_
            refine lv_icmp_gt (tgt := 135) hx hb dX7_readTurns_44 (by decide) (fun c_7 => ?_) (fun c_7 => ?_)
            · have ic_7 := gz_lt (by decide : (8 : Int32).toInt = 8) (rfl : y6_0.toInt = y6_0.toInt) c_7
              refine lv_iconst (v := 0) hx hb dX7_readTurns_135 (by decide) ?_
              rw [← hQe]
              exact gs_iret hx hb hr hlocks hM hS (by decide) ⟨hB_sv6, (Or.inr (rfl))⟩ (by exact Nat.le_refl _) (by exact Nat.le_refl _) dX7_readTurns_136
            · have ic_7 := gz_nlt (by decide : (8 : Int32).toInt = 8) (rfl : y6_0.toInt = y6_0.toInt) c_7
              refine lv_aload_n hx hb dX7_readTurns_47 rfl (lv_at hl 2 rfl) ?_
              refine lv_iconst (v := (-1)) hx hb dX7_readTurns_48 (by decide) ?_
              refine gs_calli (va_runV (As := [.int (-1)]) (rest := []) ⟨hx, hb, hml, hown, hts⟩ (s_X7_readClan l G cy sK sV ad H.size sv6 hB_sv6.1 ((-1) : Int32) (-1) (by decide) ) ⟨(gz_cb (n := 1) hts gm_481 gm_3 gm_484 ⟨by decide +kernel, by decide +kernel, by decide +kernel⟩ ⟨Nat.le_of_ble_eq_true rfl, Nat.le_of_ble_eq_true rfl⟩), hts _ gm_483, hts _ gs_10⟩ (gs_preV hK hov hE hI hM hm hS hA 3 0 (by decide) rfl rfl) rfl rfl hl.1 rfl (lv_room (Nat.le_of_ble_eq_true rfl)) dX7_readTurns_49 ⟨Nat.le_of_ble_eq_true rfl, Nat.le_of_ble_eq_true rfl⟩) hm hS hA (fun r_8 st_8 H locs hw_8 hM hS => ?_)
              obtain ⟨n_8, hw_8⟩ := hw_8
              have hB_st_8 : gBN bX kX [301, 302, 303, 304, 305, 2700, 2800] st st_8 := hB_sv6.call n_8 (by decide)
              have hw_8_0 := hw_8
              refine lv_istore (lv' := [(4, .int r_8), (3, .int y6_0), (2, .int r_1), (0, .ref (ad 3 0)), (1, .ref (ad 25 z.toNatClampNeg))]) hx hb dX7_readTurns_52 hl (by decide) rfl (fun ls hl => ?_)
              refine lv_iload hx hb dX7_readTurns_54 (lv_at hl 0 rfl) ?_
              refine lv_iconst (v := (-1)) hx hb dX7_readTurns_56 (by decide) ?_
              refine lv_icmp_ne (tgt := 62) hx hb dX7_readTurns_57 (by decide) (fun c_9 => ?_) (fun c_9 => ?_)
              · have ic_9 := gz_ne (rfl : r_8.toInt = r_8.toInt) (by decide : ((-1) : Int32).toInt = -1) c_9
                refine lv_iload_n hx hb dX7_readTurns_62 rfl (lv_at hl 1 rfl) ?_
                refine lv_bipush (v := 8) hx hb dX7_readTurns_63 (by decide) ?_
                refine lv_icmp_ne (tgt := 74) hx hb dX7_readTurns_65 (by decide) (fun c_10 => ?_) (fun c_10 => ?_)
                · have ic_10 := gz_ne (rfl : y6_0.toInt = y6_0.toInt) (by decide : (8 : Int32).toInt = 8) c_10
                  refine lv_aload_n hx hb dX7_readTurns_74 rfl (lv_at hl 3 rfl) ?_
                  refine lv_iconst (v := 1) hx hb dX7_readTurns_75 (by decide) ?_
                  refine lv_bipush (v := 9) hx hb dX7_readTurns_76 (by decide) ?_
                  refine gs_calli (va_runV (As := [.int 1, .int 9]) (rest := []) ⟨hx, hb, hml, hown, hts⟩ (s_X7_readNumber l G cy sK sV ad H.size st_8 hB_st_8.1 (1 : Int32) (9 : Int32) 1 9 (by decide) (by decide) ) ⟨(gz_cb (n := 2) hts gm_464 gm_3 gm_467 ⟨by decide +kernel, by decide +kernel, by decide +kernel⟩ ⟨Nat.le_of_ble_eq_true rfl, Nat.le_of_ble_eq_true rfl⟩), hts _ gm_466, hts _ gs_7⟩ (gs_preV hK hov hE hI hM hm hS hA 3 0 (by decide) rfl rfl) rfl rfl hl.1 rfl (lv_room (Nat.le_of_ble_eq_true rfl)) dX7_readTurns_78 ⟨Nat.le_of_ble_eq_true rfl, Nat.le_of_ble_eq_true rfl⟩) hm hS hA (fun r_11 st_11 H locs hw_11 hM hS => ?_)
                  obtain ⟨n_11, hw_11⟩ := hw_11
                  have hB_st_11 : gBN bX kX [301, 302, 303, 304, 305, 2700, 2800] st st_11 := hB_st_8.call n_11 (by decide)
                  have hw_11_0 := hw_11
                  refine lv_istore (lv' := [(5, .int r_11), (4, .int r_8), (3, .int y6_0), (2, .int r_1), (0, .ref (ad 3 0)), (1, .ref (ad 25 z.toNatClampNeg))]) hx hb dX7_readTurns_81 hl (by decide) rfl (fun ls hl => ?_)
                  refine lv_iload hx hb dX7_readTurns_83 (lv_at hl 0 rfl) ?_
                  refine lv_iconst (v := (-1)) hx hb dX7_readTurns_85 (by decide) ?_
                  refine lv_icmp_ne (tgt := 91) hx hb dX7_readTurns_86 (by decide) (fun c_12 => ?_) (fun c_12 => ?_)
                  · have ic_12 := gz_ne (rfl : r_11.toInt = r_11.toInt) (by decide : ((-1) : Int32).toInt = -1) c_12
                    refine lv_aload_n hx hb dX7_readTurns_91 rfl (lv_at hl 5 rfl) ?_
                    refine lv_iload_n hx hb dX7_readTurns_92 rfl (lv_at hl 3 rfl) ?_
                    refine lv_iload hx hb dX7_readTurns_93 (lv_at hl 1 rfl) ?_
                    refine lv_iload hx hb dX7_readTurns_95 (lv_at hl 0 rfl) ?_
                    refine gs_callv (va_runV (As := [.int r_1, .int r_8, .int r_11]) (rest := []) ⟨hx, hb, hml, hown, hts⟩ (s_X4_addTurn l G cy sK sV ad H.size st_11 hB_st_11.1 z r_1 r_8 r_11 r_1.toInt r_8.toInt r_11.toInt rfl rfl rfl hz_z (by first | decide | omega) (by first | decide | omega)) ⟨(gz_cb (n := 3) hts gm_488 gm_10 gm_491 ⟨by decide +kernel, by decide +kernel, by decide +kernel⟩ ⟨Nat.le_of_ble_eq_true rfl, Nat.le_of_ble_eq_true rfl⟩), hts _ gm_489, hts _ gm_490⟩ (gs_preV hK hov hE hI hM hm hS hA 25 z.toNatClampNeg (gs_sel hz_z) rfl rfl) rfl rfl hl.1 rfl (lv_room (Nat.le_of_ble_eq_true rfl)) dX7_readTurns_97 ⟨Nat.le_of_ble_eq_true rfl, Nat.le_of_ble_eq_true rfl⟩) hm hS hA (fun st_13 H locs hw_13 hM hS => ?_)
                    obtain ⟨n_13, hw_13⟩ := hw_13
                    have hB_st_13 : gBN bX kX [301, 302, 303, 304, 305, 2700, 2800] st st_13 := hB_st_11.call n_13 (by decide)
                    refine lv_aload_n hx hb dX7_readTurns_100 rfl (lv_at hl 4 rfl) ?_
                    refine gs_callv (va_runV (As := []) (rest := []) ⟨hx, hb, hml, hown, hts⟩ (s_X7_advance l G cy sK sV ad H.size st_13 hB_st_13.1  ) ⟨(gz_cb (n := 0) hts gm_367 gm_3 gm_370 ⟨by decide +kernel, by decide +kernel, by decide +kernel⟩ ⟨Nat.le_of_ble_eq_true rfl, Nat.le_of_ble_eq_true rfl⟩), hts _ gm_369, hts _ gs_0⟩ (gs_preV hK hov hE hI hM hm hS hA 3 0 (by decide) rfl rfl) rfl rfl hl.1 rfl (lv_room (Nat.le_of_ble_eq_true rfl)) dX7_readTurns_101 ⟨Nat.le_of_ble_eq_true rfl, Nat.le_of_ble_eq_true rfl⟩) hm hS hA (fun st_14 H locs hw_14 hM hS => ?_)
                    obtain ⟨n_14, hw_14⟩ := hw_14
                    have hB_st_14 : gBN bX kX [301, 302, 303, 304, 305, 2700, 2800] st st_14 := hB_st_13.call n_14 (by decide)
                    refine lv_aload_n hx hb dX7_readTurns_104 rfl (lv_at hl 4 rfl) ?_
                    refine lv_bipush (v := 59) hx hb dX7_readTurns_105 (by decide) ?_
                    refine gs_calli (va_runV (As := [.int 59]) (rest := []) ⟨hx, hb, hml, hown, hts⟩ (s_X7_isSign l G cy sK sV ad H.size st_14 hB_st_14.1 (59 : Int32) ) ⟨(gz_cb (n := 1) hts gm_477 gm_3 gm_480 ⟨by decide +kernel, by decide +kernel, by decide +kernel⟩ ⟨Nat.le_of_ble_eq_true rfl, Nat.le_of_ble_eq_true rfl⟩), hts _ gm_479, hts _ gs_9⟩ (gs_preV hK hov hE hI hM hm hS hA 3 0 (by decide) rfl rfl) rfl rfl hl.1 rfl (lv_room (Nat.le_of_ble_eq_true rfl)) dX7_readTurns_107 ⟨Nat.le_of_ble_eq_true rfl, Nat.le_of_ble_eq_true rfl⟩) hm hS hA (fun r_15 st_15 H locs hw_15 hM hS => ?_)
                    obtain ⟨n_15, hw_15⟩ := hw_15
                    have n_15 := gBN.nil n_15
                    subst n_15
                    rcases hw_15 with rfl | rfl
                    · skip
                      refine lv_if_eq (tgt := 115) hx hb dX7_readTurns_110 (by decide) (fun h9 => absurd h9 (by decide)) (fun _ => ?_)
                      refine lv_iconst (v := 1) hx hb dX7_readTurns_113 (by decide) ?_
                      rw [← hQe]
                      exact gs_iret hx hb hr hlocks hM hS (by decide) ⟨hB_st_14, (Or.inl rfl)⟩ (by exact Nat.le_refl _) (by exact Nat.le_refl _) dX7_readTurns_114
                    · skip
                      refine lv_if_eq (tgt := 115) hx hb dX7_readTurns_110 (by decide) (fun _ => ?_) (fun h9 => absurd (by decide) h9)
                      refine lv_aload_n hx hb dX7_readTurns_115 rfl (lv_at hl 4 rfl) ?_
                      refine lv_bipush (v := 44) hx hb dX7_readTurns_116 (by decide) ?_
                      refine gs_calli (va_runV (As := [.int 44]) (rest := []) ⟨hx, hb, hml, hown, hts⟩ (s_X7_isSign l G cy sK sV ad H.size st_14 hB_st_14.1 (44 : Int32) ) ⟨(gz_cb (n := 1) hts gm_477 gm_3 gm_480 ⟨by decide +kernel, by decide +kernel, by decide +kernel⟩ ⟨Nat.le_of_ble_eq_true rfl, Nat.le_of_ble_eq_true rfl⟩), hts _ gm_479, hts _ gs_9⟩ (gs_preV hK hov hE hI hM hm hS hA 3 0 (by decide) rfl rfl) rfl rfl hl.1 rfl (lv_room (Nat.le_of_ble_eq_true rfl)) dX7_readTurns_118 ⟨Nat.le_of_ble_eq_true rfl, Nat.le_of_ble_eq_true rfl⟩) hm hS hA (fun r_16 st_16 H locs hw_16 hM hS => ?_)
                      obtain ⟨n_16, hw_16⟩ := hw_16
                      have n_16 := gBN.nil n_16
                      subst n_16
                      rcases hw_16 with rfl | rfl
                      · skip
                        refine lv_if_ne (tgt := 129) hx hb dX7_readTurns_121 (by decide) (fun _ => ?_) (fun h9 => absurd h9 (by decide))
                        obtain ⟨x_17, ex_17⟩ : ∃ y : Int32, y = y6_0 + 1 := ⟨_, rfl⟩
                        try have tx_17 : x_17.toInt = y6_0.toInt + 1 := by rw [ex_17]; exact gz_addP (x := y6_0.toInt) (y := 1) rfl (by decide) (by omega) (by omega)
                        refine lv_iinc (v := (x_17)) (lv' := [(3, .int x_17), (5, .int r_11), (4, .int r_8), (2, .int r_1), (0, .ref (ad 3 0)), (1, .ref (ad 25 z.toNatClampNeg))]) hx hb dX7_readTurns_129 hl (k := 2) rfl (by rw [ex_17]; rfl) (by decide) rfl (fun ls hl => ?_)
                        refine lv_goto (tgt := 41) hx hb dX7_readTurns_132 (by decide) ?_
                        exact ih_6 st_14 (x_17 : Int32) H _ ls (by omega) hB_st_14 (by omega) hM hS (lv_sub hl [0, 3, 4, 5] rfl)
                      · skip
                        refine lv_if_ne (tgt := 129) hx hb dX7_readTurns_121 (by decide) (fun h9 => absurd (by decide) h9) (fun _ => ?_)
                        refine lv_aload_n hx hb dX7_readTurns_124 rfl (lv_at hl 4 rfl) ?_
                        refine gs_calli (va_runV (As := []) (rest := []) ⟨hx, hb, hml, hown, hts⟩ (s_X7_cannotCome l G cy sK sV ad H.size st_14 hB_st_14.1  ) ⟨(gz_cb (n := 0) hts gm_452 gm_3 gm_455 ⟨by decide +kernel, by decide +kernel, by decide +kernel⟩ ⟨Nat.le_of_ble_eq_true rfl, Nat.le_of_ble_eq_true rfl⟩), hts _ gm_454, hts _ gs_4⟩ (gs_preV hK hov hE hI hM hm hS hA 3 0 (by decide) rfl rfl) rfl rfl hl.1 rfl (lv_room (Nat.le_of_ble_eq_true rfl)) dX7_readTurns_125 ⟨Nat.le_of_ble_eq_true rfl, Nat.le_of_ble_eq_true rfl⟩) hm hS hA (fun r_18 st_18 H locs hw_18 hM hS => ?_)
                        obtain ⟨n_18, hw_18⟩ := hw_18
                        have hB_st_18 : gBN bX kX [301, 302, 303, 304, 305, 2700, 2800] st st_18 := hB_st_14.call n_18 (by decide)
                        obtain rfl := hw_18
                        rw [← hQe]
                        exact gs_iret hx hb hr hlocks hM hS (by decide) ⟨hB_st_18, (Or.inr (rfl))⟩ (by exact Nat.le_refl _) (by exact Nat.le_refl _) dX7_readTurns_128
                  · have ic_12 := gz_eqn (rfl : r_11.toInt = r_11.toInt) (by decide : ((-1) : Int32).toInt = -1) c_12
                    refine lv_iconst (v := 0) hx hb dX7_readTurns_89 (by decide) ?_
                    rw [← hQe]
                    exact gs_iret hx hb hr hlocks hM hS (by decide) ⟨hB_st_11, (Or.inr (rfl))⟩ (by exact Nat.le_refl _) (by exact Nat.le_refl _) dX7_readTurns_90
                · have ic_10 := gz_eqn (rfl : y6_0.toInt = y6_0.toInt) (by decide : (8 : Int32).toInt = 8) c_10
                  refine lv_aload_n hx hb dX7_readTurns_68 rfl (lv_at hl 3 rfl) ?_
                  refine lv_iconst (v := 4) hx hb dX7_readTurns_69 (by decide) ?_
                  refine gs_calli (va_runV (As := [.int 4]) (rest := []) ⟨hx, hb, hml, hown, hts⟩ (s_X7_fail l G cy sK sV ad H.size st_8 hB_st_8.1 (4 : Int32) ) ⟨(gz_cb (n := 1) hts gm_456 gm_3 gm_459 ⟨by decide +kernel, by decide +kernel, by decide +kernel⟩ ⟨Nat.le_of_ble_eq_true rfl, Nat.le_of_ble_eq_true rfl⟩), hts _ gm_458, hts _ gs_5⟩ (gs_preV hK hov hE hI hM hm hS hA 3 0 (by decide) rfl rfl) rfl rfl hl.1 rfl (lv_room (Nat.le_of_ble_eq_true rfl)) dX7_readTurns_70 ⟨Nat.le_of_ble_eq_true rfl, Nat.le_of_ble_eq_true rfl⟩) hm hS hA (fun r_19 st_19 H locs hw_19 hM hS => ?_)
                  obtain ⟨n_19, hw_19⟩ := hw_19
                  have hB_st_19 : gBN bX kX [301, 302, 303, 304, 305, 2700, 2800] st st_19 := hB_st_8.call n_19 (by decide)
                  obtain rfl := hw_19
                  rw [← hQe]
                  exact gs_iret hx hb hr hlocks hM hS (by decide) ⟨hB_st_19, (Or.inr (rfl))⟩ (by exact Nat.le_refl _) (by exact Nat.le_refl _) dX7_readTurns_73
              · have ic_9 := gz_eqn (rfl : r_8.toInt = r_8.toInt) (by decide : ((-1) : Int32).toInt = -1) c_9
                refine lv_iconst (v := 0) hx hb dX7_readTurns_60 (by decide) ?_
                rw [← hQe]
                exact gs_iret hx hb hr hlocks hM hS (by decide) ⟨hB_st_8, (Or.inr (rfl))⟩ (by exact Nat.le_refl _) (by exact Nat.le_refl _) dX7_readTurns_61
        exact lp6 ((9 - ((0 : Int32) : Int32).toInt).toNat + 1) st_5 ((0 : Int32) : Int32) H _ ls (Nat.lt_succ_self _) hB_st_5 (by have hl0 : (0 : Int32).toInt = 0 := (by decide); omega) hM hS (lv_sub hl [0, 1, 2, 3] rfl)
      · skip
        refine lv_if_ne (tgt := 39) hx hb dX7_readTurns_34 (by decide) (fun h9 => absurd (by decide) h9) (fun _ => ?_)
        refine lv_iconst (v := 0) hx hb dX7_readTurns_37 (by decide) ?_
        rw [← hQe]
        exact gs_iret hx hb hr hlocks hM hS (by decide) ⟨hB_st_5, (Or.inr (rfl))⟩ (by exact Nat.le_refl _) (by exact Nat.le_refl _) dX7_readTurns_38
  · have ic_2 := gz_eqn (rfl : r_1.toInt = r_1.toInt) (by decide : ((-1) : Int32).toInt = -1) c_2
    refine lv_iconst (v := 0) hx hb dX7_readTurns_12 (by decide) ?_
    rw [← hQe]
    exact gs_iret hx hb hr hlocks hM hS (by decide) ⟨hB_st_1, (Or.inr (rfl))⟩ (by exact Nat.le_refl _) (by exact Nat.le_refl _) dX7_readTurns_13

set_option maxHeartbeats 4000000 in
set_option maxRecDepth 100000 in
/-- WellCourt$Reader.readGuest -/
theorem s_X7_readGuest (l : Launch) (G : va_G) (cy : Nat → ClassId) (sK sV : Nat → Nat) (ad : Nat → Nat → Nat) (sz : Nat) (st : gS) (hB : gBd bX st) (z : Int32) (hz_z : (0 : Int) ≤ z.toInt ∧ z.toInt ≤ (1 : Int)) : gsMi l yX7_readGuest cX7_readGuest 6 (some .boolean) ({ frames := 6, cells := 0, slots := 0, locals := 128 } : Room) G cy sK sV (shX cy ad) cnX ad sz [.ref (ad 3 0), .ref (ad 25 z.toNatClampNeg)] st (fun (r : Int32) (u : gS) => gBN bX kX [301, 302, 303, 304, 305, 2509, 3400, 3500, 3600, 3700] st u ∧ ((r = 1) ∨ (r = 0))) := by
  refine gs_start (fun A => gsQi G (shX cy ad) cnX ad _ A) (by decide) (Nat.le_of_ble_eq_true rfl) ?_
  intro p e s m below meth c A ls H hx hb hr hml hlocks hown hts hK hov hE hI hM hm hS hA hl
  have hl : lv_has ls 6 [(0, .ref (ad 3 0)), (1, .ref (ad 25 z.toNatClampNeg))] := hl
  have hB_st : gBN bX kX [301, 302, 303, 304, 305, 2509, 3400, 3500, 3600, 3700] st st := gBN.rf hB
  refine lv_aload_n hx hb dX7_readGuest_0 rfl (lv_at hl 0 rfl) ?_
  refine lv_iconst (v := (-1)) hx hb dX7_readGuest_1 (by decide) ?_
  refine gs_calli (va_runV (As := [.int (-1)]) (rest := []) ⟨hx, hb, hml, hown, hts⟩ (s_X7_readClan l G cy sK sV ad H.size st hB_st.1 ((-1) : Int32) (-1) (by decide) ) ⟨(gz_cb (n := 1) hts gm_481 gm_3 gm_484 ⟨by decide +kernel, by decide +kernel, by decide +kernel⟩ ⟨Nat.le_of_ble_eq_true rfl, Nat.le_of_ble_eq_true rfl⟩), hts _ gm_483, hts _ gs_10⟩ (gs_preV hK hov hE hI hM hm hS hA 3 0 (by decide) rfl rfl) rfl rfl hl.1 rfl (lv_room (Nat.le_of_ble_eq_true rfl)) dX7_readGuest_2 ⟨Nat.le_of_ble_eq_true rfl, Nat.le_of_ble_eq_true rfl⟩) hm hS hA (fun r_1 st_1 H locs hw_1 hM hS => ?_)
  obtain ⟨n_1, hw_1⟩ := hw_1
  have hB_st_1 : gBN bX kX [301, 302, 303, 304, 305, 2509, 3400, 3500, 3600, 3700] st st_1 := hB_st.call n_1 (by decide)
  have hw_1_0 := hw_1
  refine lv_istore_n (lv' := [(2, .int r_1), (0, .ref (ad 3 0)), (1, .ref (ad 25 z.toNatClampNeg))]) hx hb dX7_readGuest_5 rfl hl (by decide) rfl (fun ls hl => ?_)
  refine lv_iload_n hx hb dX7_readGuest_6 rfl (lv_at hl 0 rfl) ?_
  refine lv_iconst (v := (-1)) hx hb dX7_readGuest_7 (by decide) ?_
  refine lv_icmp_eq (tgt := 20) hx hb dX7_readGuest_8 (by decide) (fun c_2 => ?_) (fun c_2 => ?_)
  · have ic_2 := gz_eq (rfl : r_1.toInt = r_1.toInt) (by decide : ((-1) : Int32).toInt = -1) c_2
    refine lv_iconst (v := 0) hx hb dX7_readGuest_20 (by decide) ?_
    exact gs_iret hx hb hr hlocks hM hS (by decide) ⟨hB_st_1, (Or.inr (rfl))⟩ (by exact Nat.le_refl _) (by exact Nat.le_refl _) dX7_readGuest_21
  · have ic_2 := gz_ne (rfl : r_1.toInt = r_1.toInt) (by decide : ((-1) : Int32).toInt = -1) c_2
    refine lv_aload_n hx hb dX7_readGuest_11 rfl (lv_at hl 1 rfl) ?_
    refine va_ldcS (q := sK 5) hx hb hown (hE.2.2.1 5 (by decide)) dX7_readGuest_12 ?_
    refine gs_calli (va_runV (As := [.ref (sK 5)]) (rest := []) ⟨hx, hb, hml, hown, hts⟩ (s_X7_readWord l G cy sK sV ad H.size st_1 hB_st_1.1 5 (by decide) ) ⟨(gz_cb (n := 1) hts gm_497 gm_3 gm_500 ⟨by decide +kernel, by decide +kernel, by decide +kernel⟩ ⟨Nat.le_of_ble_eq_true rfl, Nat.le_of_ble_eq_true rfl⟩), hts _ gm_499, hts _ gs_12⟩ (gs_preV hK hov hE hI hM hm hS hA 3 0 (by decide) rfl rfl) rfl rfl hl.1 rfl (lv_room (Nat.le_of_ble_eq_true rfl)) dX7_readGuest_14 ⟨Nat.le_of_ble_eq_true rfl, Nat.le_of_ble_eq_true rfl⟩) hm hS hA (fun r_3 st_3 H locs hw_3 hM hS => ?_)
    obtain ⟨n_3, hw_3⟩ := hw_3
    have hB_st_3 : gBN bX kX [301, 302, 303, 304, 305, 2509, 3400, 3500, 3600, 3700] st st_3 := hB_st_1.call n_3 (by decide)
    rcases hw_3 with rfl | rfl
    · skip
      refine lv_if_ne (tgt := 22) hx hb dX7_readGuest_17 (by decide) (fun _ => ?_) (fun h9 => absurd h9 (by decide))
      refine lv_aload_n hx hb dX7_readGuest_22 rfl (lv_at hl 1 rfl) ?_
      refine lv_iconst (v := 0) hx hb dX7_readGuest_23 (by decide) ?_
      refine lv_iconst (v := 5) hx hb dX7_readGuest_24 (by decide) ?_
      refine gs_calli (va_runV (As := [.int 0, .int 5]) (rest := []) ⟨hx, hb, hml, hown, hts⟩ (s_X7_readNumber l G cy sK sV ad H.size st_3 hB_st_3.1 (0 : Int32) (5 : Int32) 0 5 (by decide) (by decide) ) ⟨(gz_cb (n := 2) hts gm_464 gm_3 gm_467 ⟨by decide +kernel, by decide +kernel, by decide +kernel⟩ ⟨Nat.le_of_ble_eq_true rfl, Nat.le_of_ble_eq_true rfl⟩), hts _ gm_466, hts _ gs_7⟩ (gs_preV hK hov hE hI hM hm hS hA 3 0 (by decide) rfl rfl) rfl rfl hl.1 rfl (lv_room (Nat.le_of_ble_eq_true rfl)) dX7_readGuest_25 ⟨Nat.le_of_ble_eq_true rfl, Nat.le_of_ble_eq_true rfl⟩) hm hS hA (fun r_4 st_4 H locs hw_4 hM hS => ?_)
      obtain ⟨n_4, hw_4⟩ := hw_4
      have hB_st_4 : gBN bX kX [301, 302, 303, 304, 305, 2509, 3400, 3500, 3600, 3700] st st_4 := hB_st_3.call n_4 (by decide)
      have hw_4_0 := hw_4
      refine lv_istore_n (lv' := [(3, .int r_4), (2, .int r_1), (0, .ref (ad 3 0)), (1, .ref (ad 25 z.toNatClampNeg))]) hx hb dX7_readGuest_28 rfl hl (by decide) rfl (fun ls hl => ?_)
      refine lv_iload_n hx hb dX7_readGuest_29 rfl (lv_at hl 0 rfl) ?_
      refine lv_iconst (v := (-1)) hx hb dX7_readGuest_30 (by decide) ?_
      refine lv_icmp_eq (tgt := 43) hx hb dX7_readGuest_31 (by decide) (fun c_5 => ?_) (fun c_5 => ?_)
      · have ic_5 := gz_eq (rfl : r_4.toInt = r_4.toInt) (by decide : ((-1) : Int32).toInt = -1) c_5
        refine lv_iconst (v := 0) hx hb dX7_readGuest_43 (by decide) ?_
        exact gs_iret hx hb hr hlocks hM hS (by decide) ⟨hB_st_4, (Or.inr (rfl))⟩ (by exact Nat.le_refl _) (by exact Nat.le_refl _) dX7_readGuest_44
      · have ic_5 := gz_ne (rfl : r_4.toInt = r_4.toInt) (by decide : ((-1) : Int32).toInt = -1) c_5
        refine lv_aload_n hx hb dX7_readGuest_34 rfl (lv_at hl 2 rfl) ?_
        refine va_ldcS (q := sK 6) hx hb hown (hE.2.2.1 6 (by decide)) dX7_readGuest_35 ?_
        refine gs_calli (va_runV (As := [.ref (sK 6)]) (rest := []) ⟨hx, hb, hml, hown, hts⟩ (s_X7_readWord l G cy sK sV ad H.size st_4 hB_st_4.1 6 (by decide) ) ⟨(gz_cb (n := 1) hts gm_497 gm_3 gm_500 ⟨by decide +kernel, by decide +kernel, by decide +kernel⟩ ⟨Nat.le_of_ble_eq_true rfl, Nat.le_of_ble_eq_true rfl⟩), hts _ gm_499, hts _ gs_12⟩ (gs_preV hK hov hE hI hM hm hS hA 3 0 (by decide) rfl rfl) rfl rfl hl.1 rfl (lv_room (Nat.le_of_ble_eq_true rfl)) dX7_readGuest_37 ⟨Nat.le_of_ble_eq_true rfl, Nat.le_of_ble_eq_true rfl⟩) hm hS hA (fun r_6 st_6 H locs hw_6 hM hS => ?_)
        obtain ⟨n_6, hw_6⟩ := hw_6
        have hB_st_6 : gBN bX kX [301, 302, 303, 304, 305, 2509, 3400, 3500, 3600, 3700] st st_6 := hB_st_4.call n_6 (by decide)
        rcases hw_6 with rfl | rfl
        · skip
          refine lv_if_ne (tgt := 45) hx hb dX7_readGuest_40 (by decide) (fun _ => ?_) (fun h9 => absurd h9 (by decide))
          refine lv_aload_n hx hb dX7_readGuest_45 rfl (lv_at hl 2 rfl) ?_
          refine lv_iload_n hx hb dX7_readGuest_46 rfl (lv_at hl 1 rfl) ?_
          refine gs_calli (va_runV (As := [.int r_1]) (rest := []) ⟨hx, hb, hml, hown, hts⟩ (s_X7_readClan l G cy sK sV ad H.size st_6 hB_st_6.1 r_1 r_1.toInt rfl ) ⟨(gz_cb (n := 1) hts gm_481 gm_3 gm_484 ⟨by decide +kernel, by decide +kernel, by decide +kernel⟩ ⟨Nat.le_of_ble_eq_true rfl, Nat.le_of_ble_eq_true rfl⟩), hts _ gm_483, hts _ gs_10⟩ (gs_preV hK hov hE hI hM hm hS hA 3 0 (by decide) rfl rfl) rfl rfl hl.1 rfl (lv_room (Nat.le_of_ble_eq_true rfl)) dX7_readGuest_47 ⟨Nat.le_of_ble_eq_true rfl, Nat.le_of_ble_eq_true rfl⟩) hm hS hA (fun r_7 st_7 H locs hw_7 hM hS => ?_)
          obtain ⟨n_7, hw_7⟩ := hw_7
          have hB_st_7 : gBN bX kX [301, 302, 303, 304, 305, 2509, 3400, 3500, 3600, 3700] st st_7 := hB_st_6.call n_7 (by decide)
          have hw_7_0 := hw_7
          refine lv_istore (lv' := [(4, .int r_7), (3, .int r_4), (2, .int r_1), (0, .ref (ad 3 0)), (1, .ref (ad 25 z.toNatClampNeg))]) hx hb dX7_readGuest_50 hl (by decide) rfl (fun ls hl => ?_)
          refine lv_iload hx hb dX7_readGuest_52 (lv_at hl 0 rfl) ?_
          refine lv_iconst (v := (-1)) hx hb dX7_readGuest_54 (by decide) ?_
          refine lv_icmp_ne (tgt := 60) hx hb dX7_readGuest_55 (by decide) (fun c_8 => ?_) (fun c_8 => ?_)
          · have ic_8 := gz_ne (rfl : r_7.toInt = r_7.toInt) (by decide : ((-1) : Int32).toInt = -1) c_8
            refine lv_aload_n hx hb dX7_readGuest_60 rfl (lv_at hl 3 rfl) ?_
            refine lv_iconst (v := 0) hx hb dX7_readGuest_61 (by decide) ?_
            refine lv_sipush (v := 1000) hx hb dX7_readGuest_62 (by decide) ?_
            refine gs_calli (va_runV (As := [.int 0, .int 1000]) (rest := []) ⟨hx, hb, hml, hown, hts⟩ (s_X7_readNumber l G cy sK sV ad H.size st_7 hB_st_7.1 (0 : Int32) (1000 : Int32) 0 1000 (by decide) (by decide) ) ⟨(gz_cb (n := 2) hts gm_464 gm_3 gm_467 ⟨by decide +kernel, by decide +kernel, by decide +kernel⟩ ⟨Nat.le_of_ble_eq_true rfl, Nat.le_of_ble_eq_true rfl⟩), hts _ gm_466, hts _ gs_7⟩ (gs_preV hK hov hE hI hM hm hS hA 3 0 (by decide) rfl rfl) rfl rfl hl.1 rfl (lv_room (Nat.le_of_ble_eq_true rfl)) dX7_readGuest_65 ⟨Nat.le_of_ble_eq_true rfl, Nat.le_of_ble_eq_true rfl⟩) hm hS hA (fun r_9 st_9 H locs hw_9 hM hS => ?_)
            obtain ⟨n_9, hw_9⟩ := hw_9
            have hB_st_9 : gBN bX kX [301, 302, 303, 304, 305, 2509, 3400, 3500, 3600, 3700] st st_9 := hB_st_7.call n_9 (by decide)
            have hw_9_0 := hw_9
            refine lv_istore (lv' := [(5, .int r_9), (4, .int r_7), (3, .int r_4), (2, .int r_1), (0, .ref (ad 3 0)), (1, .ref (ad 25 z.toNatClampNeg))]) hx hb dX7_readGuest_68 hl (by decide) rfl (fun ls hl => ?_)
            refine lv_iload hx hb dX7_readGuest_70 (lv_at hl 0 rfl) ?_
            refine lv_iconst (v := (-1)) hx hb dX7_readGuest_72 (by decide) ?_
            refine lv_icmp_eq (tgt := 85) hx hb dX7_readGuest_73 (by decide) (fun c_10 => ?_) (fun c_10 => ?_)
            · have ic_10 := gz_eq (rfl : r_9.toInt = r_9.toInt) (by decide : ((-1) : Int32).toInt = -1) c_10
              refine lv_iconst (v := 0) hx hb dX7_readGuest_85 (by decide) ?_
              exact gs_iret hx hb hr hlocks hM hS (by decide) ⟨hB_st_9, (Or.inr (rfl))⟩ (by exact Nat.le_refl _) (by exact Nat.le_refl _) dX7_readGuest_86
            · have ic_10 := gz_ne (rfl : r_9.toInt = r_9.toInt) (by decide : ((-1) : Int32).toInt = -1) c_10
              refine lv_aload_n hx hb dX7_readGuest_76 rfl (lv_at hl 4 rfl) ?_
              refine lv_bipush (v := 59) hx hb dX7_readGuest_77 (by decide) ?_
              refine gs_calli (va_runV (As := [.int 59]) (rest := []) ⟨hx, hb, hml, hown, hts⟩ (s_X7_readSign l G cy sK sV ad H.size st_9 hB_st_9.1 (59 : Int32) ) ⟨(gz_cb (n := 1) hts gm_473 gm_3 gm_476 ⟨by decide +kernel, by decide +kernel, by decide +kernel⟩ ⟨Nat.le_of_ble_eq_true rfl, Nat.le_of_ble_eq_true rfl⟩), hts _ gm_475, hts _ gs_8⟩ (gs_preV hK hov hE hI hM hm hS hA 3 0 (by decide) rfl rfl) rfl rfl hl.1 rfl (lv_room (Nat.le_of_ble_eq_true rfl)) dX7_readGuest_79 ⟨Nat.le_of_ble_eq_true rfl, Nat.le_of_ble_eq_true rfl⟩) hm hS hA (fun r_11 st_11 H locs hw_11 hM hS => ?_)
              obtain ⟨n_11, hw_11⟩ := hw_11
              have hB_st_11 : gBN bX kX [301, 302, 303, 304, 305, 2509, 3400, 3500, 3600, 3700] st st_11 := hB_st_9.call n_11 (by decide)
              rcases hw_11 with rfl | rfl
              · skip
                refine lv_if_ne (tgt := 87) hx hb dX7_readGuest_82 (by decide) (fun _ => ?_) (fun h9 => absurd h9 (by decide))
                refine lv_aload_n hx hb dX7_readGuest_87 rfl (lv_at hl 5 rfl) ?_
                refine lv_iload_n hx hb dX7_readGuest_88 rfl (lv_at hl 3 rfl) ?_
                refine lv_iload_n hx hb dX7_readGuest_89 rfl (lv_at hl 2 rfl) ?_
                refine lv_iload hx hb dX7_readGuest_90 (lv_at hl 1 rfl) ?_
                refine lv_iload hx hb dX7_readGuest_92 (lv_at hl 0 rfl) ?_
                refine gs_callv (va_runV (As := [.int r_1, .int r_4, .int r_7, .int r_9]) (rest := []) ⟨hx, hb, hml, hown, hts⟩ (s_X4_addGuest l G cy sK sV ad H.size st_11 hB_st_11.1 z r_1 r_4 r_7 r_9 r_1.toInt r_4.toInt r_7.toInt r_9.toInt rfl rfl rfl rfl hz_z ) ⟨(gz_cb (n := 4) hts gm_502 gm_10 gm_505 ⟨by decide +kernel, by decide +kernel, by decide +kernel⟩ ⟨Nat.le_of_ble_eq_true rfl, Nat.le_of_ble_eq_true rfl⟩), hts _ gm_503, hts _ gm_504⟩ (gs_preV hK hov hE hI hM hm hS hA 25 z.toNatClampNeg (gs_sel hz_z) rfl rfl) rfl rfl hl.1 rfl (lv_room (Nat.le_of_ble_eq_true rfl)) dX7_readGuest_94 ⟨Nat.le_of_ble_eq_true rfl, Nat.le_of_ble_eq_true rfl⟩) hm hS hA (fun st_12 H locs hw_12 hM hS => ?_)
                obtain ⟨n_12, hw_12⟩ := hw_12
                have hB_st_12 : gBN bX kX [301, 302, 303, 304, 305, 2509, 3400, 3500, 3600, 3700] st st_12 := hB_st_11.call n_12 (by decide)
                refine lv_iconst (v := 1) hx hb dX7_readGuest_97 (by decide) ?_
                exact gs_iret hx hb hr hlocks hM hS (by decide) ⟨hB_st_12, (Or.inl rfl)⟩ (by exact Nat.le_refl _) (by exact Nat.le_refl _) dX7_readGuest_98
              · skip
                refine lv_if_ne (tgt := 87) hx hb dX7_readGuest_82 (by decide) (fun h9 => absurd (by decide) h9) (fun _ => ?_)
                refine lv_iconst (v := 0) hx hb dX7_readGuest_85 (by decide) ?_
                exact gs_iret hx hb hr hlocks hM hS (by decide) ⟨hB_st_11, (Or.inr (rfl))⟩ (by exact Nat.le_refl _) (by exact Nat.le_refl _) dX7_readGuest_86
          · have ic_8 := gz_eqn (rfl : r_7.toInt = r_7.toInt) (by decide : ((-1) : Int32).toInt = -1) c_8
            refine lv_iconst (v := 0) hx hb dX7_readGuest_58 (by decide) ?_
            exact gs_iret hx hb hr hlocks hM hS (by decide) ⟨hB_st_7, (Or.inr (rfl))⟩ (by exact Nat.le_refl _) (by exact Nat.le_refl _) dX7_readGuest_59
        · skip
          refine lv_if_ne (tgt := 45) hx hb dX7_readGuest_40 (by decide) (fun h9 => absurd (by decide) h9) (fun _ => ?_)
          refine lv_iconst (v := 0) hx hb dX7_readGuest_43 (by decide) ?_
          exact gs_iret hx hb hr hlocks hM hS (by decide) ⟨hB_st_6, (Or.inr (rfl))⟩ (by exact Nat.le_refl _) (by exact Nat.le_refl _) dX7_readGuest_44
    · skip
      refine lv_if_ne (tgt := 22) hx hb dX7_readGuest_17 (by decide) (fun h9 => absurd (by decide) h9) (fun _ => ?_)
      refine lv_iconst (v := 0) hx hb dX7_readGuest_20 (by decide) ?_
      exact gs_iret hx hb hr hlocks hM hS (by decide) ⟨hB_st_3, (Or.inr (rfl))⟩ (by exact Nat.le_refl _) (by exact Nat.le_refl _) dX7_readGuest_21

set_option maxHeartbeats 4000000 in
set_option maxRecDepth 100000 in
/-- WellCourt$Reader.readWed -/
theorem s_X7_readWed (l : Launch) (G : va_G) (cy : Nat → ClassId) (sK sV : Nat → Nat) (ad : Nat → Nat → Nat) (sz : Nat) (st : gS) (hB : gBd bX st) (z : Int32) (hz_z : (0 : Int) ≤ z.toInt ∧ z.toInt ≤ (1 : Int)) : gsMi l yX7_readWed cX7_readWed 4 (some .boolean) ({ frames := 4, cells := 0, slots := 0, locals := 87 } : Room) G cy sK sV (shX cy ad) cnX ad sz [.ref (ad 3 0), .ref (ad 25 z.toNatClampNeg)] st (fun (r : Int32) (u : gS) => gBN bX kX [301, 302, 303, 304, 305, 2900] st u ∧ ((r = 1) ∨ (r = 0))) := by
  refine gs_start (fun A => gsQi G (shX cy ad) cnX ad _ A) (by decide) (Nat.le_of_ble_eq_true rfl) ?_
  intro p e s m below meth c A ls H hx hb hr hml hlocks hown hts hK hov hE hI hM hm hS hA hl
  have hl : lv_has ls 4 [(0, .ref (ad 3 0)), (1, .ref (ad 25 z.toNatClampNeg))] := hl
  have hB_st : gBN bX kX [301, 302, 303, 304, 305, 2900] st st := gBN.rf hB
  refine lv_aload_n hx hb dX7_readWed_0 rfl (lv_at hl 0 rfl) ?_
  refine lv_iconst (v := (-1)) hx hb dX7_readWed_1 (by decide) ?_
  refine gs_calli (va_runV (As := [.int (-1)]) (rest := []) ⟨hx, hb, hml, hown, hts⟩ (s_X7_readClan l G cy sK sV ad H.size st hB_st.1 ((-1) : Int32) (-1) (by decide) ) ⟨(gz_cb (n := 1) hts gm_481 gm_3 gm_484 ⟨by decide +kernel, by decide +kernel, by decide +kernel⟩ ⟨Nat.le_of_ble_eq_true rfl, Nat.le_of_ble_eq_true rfl⟩), hts _ gm_483, hts _ gs_10⟩ (gs_preV hK hov hE hI hM hm hS hA 3 0 (by decide) rfl rfl) rfl rfl hl.1 rfl (lv_room (Nat.le_of_ble_eq_true rfl)) dX7_readWed_2 ⟨Nat.le_of_ble_eq_true rfl, Nat.le_of_ble_eq_true rfl⟩) hm hS hA (fun r_1 st_1 H locs hw_1 hM hS => ?_)
  obtain ⟨n_1, hw_1⟩ := hw_1
  have hB_st_1 : gBN bX kX [301, 302, 303, 304, 305, 2900] st st_1 := hB_st.call n_1 (by decide)
  have hw_1_0 := hw_1
  refine lv_istore_n (lv' := [(2, .int r_1), (0, .ref (ad 3 0)), (1, .ref (ad 25 z.toNatClampNeg))]) hx hb dX7_readWed_5 rfl hl (by decide) rfl (fun ls hl => ?_)
  refine lv_iload_n hx hb dX7_readWed_6 rfl (lv_at hl 0 rfl) ?_
  refine lv_iconst (v := (-1)) hx hb dX7_readWed_7 (by decide) ?_
  refine lv_icmp_ne (tgt := 13) hx hb dX7_readWed_8 (by decide) (fun c_2 => ?_) (fun c_2 => ?_)
  · have ic_2 := gz_ne (rfl : r_1.toInt = r_1.toInt) (by decide : ((-1) : Int32).toInt = -1) c_2
    refine lv_aload_n hx hb dX7_readWed_13 rfl (lv_at hl 1 rfl) ?_
    refine lv_iload_n hx hb dX7_readWed_14 rfl (lv_at hl 0 rfl) ?_
    refine gs_calli (va_runV (As := [.int r_1]) (rest := []) ⟨hx, hb, hml, hown, hts⟩ (s_X7_readClan l G cy sK sV ad H.size st_1 hB_st_1.1 r_1 r_1.toInt rfl ) ⟨(gz_cb (n := 1) hts gm_481 gm_3 gm_484 ⟨by decide +kernel, by decide +kernel, by decide +kernel⟩ ⟨Nat.le_of_ble_eq_true rfl, Nat.le_of_ble_eq_true rfl⟩), hts _ gm_483, hts _ gs_10⟩ (gs_preV hK hov hE hI hM hm hS hA 3 0 (by decide) rfl rfl) rfl rfl hl.1 rfl (lv_room (Nat.le_of_ble_eq_true rfl)) dX7_readWed_15 ⟨Nat.le_of_ble_eq_true rfl, Nat.le_of_ble_eq_true rfl⟩) hm hS hA (fun r_3 st_3 H locs hw_3 hM hS => ?_)
    obtain ⟨n_3, hw_3⟩ := hw_3
    have hB_st_3 : gBN bX kX [301, 302, 303, 304, 305, 2900] st st_3 := hB_st_1.call n_3 (by decide)
    have hw_3_0 := hw_3
    refine lv_istore_n (lv' := [(3, .int r_3), (2, .int r_1), (0, .ref (ad 3 0)), (1, .ref (ad 25 z.toNatClampNeg))]) hx hb dX7_readWed_18 rfl hl (by decide) rfl (fun ls hl => ?_)
    refine lv_iload_n hx hb dX7_readWed_19 rfl (lv_at hl 0 rfl) ?_
    refine lv_iconst (v := (-1)) hx hb dX7_readWed_20 (by decide) ?_
    refine lv_icmp_eq (tgt := 33) hx hb dX7_readWed_21 (by decide) (fun c_4 => ?_) (fun c_4 => ?_)
    · have ic_4 := gz_eq (rfl : r_3.toInt = r_3.toInt) (by decide : ((-1) : Int32).toInt = -1) c_4
      refine lv_iconst (v := 0) hx hb dX7_readWed_33 (by decide) ?_
      exact gs_iret hx hb hr hlocks hM hS (by decide) ⟨hB_st_3, (Or.inr (rfl))⟩ (by exact Nat.le_refl _) (by exact Nat.le_refl _) dX7_readWed_34
    · have ic_4 := gz_ne (rfl : r_3.toInt = r_3.toInt) (by decide : ((-1) : Int32).toInt = -1) c_4
      refine lv_aload_n hx hb dX7_readWed_24 rfl (lv_at hl 2 rfl) ?_
      refine lv_bipush (v := 59) hx hb dX7_readWed_25 (by decide) ?_
      refine gs_calli (va_runV (As := [.int 59]) (rest := []) ⟨hx, hb, hml, hown, hts⟩ (s_X7_readSign l G cy sK sV ad H.size st_3 hB_st_3.1 (59 : Int32) ) ⟨(gz_cb (n := 1) hts gm_473 gm_3 gm_476 ⟨by decide +kernel, by decide +kernel, by decide +kernel⟩ ⟨Nat.le_of_ble_eq_true rfl, Nat.le_of_ble_eq_true rfl⟩), hts _ gm_475, hts _ gs_8⟩ (gs_preV hK hov hE hI hM hm hS hA 3 0 (by decide) rfl rfl) rfl rfl hl.1 rfl (lv_room (Nat.le_of_ble_eq_true rfl)) dX7_readWed_27 ⟨Nat.le_of_ble_eq_true rfl, Nat.le_of_ble_eq_true rfl⟩) hm hS hA (fun r_5 st_5 H locs hw_5 hM hS => ?_)
      obtain ⟨n_5, hw_5⟩ := hw_5
      have hB_st_5 : gBN bX kX [301, 302, 303, 304, 305, 2900] st st_5 := hB_st_3.call n_5 (by decide)
      rcases hw_5 with rfl | rfl
      · skip
        refine lv_if_ne (tgt := 35) hx hb dX7_readWed_30 (by decide) (fun _ => ?_) (fun h9 => absurd h9 (by decide))
        refine lv_aload_n hx hb dX7_readWed_35 rfl (lv_at hl 3 rfl) ?_
        refine lv_iload_n hx hb dX7_readWed_36 rfl (lv_at hl 1 rfl) ?_
        refine lv_iload_n hx hb dX7_readWed_37 rfl (lv_at hl 0 rfl) ?_
        refine gs_callv (va_runV (As := [.int r_1, .int r_3]) (rest := []) ⟨hx, hb, hml, hown, hts⟩ (s_X4_addWed l G cy sK sV ad H.size st_5 hB_st_5.1 z r_1 r_3 r_1.toInt r_3.toInt rfl rfl hz_z (by first | decide | omega) (by first | decide | omega) (by first | decide | omega) (by first | decide | omega)) ⟨(gz_cb (n := 2) hts gm_510 gm_10 gm_513 ⟨by decide +kernel, by decide +kernel, by decide +kernel⟩ ⟨Nat.le_of_ble_eq_true rfl, Nat.le_of_ble_eq_true rfl⟩), hts _ gm_511, hts _ gm_512⟩ (gs_preV hK hov hE hI hM hm hS hA 25 z.toNatClampNeg (gs_sel hz_z) rfl rfl) rfl rfl hl.1 rfl (lv_room (Nat.le_of_ble_eq_true rfl)) dX7_readWed_38 ⟨Nat.le_of_ble_eq_true rfl, Nat.le_of_ble_eq_true rfl⟩) hm hS hA (fun st_6 H locs hw_6 hM hS => ?_)
        obtain ⟨n_6, hw_6⟩ := hw_6
        have hB_st_6 : gBN bX kX [301, 302, 303, 304, 305, 2900] st st_6 := hB_st_5.call n_6 (by decide)
        refine lv_iconst (v := 1) hx hb dX7_readWed_41 (by decide) ?_
        exact gs_iret hx hb hr hlocks hM hS (by decide) ⟨hB_st_6, (Or.inl rfl)⟩ (by exact Nat.le_refl _) (by exact Nat.le_refl _) dX7_readWed_42
      · skip
        refine lv_if_ne (tgt := 35) hx hb dX7_readWed_30 (by decide) (fun h9 => absurd (by decide) h9) (fun _ => ?_)
        refine lv_iconst (v := 0) hx hb dX7_readWed_33 (by decide) ?_
        exact gs_iret hx hb hr hlocks hM hS (by decide) ⟨hB_st_5, (Or.inr (rfl))⟩ (by exact Nat.le_refl _) (by exact Nat.le_refl _) dX7_readWed_34
  · have ic_2 := gz_eqn (rfl : r_1.toInt = r_1.toInt) (by decide : ((-1) : Int32).toInt = -1) c_2
    refine lv_iconst (v := 0) hx hb dX7_readWed_11 (by decide) ?_
    exact gs_iret hx hb hr hlocks hM hS (by decide) ⟨hB_st_1, (Or.inr (rfl))⟩ (by exact Nat.le_refl _) (by exact Nat.le_refl _) dX7_readWed_12

set_option maxHeartbeats 4000000 in
set_option maxRecDepth 100000 in
/-- WellCourt$Reader.readDrought -/
theorem s_X7_readDrought (l : Launch) (G : va_G) (cy : Nat → ClassId) (sK sV : Nat → Nat) (ad : Nat → Nat → Nat) (sz : Nat) (st : gS) (hB : gBd bX st) (z : Int32) (hz_z : (0 : Int) ≤ z.toInt ∧ z.toInt ≤ (1 : Int)) : gsMi l yX7_readDrought cX7_readDrought 5 (some .boolean) ({ frames := 6, cells := 0, slots := 0, locals := 128 } : Room) G cy sK sV (shX cy ad) cnX ad sz [.ref (ad 3 0), .ref (ad 25 z.toNatClampNeg)] st (fun (r : Int32) (u : gS) => gBN bX kX [301, 302, 303, 304, 305, 2505, 3100, 3200, 3300] st u ∧ ((r = 1) ∨ (r = 0))) := by
  refine gs_start (fun A => gsQi G (shX cy ad) cnX ad _ A) (by decide) (Nat.le_of_ble_eq_true rfl) ?_
  intro p e s m below meth c A ls H hx hb hr hml hlocks hown hts hK hov hE hI hM hm hS hA hl
  have hl : lv_has ls 5 [(0, .ref (ad 3 0)), (1, .ref (ad 25 z.toNatClampNeg))] := hl
  have hB_st : gBN bX kX [301, 302, 303, 304, 305, 2505, 3100, 3200, 3300] st st := gBN.rf hB
  refine lv_aload_n hx hb dX7_readDrought_0 rfl (lv_at hl 0 rfl) ?_
  refine lv_iconst (v := 0) hx hb dX7_readDrought_1 (by decide) ?_
  refine lv_iconst (v := 5) hx hb dX7_readDrought_2 (by decide) ?_
  refine gs_calli (va_runV (As := [.int 0, .int 5]) (rest := []) ⟨hx, hb, hml, hown, hts⟩ (s_X7_readNumber l G cy sK sV ad H.size st hB_st.1 (0 : Int32) (5 : Int32) 0 5 (by decide) (by decide) ) ⟨(gz_cb (n := 2) hts gm_464 gm_3 gm_467 ⟨by decide +kernel, by decide +kernel, by decide +kernel⟩ ⟨Nat.le_of_ble_eq_true rfl, Nat.le_of_ble_eq_true rfl⟩), hts _ gm_466, hts _ gs_7⟩ (gs_preV hK hov hE hI hM hm hS hA 3 0 (by decide) rfl rfl) rfl rfl hl.1 rfl (lv_room (Nat.le_of_ble_eq_true rfl)) dX7_readDrought_3 ⟨Nat.le_of_ble_eq_true rfl, Nat.le_of_ble_eq_true rfl⟩) hm hS hA (fun r_1 st_1 H locs hw_1 hM hS => ?_)
  obtain ⟨n_1, hw_1⟩ := hw_1
  have hB_st_1 : gBN bX kX [301, 302, 303, 304, 305, 2505, 3100, 3200, 3300] st st_1 := hB_st.call n_1 (by decide)
  have hw_1_0 := hw_1
  refine lv_istore_n (lv' := [(2, .int r_1), (0, .ref (ad 3 0)), (1, .ref (ad 25 z.toNatClampNeg))]) hx hb dX7_readDrought_6 rfl hl (by decide) rfl (fun ls hl => ?_)
  refine lv_iload_n hx hb dX7_readDrought_7 rfl (lv_at hl 0 rfl) ?_
  refine lv_iconst (v := (-1)) hx hb dX7_readDrought_8 (by decide) ?_
  refine lv_icmp_eq (tgt := 21) hx hb dX7_readDrought_9 (by decide) (fun c_2 => ?_) (fun c_2 => ?_)
  · have ic_2 := gz_eq (rfl : r_1.toInt = r_1.toInt) (by decide : ((-1) : Int32).toInt = -1) c_2
    refine lv_iconst (v := 0) hx hb dX7_readDrought_21 (by decide) ?_
    exact gs_iret hx hb hr hlocks hM hS (by decide) ⟨hB_st_1, (Or.inr (rfl))⟩ (by exact Nat.le_refl _) (by exact Nat.le_refl _) dX7_readDrought_22
  · have ic_2 := gz_ne (rfl : r_1.toInt = r_1.toInt) (by decide : ((-1) : Int32).toInt = -1) c_2
    refine lv_aload_n hx hb dX7_readDrought_12 rfl (lv_at hl 1 rfl) ?_
    refine va_ldcS (q := sK 7) hx hb hown (hE.2.2.1 7 (by decide)) dX7_readDrought_13 ?_
    refine gs_calli (va_runV (As := [.ref (sK 7)]) (rest := []) ⟨hx, hb, hml, hown, hts⟩ (s_X7_readWord l G cy sK sV ad H.size st_1 hB_st_1.1 7 (by decide) ) ⟨(gz_cb (n := 1) hts gm_497 gm_3 gm_500 ⟨by decide +kernel, by decide +kernel, by decide +kernel⟩ ⟨Nat.le_of_ble_eq_true rfl, Nat.le_of_ble_eq_true rfl⟩), hts _ gm_499, hts _ gs_12⟩ (gs_preV hK hov hE hI hM hm hS hA 3 0 (by decide) rfl rfl) rfl rfl hl.1 rfl (lv_room (Nat.le_of_ble_eq_true rfl)) dX7_readDrought_15 ⟨Nat.le_of_ble_eq_true rfl, Nat.le_of_ble_eq_true rfl⟩) hm hS hA (fun r_3 st_3 H locs hw_3 hM hS => ?_)
    obtain ⟨n_3, hw_3⟩ := hw_3
    have hB_st_3 : gBN bX kX [301, 302, 303, 304, 305, 2505, 3100, 3200, 3300] st st_3 := hB_st_1.call n_3 (by decide)
    rcases hw_3 with rfl | rfl
    · skip
      refine lv_if_ne (tgt := 23) hx hb dX7_readDrought_18 (by decide) (fun _ => ?_) (fun h9 => absurd h9 (by decide))
      refine lv_aload_n hx hb dX7_readDrought_23 rfl (lv_at hl 1 rfl) ?_
      refine lv_iconst (v := 0) hx hb dX7_readDrought_24 (by decide) ?_
      refine lv_sipush (v := 1000) hx hb dX7_readDrought_25 (by decide) ?_
      refine gs_calli (va_runV (As := [.int 0, .int 1000]) (rest := []) ⟨hx, hb, hml, hown, hts⟩ (s_X7_readNumber l G cy sK sV ad H.size st_3 hB_st_3.1 (0 : Int32) (1000 : Int32) 0 1000 (by decide) (by decide) ) ⟨(gz_cb (n := 2) hts gm_464 gm_3 gm_467 ⟨by decide +kernel, by decide +kernel, by decide +kernel⟩ ⟨Nat.le_of_ble_eq_true rfl, Nat.le_of_ble_eq_true rfl⟩), hts _ gm_466, hts _ gs_7⟩ (gs_preV hK hov hE hI hM hm hS hA 3 0 (by decide) rfl rfl) rfl rfl hl.1 rfl (lv_room (Nat.le_of_ble_eq_true rfl)) dX7_readDrought_28 ⟨Nat.le_of_ble_eq_true rfl, Nat.le_of_ble_eq_true rfl⟩) hm hS hA (fun r_4 st_4 H locs hw_4 hM hS => ?_)
      obtain ⟨n_4, hw_4⟩ := hw_4
      have hB_st_4 : gBN bX kX [301, 302, 303, 304, 305, 2505, 3100, 3200, 3300] st st_4 := hB_st_3.call n_4 (by decide)
      have hw_4_0 := hw_4
      refine lv_istore_n (lv' := [(3, .int r_4), (2, .int r_1), (0, .ref (ad 3 0)), (1, .ref (ad 25 z.toNatClampNeg))]) hx hb dX7_readDrought_31 rfl hl (by decide) rfl (fun ls hl => ?_)
      refine lv_iload_n hx hb dX7_readDrought_32 rfl (lv_at hl 0 rfl) ?_
      refine lv_iconst (v := (-1)) hx hb dX7_readDrought_33 (by decide) ?_
      refine lv_icmp_ne (tgt := 39) hx hb dX7_readDrought_34 (by decide) (fun c_5 => ?_) (fun c_5 => ?_)
      · have ic_5 := gz_ne (rfl : r_4.toInt = r_4.toInt) (by decide : ((-1) : Int32).toInt = -1) c_5
        refine lv_aload_n hx hb dX7_readDrought_39 rfl (lv_at hl 2 rfl) ?_
        refine lv_iconst (v := (-1)) hx hb dX7_readDrought_40 (by decide) ?_
        refine gs_calli (va_runV (As := [.int (-1)]) (rest := []) ⟨hx, hb, hml, hown, hts⟩ (s_X7_readClan l G cy sK sV ad H.size st_4 hB_st_4.1 ((-1) : Int32) (-1) (by decide) ) ⟨(gz_cb (n := 1) hts gm_481 gm_3 gm_484 ⟨by decide +kernel, by decide +kernel, by decide +kernel⟩ ⟨Nat.le_of_ble_eq_true rfl, Nat.le_of_ble_eq_true rfl⟩), hts _ gm_483, hts _ gs_10⟩ (gs_preV hK hov hE hI hM hm hS hA 3 0 (by decide) rfl rfl) rfl rfl hl.1 rfl (lv_room (Nat.le_of_ble_eq_true rfl)) dX7_readDrought_41 ⟨Nat.le_of_ble_eq_true rfl, Nat.le_of_ble_eq_true rfl⟩) hm hS hA (fun r_6 st_6 H locs hw_6 hM hS => ?_)
        obtain ⟨n_6, hw_6⟩ := hw_6
        have hB_st_6 : gBN bX kX [301, 302, 303, 304, 305, 2505, 3100, 3200, 3300] st st_6 := hB_st_4.call n_6 (by decide)
        have hw_6_0 := hw_6
        refine lv_istore (lv' := [(4, .int r_6), (3, .int r_4), (2, .int r_1), (0, .ref (ad 3 0)), (1, .ref (ad 25 z.toNatClampNeg))]) hx hb dX7_readDrought_44 hl (by decide) rfl (fun ls hl => ?_)
        refine lv_iload hx hb dX7_readDrought_46 (lv_at hl 0 rfl) ?_
        refine lv_iconst (v := (-1)) hx hb dX7_readDrought_48 (by decide) ?_
        refine lv_icmp_eq (tgt := 61) hx hb dX7_readDrought_49 (by decide) (fun c_7 => ?_) (fun c_7 => ?_)
        · have ic_7 := gz_eq (rfl : r_6.toInt = r_6.toInt) (by decide : ((-1) : Int32).toInt = -1) c_7
          refine lv_iconst (v := 0) hx hb dX7_readDrought_61 (by decide) ?_
          exact gs_iret hx hb hr hlocks hM hS (by decide) ⟨hB_st_6, (Or.inr (rfl))⟩ (by exact Nat.le_refl _) (by exact Nat.le_refl _) dX7_readDrought_62
        · have ic_7 := gz_ne (rfl : r_6.toInt = r_6.toInt) (by decide : ((-1) : Int32).toInt = -1) c_7
          refine lv_aload_n hx hb dX7_readDrought_52 rfl (lv_at hl 3 rfl) ?_
          refine lv_bipush (v := 59) hx hb dX7_readDrought_53 (by decide) ?_
          refine gs_calli (va_runV (As := [.int 59]) (rest := []) ⟨hx, hb, hml, hown, hts⟩ (s_X7_readSign l G cy sK sV ad H.size st_6 hB_st_6.1 (59 : Int32) ) ⟨(gz_cb (n := 1) hts gm_473 gm_3 gm_476 ⟨by decide +kernel, by decide +kernel, by decide +kernel⟩ ⟨Nat.le_of_ble_eq_true rfl, Nat.le_of_ble_eq_true rfl⟩), hts _ gm_475, hts _ gs_8⟩ (gs_preV hK hov hE hI hM hm hS hA 3 0 (by decide) rfl rfl) rfl rfl hl.1 rfl (lv_room (Nat.le_of_ble_eq_true rfl)) dX7_readDrought_55 ⟨Nat.le_of_ble_eq_true rfl, Nat.le_of_ble_eq_true rfl⟩) hm hS hA (fun r_8 st_8 H locs hw_8 hM hS => ?_)
          obtain ⟨n_8, hw_8⟩ := hw_8
          have hB_st_8 : gBN bX kX [301, 302, 303, 304, 305, 2505, 3100, 3200, 3300] st st_8 := hB_st_6.call n_8 (by decide)
          rcases hw_8 with rfl | rfl
          · skip
            refine lv_if_ne (tgt := 63) hx hb dX7_readDrought_58 (by decide) (fun _ => ?_) (fun h9 => absurd h9 (by decide))
            refine lv_aload_n hx hb dX7_readDrought_63 rfl (lv_at hl 4 rfl) ?_
            refine lv_iload_n hx hb dX7_readDrought_64 rfl (lv_at hl 2 rfl) ?_
            refine lv_iload_n hx hb dX7_readDrought_65 rfl (lv_at hl 1 rfl) ?_
            refine lv_iload hx hb dX7_readDrought_66 (lv_at hl 0 rfl) ?_
            refine gs_callv (va_runV (As := [.int r_1, .int r_4, .int r_6]) (rest := []) ⟨hx, hb, hml, hown, hts⟩ (s_X4_addDrought l G cy sK sV ad H.size st_8 hB_st_8.1 z r_1 r_4 r_6 r_1.toInt r_4.toInt r_6.toInt rfl rfl rfl hz_z ) ⟨(gz_cb (n := 3) hts gm_519 gm_10 gm_522 ⟨by decide +kernel, by decide +kernel, by decide +kernel⟩ ⟨Nat.le_of_ble_eq_true rfl, Nat.le_of_ble_eq_true rfl⟩), hts _ gm_520, hts _ gm_521⟩ (gs_preV hK hov hE hI hM hm hS hA 25 z.toNatClampNeg (gs_sel hz_z) rfl rfl) rfl rfl hl.1 rfl (lv_room (Nat.le_of_ble_eq_true rfl)) dX7_readDrought_68 ⟨Nat.le_of_ble_eq_true rfl, Nat.le_of_ble_eq_true rfl⟩) hm hS hA (fun st_9 H locs hw_9 hM hS => ?_)
            obtain ⟨n_9, hw_9⟩ := hw_9
            have hB_st_9 : gBN bX kX [301, 302, 303, 304, 305, 2505, 3100, 3200, 3300] st st_9 := hB_st_8.call n_9 (by decide)
            refine lv_iconst (v := 1) hx hb dX7_readDrought_71 (by decide) ?_
            exact gs_iret hx hb hr hlocks hM hS (by decide) ⟨hB_st_9, (Or.inl rfl)⟩ (by exact Nat.le_refl _) (by exact Nat.le_refl _) dX7_readDrought_72
          · skip
            refine lv_if_ne (tgt := 63) hx hb dX7_readDrought_58 (by decide) (fun h9 => absurd (by decide) h9) (fun _ => ?_)
            refine lv_iconst (v := 0) hx hb dX7_readDrought_61 (by decide) ?_
            exact gs_iret hx hb hr hlocks hM hS (by decide) ⟨hB_st_8, (Or.inr (rfl))⟩ (by exact Nat.le_refl _) (by exact Nat.le_refl _) dX7_readDrought_62
      · have ic_5 := gz_eqn (rfl : r_4.toInt = r_4.toInt) (by decide : ((-1) : Int32).toInt = -1) c_5
        refine lv_iconst (v := 0) hx hb dX7_readDrought_37 (by decide) ?_
        exact gs_iret hx hb hr hlocks hM hS (by decide) ⟨hB_st_4, (Or.inr (rfl))⟩ (by exact Nat.le_refl _) (by exact Nat.le_refl _) dX7_readDrought_38
    · skip
      refine lv_if_ne (tgt := 23) hx hb dX7_readDrought_18 (by decide) (fun h9 => absurd (by decide) h9) (fun _ => ?_)
      refine lv_iconst (v := 0) hx hb dX7_readDrought_21 (by decide) ?_
      exact gs_iret hx hb hr hlocks hM hS (by decide) ⟨hB_st_3, (Or.inr (rfl))⟩ (by exact Nat.le_refl _) (by exact Nat.le_refl _) dX7_readDrought_22

set_option maxHeartbeats 4000000 in
set_option maxRecDepth 100000 in
/-- WellCourt$Reader.readDry -/
theorem s_X7_readDry (l : Launch) (G : va_G) (cy : Nat → ClassId) (sK sV : Nat → Nat) (ad : Nat → Nat → Nat) (sz : Nat) (st : gS) (hB : gBd bX st) (z : Int32) (hz_z : (0 : Int) ≤ z.toInt ∧ z.toInt ≤ (1 : Int)) : gsMi l yX7_readDry cX7_readDry 4 (some .boolean) ({ frames := 6, cells := 0, slots := 0, locals := 128 } : Room) G cy sK sV (shX cy ad) cnX ad sz [.ref (ad 3 0), .ref (ad 25 z.toNatClampNeg)] st (fun (r : Int32) (u : gS) => gBN bX kX [301, 302, 303, 304, 305, 3000] st u ∧ ((r = 1) ∨ (r = 0))) := by
  refine gs_start (fun A => gsQi G (shX cy ad) cnX ad _ A) (by decide) (Nat.le_of_ble_eq_true rfl) ?_
  intro p e s m below meth c A ls H hx hb hr hml hlocks hown hts hK hov hE hI hM hm hS hA hl
  have hl : lv_has ls 4 [(0, .ref (ad 3 0)), (1, .ref (ad 25 z.toNatClampNeg))] := hl
  have hB_st : gBN bX kX [301, 302, 303, 304, 305, 3000] st st := gBN.rf hB
  refine lv_aload_n hx hb dX7_readDry_0 rfl (lv_at hl 0 rfl) ?_
  refine lv_iconst (v := 0) hx hb dX7_readDry_1 (by decide) ?_
  refine lv_iconst (v := 5) hx hb dX7_readDry_2 (by decide) ?_
  refine gs_calli (va_runV (As := [.int 0, .int 5]) (rest := []) ⟨hx, hb, hml, hown, hts⟩ (s_X7_readNumber l G cy sK sV ad H.size st hB_st.1 (0 : Int32) (5 : Int32) 0 5 (by decide) (by decide) ) ⟨(gz_cb (n := 2) hts gm_464 gm_3 gm_467 ⟨by decide +kernel, by decide +kernel, by decide +kernel⟩ ⟨Nat.le_of_ble_eq_true rfl, Nat.le_of_ble_eq_true rfl⟩), hts _ gm_466, hts _ gs_7⟩ (gs_preV hK hov hE hI hM hm hS hA 3 0 (by decide) rfl rfl) rfl rfl hl.1 rfl (lv_room (Nat.le_of_ble_eq_true rfl)) dX7_readDry_3 ⟨Nat.le_of_ble_eq_true rfl, Nat.le_of_ble_eq_true rfl⟩) hm hS hA (fun r_1 st_1 H locs hw_1 hM hS => ?_)
  obtain ⟨n_1, hw_1⟩ := hw_1
  have hB_st_1 : gBN bX kX [301, 302, 303, 304, 305, 3000] st st_1 := hB_st.call n_1 (by decide)
  have hw_1_0 := hw_1
  refine lv_istore_n (lv' := [(2, .int r_1), (0, .ref (ad 3 0)), (1, .ref (ad 25 z.toNatClampNeg))]) hx hb dX7_readDry_6 rfl hl (by decide) rfl (fun ls hl => ?_)
  refine lv_iload_n hx hb dX7_readDry_7 rfl (lv_at hl 0 rfl) ?_
  refine lv_iconst (v := (-1)) hx hb dX7_readDry_8 (by decide) ?_
  refine lv_icmp_eq (tgt := 21) hx hb dX7_readDry_9 (by decide) (fun c_2 => ?_) (fun c_2 => ?_)
  · have ic_2 := gz_eq (rfl : r_1.toInt = r_1.toInt) (by decide : ((-1) : Int32).toInt = -1) c_2
    refine lv_iconst (v := 0) hx hb dX7_readDry_21 (by decide) ?_
    exact gs_iret hx hb hr hlocks hM hS (by decide) ⟨hB_st_1, (Or.inr (rfl))⟩ (by exact Nat.le_refl _) (by exact Nat.le_refl _) dX7_readDry_22
  · have ic_2 := gz_ne (rfl : r_1.toInt = r_1.toInt) (by decide : ((-1) : Int32).toInt = -1) c_2
    refine lv_aload_n hx hb dX7_readDry_12 rfl (lv_at hl 1 rfl) ?_
    refine va_ldcS (q := sK 8) hx hb hown (hE.2.2.1 8 (by decide)) dX7_readDry_13 ?_
    refine gs_calli (va_runV (As := [.ref (sK 8)]) (rest := []) ⟨hx, hb, hml, hown, hts⟩ (s_X7_readWord l G cy sK sV ad H.size st_1 hB_st_1.1 8 (by decide) ) ⟨(gz_cb (n := 1) hts gm_497 gm_3 gm_500 ⟨by decide +kernel, by decide +kernel, by decide +kernel⟩ ⟨Nat.le_of_ble_eq_true rfl, Nat.le_of_ble_eq_true rfl⟩), hts _ gm_499, hts _ gs_12⟩ (gs_preV hK hov hE hI hM hm hS hA 3 0 (by decide) rfl rfl) rfl rfl hl.1 rfl (lv_room (Nat.le_of_ble_eq_true rfl)) dX7_readDry_15 ⟨Nat.le_of_ble_eq_true rfl, Nat.le_of_ble_eq_true rfl⟩) hm hS hA (fun r_3 st_3 H locs hw_3 hM hS => ?_)
    obtain ⟨n_3, hw_3⟩ := hw_3
    have hB_st_3 : gBN bX kX [301, 302, 303, 304, 305, 3000] st st_3 := hB_st_1.call n_3 (by decide)
    rcases hw_3 with rfl | rfl
    · skip
      refine lv_if_ne (tgt := 23) hx hb dX7_readDry_18 (by decide) (fun _ => ?_) (fun h9 => absurd h9 (by decide))
      refine lv_aload_n hx hb dX7_readDry_23 rfl (lv_at hl 1 rfl) ?_
      refine lv_iconst (v := 0) hx hb dX7_readDry_24 (by decide) ?_
      refine lv_iconst (v := 5) hx hb dX7_readDry_25 (by decide) ?_
      refine gs_calli (va_runV (As := [.int 0, .int 5]) (rest := []) ⟨hx, hb, hml, hown, hts⟩ (s_X7_readNumber l G cy sK sV ad H.size st_3 hB_st_3.1 (0 : Int32) (5 : Int32) 0 5 (by decide) (by decide) ) ⟨(gz_cb (n := 2) hts gm_464 gm_3 gm_467 ⟨by decide +kernel, by decide +kernel, by decide +kernel⟩ ⟨Nat.le_of_ble_eq_true rfl, Nat.le_of_ble_eq_true rfl⟩), hts _ gm_466, hts _ gs_7⟩ (gs_preV hK hov hE hI hM hm hS hA 3 0 (by decide) rfl rfl) rfl rfl hl.1 rfl (lv_room (Nat.le_of_ble_eq_true rfl)) dX7_readDry_26 ⟨Nat.le_of_ble_eq_true rfl, Nat.le_of_ble_eq_true rfl⟩) hm hS hA (fun r_4 st_4 H locs hw_4 hM hS => ?_)
      obtain ⟨n_4, hw_4⟩ := hw_4
      have hB_st_4 : gBN bX kX [301, 302, 303, 304, 305, 3000] st st_4 := hB_st_3.call n_4 (by decide)
      have hw_4_0 := hw_4
      refine lv_istore_n (lv' := [(3, .int r_4), (2, .int r_1), (0, .ref (ad 3 0)), (1, .ref (ad 25 z.toNatClampNeg))]) hx hb dX7_readDry_29 rfl hl (by decide) rfl (fun ls hl => ?_)
      refine lv_iload_n hx hb dX7_readDry_30 rfl (lv_at hl 0 rfl) ?_
      refine lv_iconst (v := (-1)) hx hb dX7_readDry_31 (by decide) ?_
      refine lv_icmp_ne (tgt := 37) hx hb dX7_readDry_32 (by decide) (fun c_5 => ?_) (fun c_5 => ?_)
      · have ic_5 := gz_ne (rfl : r_4.toInt = r_4.toInt) (by decide : ((-1) : Int32).toInt = -1) c_5
        refine lv_iload_n hx hb dX7_readDry_37 rfl (lv_at hl 0 rfl) ?_
        refine lv_iload_n hx hb dX7_readDry_38 rfl (lv_at hl 1 rfl) ?_
        refine lv_icmp_ne (tgt := 48) hx hb dX7_readDry_39 (by decide) (fun c_6 => ?_) (fun c_6 => ?_)
        · have ic_6 := gz_ne (rfl : r_4.toInt = r_4.toInt) (rfl : r_1.toInt = r_1.toInt) c_6
          refine lv_aload_n hx hb dX7_readDry_48 rfl (lv_at hl 2 rfl) ?_
          refine lv_bipush (v := 59) hx hb dX7_readDry_49 (by decide) ?_
          refine gs_calli (va_runV (As := [.int 59]) (rest := []) ⟨hx, hb, hml, hown, hts⟩ (s_X7_readSign l G cy sK sV ad H.size st_4 hB_st_4.1 (59 : Int32) ) ⟨(gz_cb (n := 1) hts gm_473 gm_3 gm_476 ⟨by decide +kernel, by decide +kernel, by decide +kernel⟩ ⟨Nat.le_of_ble_eq_true rfl, Nat.le_of_ble_eq_true rfl⟩), hts _ gm_475, hts _ gs_8⟩ (gs_preV hK hov hE hI hM hm hS hA 3 0 (by decide) rfl rfl) rfl rfl hl.1 rfl (lv_room (Nat.le_of_ble_eq_true rfl)) dX7_readDry_51 ⟨Nat.le_of_ble_eq_true rfl, Nat.le_of_ble_eq_true rfl⟩) hm hS hA (fun r_7 st_7 H locs hw_7 hM hS => ?_)
          obtain ⟨n_7, hw_7⟩ := hw_7
          have hB_st_7 : gBN bX kX [301, 302, 303, 304, 305, 3000] st st_7 := hB_st_4.call n_7 (by decide)
          rcases hw_7 with rfl | rfl
          · skip
            refine lv_if_ne (tgt := 59) hx hb dX7_readDry_54 (by decide) (fun _ => ?_) (fun h9 => absurd h9 (by decide))
            refine lv_aload_n hx hb dX7_readDry_59 rfl (lv_at hl 3 rfl) ?_
            refine lv_iload_n hx hb dX7_readDry_60 rfl (lv_at hl 1 rfl) ?_
            refine lv_iload_n hx hb dX7_readDry_61 rfl (lv_at hl 0 rfl) ?_
            refine gs_callv (va_runV (As := [.int r_1, .int r_4]) (rest := []) ⟨hx, hb, hml, hown, hts⟩ (s_X4_addDry l G cy sK sV ad H.size st_7 hB_st_7.1 z r_1 r_4 r_1.toInt r_4.toInt rfl rfl hz_z (by first | decide | omega) (by first | decide | omega)) ⟨(gz_cb (n := 2) hts gm_528 gm_10 gm_531 ⟨by decide +kernel, by decide +kernel, by decide +kernel⟩ ⟨Nat.le_of_ble_eq_true rfl, Nat.le_of_ble_eq_true rfl⟩), hts _ gm_529, hts _ gm_530⟩ (gs_preV hK hov hE hI hM hm hS hA 25 z.toNatClampNeg (gs_sel hz_z) rfl rfl) rfl rfl hl.1 rfl (lv_room (Nat.le_of_ble_eq_true rfl)) dX7_readDry_62 ⟨Nat.le_of_ble_eq_true rfl, Nat.le_of_ble_eq_true rfl⟩) hm hS hA (fun st_8 H locs hw_8 hM hS => ?_)
            obtain ⟨n_8, hw_8⟩ := hw_8
            have hB_st_8 : gBN bX kX [301, 302, 303, 304, 305, 3000] st st_8 := hB_st_7.call n_8 (by decide)
            refine lv_iconst (v := 1) hx hb dX7_readDry_65 (by decide) ?_
            exact gs_iret hx hb hr hlocks hM hS (by decide) ⟨hB_st_8, (Or.inl rfl)⟩ (by exact Nat.le_refl _) (by exact Nat.le_refl _) dX7_readDry_66
          · skip
            refine lv_if_ne (tgt := 59) hx hb dX7_readDry_54 (by decide) (fun h9 => absurd (by decide) h9) (fun _ => ?_)
            refine lv_iconst (v := 0) hx hb dX7_readDry_57 (by decide) ?_
            exact gs_iret hx hb hr hlocks hM hS (by decide) ⟨hB_st_7, (Or.inr (rfl))⟩ (by exact Nat.le_refl _) (by exact Nat.le_refl _) dX7_readDry_58
        · have ic_6 := gz_eqn (rfl : r_4.toInt = r_4.toInt) (rfl : r_1.toInt = r_1.toInt) c_6
          refine lv_aload_n hx hb dX7_readDry_42 rfl (lv_at hl 2 rfl) ?_
          refine lv_iconst (v := 3) hx hb dX7_readDry_43 (by decide) ?_
          refine gs_calli (va_runV (As := [.int 3]) (rest := []) ⟨hx, hb, hml, hown, hts⟩ (s_X7_fail l G cy sK sV ad H.size st_4 hB_st_4.1 (3 : Int32) ) ⟨(gz_cb (n := 1) hts gm_456 gm_3 gm_459 ⟨by decide +kernel, by decide +kernel, by decide +kernel⟩ ⟨Nat.le_of_ble_eq_true rfl, Nat.le_of_ble_eq_true rfl⟩), hts _ gm_458, hts _ gs_5⟩ (gs_preV hK hov hE hI hM hm hS hA 3 0 (by decide) rfl rfl) rfl rfl hl.1 rfl (lv_room (Nat.le_of_ble_eq_true rfl)) dX7_readDry_44 ⟨Nat.le_of_ble_eq_true rfl, Nat.le_of_ble_eq_true rfl⟩) hm hS hA (fun r_9 st_9 H locs hw_9 hM hS => ?_)
          obtain ⟨n_9, hw_9⟩ := hw_9
          have hB_st_9 : gBN bX kX [301, 302, 303, 304, 305, 3000] st st_9 := hB_st_4.call n_9 (by decide)
          obtain rfl := hw_9
          exact gs_iret hx hb hr hlocks hM hS (by decide) ⟨hB_st_9, (Or.inr (rfl))⟩ (by exact Nat.le_refl _) (by exact Nat.le_refl _) dX7_readDry_47
      · have ic_5 := gz_eqn (rfl : r_4.toInt = r_4.toInt) (by decide : ((-1) : Int32).toInt = -1) c_5
        refine lv_iconst (v := 0) hx hb dX7_readDry_35 (by decide) ?_
        exact gs_iret hx hb hr hlocks hM hS (by decide) ⟨hB_st_4, (Or.inr (rfl))⟩ (by exact Nat.le_refl _) (by exact Nat.le_refl _) dX7_readDry_36
    · skip
      refine lv_if_ne (tgt := 23) hx hb dX7_readDry_18 (by decide) (fun h9 => absurd (by decide) h9) (fun _ => ?_)
      refine lv_iconst (v := 0) hx hb dX7_readDry_21 (by decide) ?_
      exact gs_iret hx hb hr hlocks hM hS (by decide) ⟨hB_st_3, (Or.inr (rfl))⟩ (by exact Nat.le_refl _) (by exact Nat.le_refl _) dX7_readDry_22
