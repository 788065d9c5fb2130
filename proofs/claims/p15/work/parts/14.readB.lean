theorem gm_10 : (Jvm.Cond.initialized "WellCourt$Law") ∈ gz_T := gz_at 10 (by decide +kernel) rfl
theorem gm_464 : (Jvm.Cond.methodLink "WellCourt$Reader" (80 : Nat) ({ cls := "WellCourt$Reader", name := "readNumber", desc := "(II)I" } : Jvm.MethodName)) ∈ gz_T := gz_at 464 (by decide +kernel) rfl
theorem gm_466 : (Jvm.Cond.instanceMethod ({ cls := "WellCourt$Reader", name := "readNumber", desc := "(II)I" } : Jvm.MethodName)) ∈ gz_T := gz_at 466 (by decide +kernel) rfl
theorem gm_467 : (Jvm.Cond.code ({ cls := "WellCourt$Reader", name := "readNumber", desc := "(II)I" } : Jvm.MethodName) prog_9_method_12_code (5 : Nat) (Option.some Jvm.ClassFile.FieldType.int)) ∈ gz_T := gz_at 467 (by decide +kernel) rfl
theorem gm_473 : (Jvm.Cond.methodLink "WellCourt$Reader" (87 : Nat) ({ cls := "WellCourt$Reader", name := "readSign", desc := "(C)Z" } : Jvm.MethodName)) ∈ gz_T := gz_at 473 (by decide +kernel) rfl
theorem gm_475 : (Jvm.Cond.instanceMethod ({ cls := "WellCourt$Reader", name := "readSign", desc := "(C)Z" } : Jvm.MethodName)) ∈ gz_T := gz_at 475 (by decide +kernel) rfl
theorem gm_476 : (Jvm.Cond.code ({ cls := "WellCourt$Reader", name := "readSign", desc := "(C)Z" } : Jvm.MethodName) prog_9_method_9_code (2 : Nat) (Option.some Jvm.ClassFile.FieldType.boolean)) ∈ gz_T := gz_at 476 (by decide +kernel) rfl
theorem gm_481 : (Jvm.Cond.methodLink "WellCourt$Reader" (91 : Nat) ({ cls := "WellCourt$Reader", name := "readClan", desc := "(I)I" } : Jvm.MethodName)) ∈ gz_T := gz_at 481 (by decide +kernel) rfl
theorem gm_483 : (Jvm.Cond.instanceMethod ({ cls := "WellCourt$Reader", name := "readClan", desc := "(I)I" } : Jvm.MethodName)) ∈ gz_T := gz_at 483 (by decide +kernel) rfl
theorem gm_484 : (Jvm.Cond.code ({ cls := "WellCourt$Reader", name := "readClan", desc := "(I)I" } : Jvm.MethodName) prog_9_method_11_code (3 : Nat) (Option.some Jvm.ClassFile.FieldType.int)) ∈ gz_T := gz_at 484 (by decide +kernel) rfl
theorem gm_497 : (Jvm.Cond.methodLink "WellCourt$Reader" (104 : Nat) ({ cls := "WellCourt$Reader", name := "readWord", desc := "(Ljava/lang/String;)Z" } : Jvm.MethodName)) ∈ gz_T := gz_at 497 (by decide +kernel) rfl
theorem gm_499 : (Jvm.Cond.instanceMethod ({ cls := "WellCourt$Reader", name := "readWord", desc := "(Ljava/lang/String;)Z" } : Jvm.MethodName)) ∈ gz_T := gz_at 499 (by decide +kernel) rfl
theorem gm_500 : (Jvm.Cond.code ({ cls := "WellCourt$Reader", name := "readWord", desc := "(Ljava/lang/String;)Z" } : Jvm.MethodName) prog_9_method_10_code (2 : Nat) (Option.some Jvm.ClassFile.FieldType.boolean)) ∈ gz_T := gz_at 500 (by decide +kernel) rfl
theorem gm_502 : (Jvm.Cond.methodLink "WellCourt$Reader" (109 : Nat) ({ cls := "WellCourt$Law", name := "addGuest", desc := "(IIII)V" } : Jvm.MethodName)) ∈ gz_T := gz_at 502 (by decide +kernel) rfl
theorem gm_503 : (Jvm.Cond.instanceMethod ({ cls := "WellCourt$Law", name := "addGuest", desc := "(IIII)V" } : Jvm.MethodName)) ∈ gz_T := gz_at 503 (by decide +kernel) rfl
theorem gm_504 : (Jvm.Cond.selects "WellCourt$Law" ({ cls := "WellCourt$Law", name := "addGuest", desc := "(IIII)V" } : Jvm.MethodName) ({ cls := "WellCourt$Law", name := "addGuest", desc := "(IIII)V" } : Jvm.MethodName)) ∈ gz_T := gz_at 504 (by decide +kernel) rfl
theorem gm_505 : (Jvm.Cond.code ({ cls := "WellCourt$Law", name := "addGuest", desc := "(IIII)V" } : Jvm.MethodName) prog_6_method_8_code (5 : Nat) (Option.none : Option Jvm.ClassFile.FieldType)) ∈ gz_T := gz_at 505 (by decide +kernel) rfl
theorem gm_510 : (Jvm.Cond.methodLink "WellCourt$Reader" (113 : Nat) ({ cls := "WellCourt$Law", name := "addWed", desc := "(II)V" } : Jvm.MethodName)) ∈ gz_T := gz_at 510 (by decide +kernel) rfl
theorem gm_511 : (Jvm.Cond.instanceMethod ({ cls := "WellCourt$Law", name := "addWed", desc := "(II)V" } : Jvm.MethodName)) ∈ gz_T := gz_at 511 (by decide +kernel) rfl
theorem gm_512 : (Jvm.Cond.selects "WellCourt$Law" ({ cls := "WellCourt$Law", name := "addWed", desc := "(II)V" } : Jvm.MethodName) ({ cls := "WellCourt$Law", name := "addWed", desc := "(II)V" } : Jvm.MethodName)) ∈ gz_T := gz_at 512 (by decide +kernel) rfl
theorem gm_513 : (Jvm.Cond.code ({ cls := "WellCourt$Law", name := "addWed", desc := "(II)V" } : Jvm.MethodName) prog_6_method_5_code (3 : Nat) (Option.none : Option Jvm.ClassFile.FieldType)) ∈ gz_T := gz_at 513 (by decide +kernel) rfl
theorem gm_519 : (Jvm.Cond.methodLink "WellCourt$Reader" (119 : Nat) ({ cls := "WellCourt$Law", name := "addDrought", desc := "(III)V" } : Jvm.MethodName)) ∈ gz_T := gz_at 519 (by decide +kernel) rfl
theorem gm_520 : (Jvm.Cond.instanceMethod ({ cls := "WellCourt$Law", name := "addDrought", desc := "(III)V" } : Jvm.MethodName)) ∈ gz_T := gz_at 520 (by decide +kernel) rfl
theorem gm_521 : (Jvm.Cond.selects "WellCourt$Law" ({ cls := "WellCourt$Law", name := "addDrought", desc := "(III)V" } : Jvm.MethodName) ({ cls := "WellCourt$Law", name := "addDrought", desc := "(III)V" } : Jvm.MethodName)) ∈ gz_T := gz_at 521 (by decide +kernel) rfl
theorem gm_522 : (Jvm.Cond.code ({ cls := "WellCourt$Law", name := "addDrought", desc := "(III)V" } : Jvm.MethodName) prog_6_method_7_code (4 : Nat) (Option.none : Option Jvm.ClassFile.FieldType)) ∈ gz_T := gz_at 522 (by decide +kernel) rfl
theorem gm_528 : (Jvm.Cond.methodLink "WellCourt$Reader" (124 : Nat) ({ cls := "WellCourt$Law", name := "addDry", desc := "(II)V" } : Jvm.MethodName)) ∈ gz_T := gz_at 528 (by decide +kernel) rfl
theorem gm_529 : (Jvm.Cond.instanceMethod ({ cls := "WellCourt$Law", name := "addDry", desc := "(II)V" } : Jvm.MethodName)) ∈ gz_T := gz_at 529 (by decide +kernel) rfl
theorem gm_530 : (Jvm.Cond.selects "WellCourt$Law" ({ cls := "WellCourt$Law", name := "addDry", desc := "(II)V" } : Jvm.MethodName) ({ cls := "WellCourt$Law", name := "addDry", desc := "(II)V" } : Jvm.MethodName)) ∈ gz_T := gz_at 530 (by decide +kernel) rfl
theorem gm_531 : (Jvm.Cond.code ({ cls := "WellCourt$Law", name := "addDry", desc := "(II)V" } : Jvm.MethodName) prog_6_method_6_code (3 : Nat) (Option.none : Option Jvm.ClassFile.FieldType)) ∈ gz_T := gz_at 531 (by decide +kernel) rfl
theorem gs_7 : (Jvm.Cond.selects "WellCourt$Reader" ({ cls := "WellCourt$Reader", name := "readNumber", desc := "(II)I" } : Jvm.MethodName) ({ cls := "WellCourt$Reader", name := "readNumber", desc := "(II)I" } : Jvm.MethodName)) ∈ gz_T := gz_sel 7 (by decide +kernel) rfl
theorem gs_8 : (Jvm.Cond.selects "WellCourt$Reader" ({ cls := "WellCourt$Reader", name := "readSign", desc := "(C)Z" } : Jvm.MethodName) ({ cls := "WellCourt$Reader", name := "readSign", desc := "(C)Z" } : Jvm.MethodName)) ∈ gz_T := gz_sel 8 (by decide +kernel) rfl
theorem gs_10 : (Jvm.Cond.selects "WellCourt$Reader" ({ cls := "WellCourt$Reader", name := "readClan", desc := "(I)I" } : Jvm.MethodName) ({ cls := "WellCourt$Reader", name := "readClan", desc := "(I)I" } : Jvm.MethodName)) ∈ gz_T := gz_sel 10 (by decide +kernel) rfl
theorem gs_12 : (Jvm.Cond.selects "WellCourt$Reader" ({ cls := "WellCourt$Reader", name := "readWord", desc := "(Ljava/lang/String;)Z" } : Jvm.MethodName) ({ cls := "WellCourt$Reader", name := "readWord", desc := "(Ljava/lang/String;)Z" } : Jvm.MethodName)) ∈ gz_T := gz_sel 12 (by decide +kernel) rfl
theorem dX7_readDrought_0 : decode cX7_readDrought 0 = .ok (.aload_n 0, 1) := by decide +kernel
theorem dX7_readDrought_1 : decode cX7_readDrought 1 = .ok (.iconst 0, 1) := by decide +kernel
theorem dX7_readDrought_2 : decode cX7_readDrought 2 = .ok (.iconst 5, 1) := by decide +kernel
theorem dX7_readDrought_3 : decode cX7_readDrought 3 = .ok (.invokevirtual 80, 3) := by decide +kernel
theorem dX7_readDrought_6 : decode cX7_readDrought 6 = .ok (.istore_n 2, 1) := by decide +kernel
theorem dX7_readDrought_7 : decode cX7_readDrought 7 = .ok (.iload_n 2, 1) := by decide +kernel
theorem dX7_readDrought_8 : decode cX7_readDrought 8 = .ok (.iconst (-1), 1) := by decide +kernel
theorem dX7_readDrought_9 : decode cX7_readDrought 9 = .ok (.if_icmp .eq 12, 3) := by decide +kernel
theorem dX7_readDrought_12 : decode cX7_readDrought 12 = .ok (.aload_n 0, 1) := by decide +kernel
theorem dX7_readDrought_13 : decode cX7_readDrought 13 = .ok (.ldc 117, 2) := by decide +kernel
theorem dX7_readDrought_15 : decode cX7_readDrought 15 = .ok (.invokevirtual 104, 3) := by decide +kernel
theorem dX7_readDrought_18 : decode cX7_readDrought 18 = .ok (.ifCond .ne 5, 3) := by decide +kernel
theorem dX7_readDrought_21 : decode cX7_readDrought 21 = .ok (.iconst 0, 1) := by decide +kernel
theorem dX7_readDrought_22 : decode cX7_readDrought 22 = .ok (.ireturn, 1) := by decide +kernel
theorem dX7_readDrought_23 : decode cX7_readDrought 23 = .ok (.aload_n 0, 1) := by decide +kernel
theorem dX7_readDrought_24 : decode cX7_readDrought 24 = .ok (.iconst 0, 1) := by decide +kernel
theorem dX7_readDrought_25 : decode cX7_readDrought 25 = .ok (.sipush 1000, 3) := by decide +kernel
theorem dX7_readDrought_28 : decode cX7_readDrought 28 = .ok (.invokevirtual 80, 3) := by decide +kernel
theorem dX7_readDrought_31 : decode cX7_readDrought 31 = .ok (.istore_n 3, 1) := by decide +kernel
theorem dX7_readDrought_32 : decode cX7_readDrought 32 = .ok (.iload_n 3, 1) := by decide +kernel
theorem dX7_readDrought_33 : decode cX7_readDrought 33 = .ok (.iconst (-1), 1) := by decide +kernel
theorem dX7_readDrought_34 : decode cX7_readDrought 34 = .ok (.if_icmp .ne 5, 3) := by decide +kernel
theorem dX7_readDrought_37 : decode cX7_readDrought 37 = .ok (.iconst 0, 1) := by decide +kernel
theorem dX7_readDrought_38 : decode cX7_readDrought 38 = .ok (.ireturn, 1) := by decide +kernel
theorem dX7_readDrought_39 : decode cX7_readDrought 39 = .ok (.aload_n 0, 1) := by decide +kernel
theorem dX7_readDrought_40 : decode cX7_readDrought 40 = .ok (.iconst (-1), 1) := by decide +kernel
theorem dX7_readDrought_41 : decode cX7_readDrought 41 = .ok (.invokevirtual 91, 3) := by decide +kernel
theorem dX7_readDrought_44 : decode cX7_readDrought 44 = .ok (.istore 4, 2) := by decide +kernel
theorem dX7_readDrought_46 : decode cX7_readDrought 46 = .ok (.iload 4, 2) := by decide +kernel
theorem dX7_readDrought_48 : decode cX7_readDrought 48 = .ok (.iconst (-1), 1) := by decide +kernel
theorem dX7_readDrought_49 : decode cX7_readDrought 49 = .ok (.if_icmp .eq 12, 3) := by decide +kernel
theorem dX7_readDrought_52 : decode cX7_readDrought 52 = .ok (.aload_n 0, 1) := by decide +kernel
theorem dX7_readDrought_53 : decode cX7_readDrought 53 = .ok (.bipush 59, 2) := by decide +kernel
theorem dX7_readDrought_55 : decode cX7_readDrought 55 = .ok (.invokevirtual 87, 3) := by decide +kernel
theorem dX7_readDrought_58 : decode cX7_readDrought 58 = .ok (.ifCond .ne 5, 3) := by decide +kernel
theorem dX7_readDrought_61 : decode cX7_readDrought 61 = .ok (.iconst 0, 1) := by decide +kernel
theorem dX7_readDrought_62 : decode cX7_readDrought 62 = .ok (.ireturn, 1) := by decide +kernel
theorem dX7_readDrought_63 : decode cX7_readDrought 63 = .ok (.aload_n 1, 1) := by decide +kernel
theorem dX7_readDrought_64 : decode cX7_readDrought 64 = .ok (.iload_n 2, 1) := by decide +kernel
theorem dX7_readDrought_65 : decode cX7_readDrought 65 = .ok (.iload_n 3, 1) := by decide +kernel
theorem dX7_readDrought_66 : decode cX7_readDrought 66 = .ok (.iload 4, 2) := by decide +kernel
theorem dX7_readDrought_68 : decode cX7_readDrought 68 = .ok (.invokevirtual 119, 3) := by decide +kernel
theorem dX7_readDrought_71 : decode cX7_readDrought 71 = .ok (.iconst 1, 1) := by decide +kernel
theorem dX7_readDrought_72 : decode cX7_readDrought 72 = .ok (.ireturn, 1) := by decide +kernel
theorem dX7_readDry_0 : decode cX7_readDry 0 = .ok (.aload_n 0, 1) := by decide +kernel
theorem dX7_readDry_1 : decode cX7_readDry 1 = .ok (.iconst 0, 1) := by decide +kernel
theorem dX7_readDry_2 : decode cX7_readDry 2 = .ok (.iconst 5, 1) := by decide +kernel
theorem dX7_readDry_3 : decode cX7_readDry 3 = .ok (.invokevirtual 80, 3) := by decide +kernel
theorem dX7_readDry_6 : decode cX7_readDry 6 = .ok (.istore_n 2, 1) := by decide +kernel
theorem dX7_readDry_7 : decode cX7_readDry 7 = .ok (.iload_n 2, 1) := by decide +kernel
theorem dX7_readDry_8 : decode cX7_readDry 8 = .ok (.iconst (-1), 1) := by decide +kernel
theorem dX7_readDry_9 : decode cX7_readDry 9 = .ok (.if_icmp .eq 12, 3) := by decide +kernel
theorem dX7_readDry_12 : decode cX7_readDry 12 = .ok (.aload_n 0, 1) := by decide +kernel
theorem dX7_readDry_13 : decode cX7_readDry 13 = .ok (.ldc 122, 2) := by decide +kernel
theorem dX7_readDry_15 : decode cX7_readDry 15 = .ok (.invokevirtual 104, 3) := by decide +kernel
theorem dX7_readDry_18 : decode cX7_readDry 18 = .ok (.ifCond .ne 5, 3) := by decide +kernel
theorem dX7_readDry_21 : decode cX7_readDry 21 = .ok (.iconst 0, 1) := by decide +kernel
theorem dX7_readDry_22 : decode cX7_readDry 22 = .ok (.ireturn, 1) := by decide +kernel
theorem dX7_readDry_23 : decode cX7_readDry 23 = .ok (.aload_n 0, 1) := by decide +kernel
theorem dX7_readDry_24 : decode cX7_readDry 24 = .ok (.iconst 0, 1) := by decide +kernel
theorem dX7_readDry_25 : decode cX7_readDry 25 = .ok (.iconst 5, 1) := by decide +kernel
theorem dX7_readDry_26 : decode cX7_readDry 26 = .ok (.invokevirtual 80, 3) := by decide +kernel
theorem dX7_readDry_29 : decode cX7_readDry 29 = .ok (.istore_n 3, 1) := by decide +kernel
theorem dX7_readDry_30 : decode cX7_readDry 30 = .ok (.iload_n 3, 1) := by decide +kernel
theorem dX7_readDry_31 : decode cX7_readDry 31 = .ok (.iconst (-1), 1) := by decide +kernel
theorem dX7_readDry_32 : decode cX7_readDry 32 = .ok (.if_icmp .ne 5, 3) := by decide +kernel
theorem dX7_readDry_35 : decode cX7_readDry 35 = .ok (.iconst 0, 1) := by decide +kernel
theorem dX7_readDry_36 : decode cX7_readDry 36 = .ok (.ireturn, 1) := by decide +kernel
theorem dX7_readDry_37 : decode cX7_readDry 37 = .ok (.iload_n 3, 1) := by decide +kernel
theorem dX7_readDry_38 : decode cX7_readDry 38 = .ok (.iload_n 2, 1) := by decide +kernel
theorem dX7_readDry_39 : decode cX7_readDry 39 = .ok (.if_icmp .ne 9, 3) := by decide +kernel
theorem dX7_readDry_42 : decode cX7_readDry 42 = .ok (.aload_n 0, 1) := by decide +kernel
theorem dX7_readDry_43 : decode cX7_readDry 43 = .ok (.iconst 3, 1) := by decide +kernel
theorem dX7_readDry_44 : decode cX7_readDry 44 = .ok (.invokevirtual 46, 3) := by decide +kernel
theorem dX7_readDry_47 : decode cX7_readDry 47 = .ok (.ireturn, 1) := by decide +kernel
theorem dX7_readDry_48 : decode cX7_readDry 48 = .ok (.aload_n 0, 1) := by decide +kernel
theorem dX7_readDry_49 : decode cX7_readDry 49 = .ok (.bipush 59, 2) := by decide +kernel
theorem dX7_readDry_51 : decode cX7_readDry 51 = .ok (.invokevirtual 87, 3) := by decide +kernel
theorem dX7_readDry_54 : decode cX7_readDry 54 = .ok (.ifCond .ne 5, 3) := by decide +kernel
theorem dX7_readDry_57 : decode cX7_readDry 57 = .ok (.iconst 0, 1) := by decide +kernel
theorem dX7_readDry_58 : decode cX7_readDry 58 = .ok (.ireturn, 1) := by decide +kernel
theorem dX7_readDry_59 : decode cX7_readDry 59 = .ok (.aload_n 1, 1) := by decide +kernel
theorem dX7_readDry_60 : decode cX7_readDry 60 = .ok (.iload_n 2, 1) := by decide +kernel
theorem dX7_readDry_61 : decode cX7_readDry 61 = .ok (.iload_n 3, 1) := by decide +kernel
theorem dX7_readDry_62 : decode cX7_readDry 62 = .ok (.invokevirtual 124, 3) := by decide +kernel
theorem dX7_readDry_65 : decode cX7_readDry 65 = .ok (.iconst 1, 1) := by decide +kernel
theorem dX7_readDry_66 : decode cX7_readDry 66 = .ok (.ireturn, 1) := by decide +kernel
theorem dX7_readGuest_0 : decode cX7_readGuest 0 = .ok (.aload_n 0, 1) := by decide +kernel
theorem dX7_readGuest_1 : decode cX7_readGuest 1 = .ok (.iconst (-1), 1) := by decide +kernel
theorem dX7_readGuest_2 : decode cX7_readGuest 2 = .ok (.invokevirtual 91, 3) := by decide +kernel
theorem dX7_readGuest_5 : decode cX7_readGuest 5 = .ok (.istore_n 2, 1) := by decide +kernel
theorem dX7_readGuest_6 : decode cX7_readGuest 6 = .ok (.iload_n 2, 1) := by decide +kernel
theorem dX7_readGuest_7 : decode cX7_readGuest 7 = .ok (.iconst (-1), 1) := by decide +kernel
theorem dX7_readGuest_8 : decode cX7_readGuest 8 = .ok (.if_icmp .eq 12, 3) := by decide +kernel
theorem dX7_readGuest_11 : decode cX7_readGuest 11 = .ok (.aload_n 0, 1) := by decide +kernel
theorem dX7_readGuest_12 : decode cX7_readGuest 12 = .ok (.ldc 102, 2) := by decide +kernel
theorem dX7_readGuest_14 : decode cX7_readGuest 14 = .ok (.invokevirtual 104, 3) := by decide +kernel
theorem dX7_readGuest_17 : decode cX7_readGuest 17 = .ok (.ifCond .ne 5, 3) := by decide +kernel
theorem dX7_readGuest_20 : decode cX7_readGuest 20 = .ok (.iconst 0, 1) := by decide +kernel
theorem dX7_readGuest_21 : decode cX7_readGuest 21 = .ok (.ireturn, 1) := by decide +kernel
theorem dX7_readGuest_22 : decode cX7_readGuest 22 = .ok (.aload_n 0, 1) := by decide +kernel
theorem dX7_readGuest_23 : decode cX7_readGuest 23 = .ok (.iconst 0, 1) := by decide +kernel
theorem dX7_readGuest_24 : decode cX7_readGuest 24 = .ok (.iconst 5, 1) := by decide +kernel
theorem dX7_readGuest_25 : decode cX7_readGuest 25 = .ok (.invokevirtual 80, 3) := by decide +kernel
theorem dX7_readGuest_28 : decode cX7_readGuest 28 = .ok (.istore_n 3, 1) := by decide +kernel
theorem dX7_readGuest_29 : decode cX7_readGuest 29 = .ok (.iload_n 3, 1) := by decide +kernel
theorem dX7_readGuest_30 : decode cX7_readGuest 30 = .ok (.iconst (-1), 1) := by decide +kernel
theorem dX7_readGuest_31 : decode cX7_readGuest 31 = .ok (.if_icmp .eq 12, 3) := by decide +kernel
theorem dX7_readGuest_34 : decode cX7_readGuest 34 = .ok (.aload_n 0, 1) := by decide +kernel
theorem dX7_readGuest_35 : decode cX7_readGuest 35 = .ok (.ldc 107, 2) := by decide +kernel
theorem dX7_readGuest_37 : decode cX7_readGuest 37 = .ok (.invokevirtual 104, 3) := by decide +kernel
theorem dX7_readGuest_40 : decode cX7_readGuest 40 = .ok (.ifCond .ne 5, 3) := by decide +kernel
theorem dX7_readGuest_43 : decode cX7_readGuest 43 = .ok (.iconst 0, 1) := by decide +kernel
theorem dX7_readGuest_44 : decode cX7_readGuest 44 = .ok (.ireturn, 1) := by decide +kernel
theorem dX7_readGuest_45 : decode cX7_readGuest 45 = .ok (.aload_n 0, 1) := by decide +kernel
theorem dX7_readGuest_46 : decode cX7_readGuest 46 = .ok (.iload_n 2, 1) := by decide +kernel
theorem dX7_readGuest_47 : decode cX7_readGuest 47 = .ok (.invokevirtual 91, 3) := by decide +kernel
theorem dX7_readGuest_50 : decode cX7_readGuest 50 = .ok (.istore 4, 2) := by decide +kernel
theorem dX7_readGuest_52 : decode cX7_readGuest 52 = .ok (.iload 4, 2) := by decide +kernel
theorem dX7_readGuest_54 : decode cX7_readGuest 54 = .ok (.iconst (-1), 1) := by decide +kernel
theorem dX7_readGuest_55 : decode cX7_readGuest 55 = .ok (.if_icmp .ne 5, 3) := by decide +kernel
theorem dX7_readGuest_58 : decode cX7_readGuest 58 = .ok (.iconst 0, 1) := by decide +kernel
theorem dX7_readGuest_59 : decode cX7_readGuest 59 = .ok (.ireturn, 1) := by decide +kernel
theorem dX7_readGuest_60 : decode cX7_readGuest 60 = .ok (.aload_n 0, 1) := by decide +kernel
theorem dX7_readGuest_61 : decode cX7_readGuest 61 = .ok (.iconst 0, 1) := by decide +kernel
theorem dX7_readGuest_62 : decode cX7_readGuest 62 = .ok (.sipush 1000, 3) := by decide +kernel
theorem dX7_readGuest_65 : decode cX7_readGuest 65 = .ok (.invokevirtual 80, 3) := by decide +kernel
theorem dX7_readGuest_68 : decode cX7_readGuest 68 = .ok (.istore 5, 2) := by decide +kernel
theorem dX7_readGuest_70 : decode cX7_readGuest 70 = .ok (.iload 5, 2) := by decide +kernel
theorem dX7_readGuest_72 : decode cX7_readGuest 72 = .ok (.iconst (-1), 1) := by decide +kernel
theorem dX7_readGuest_73 : decode cX7_readGuest 73 = .ok (.if_icmp .eq 12, 3) := by decide +kernel
theorem dX7_readGuest_76 : decode cX7_readGuest 76 = .ok (.aload_n 0, 1) := by decide +kernel
theorem dX7_readGuest_77 : decode cX7_readGuest 77 = .ok (.bipush 59, 2) := by decide +kernel
theorem dX7_readGuest_79 : decode cX7_readGuest 79 = .ok (.invokevirtual 87, 3) := by decide +kernel
theorem dX7_readGuest_82 : decode cX7_readGuest 82 = .ok (.ifCond .ne 5, 3) := by decide +kernel
theorem dX7_readGuest_85 : decode cX7_readGuest 85 = .ok (.iconst 0, 1) := by decide +kernel
theorem dX7_readGuest_86 : decode cX7_readGuest 86 = .ok (.ireturn, 1) := by decide +kernel
theorem dX7_readGuest_87 : decode cX7_readGuest 87 = .ok (.aload_n 1, 1) := by decide +kernel
theorem dX7_readGuest_88 : decode cX7_readGuest 88 = .ok (.iload_n 2, 1) := by decide +kernel
theorem dX7_readGuest_89 : decode cX7_readGuest 89 = .ok (.iload_n 3, 1) := by decide +kernel
theorem dX7_readGuest_90 : decode cX7_readGuest 90 = .ok (.iload 4, 2) := by decide +kernel
theorem dX7_readGuest_92 : decode cX7_readGuest 92 = .ok (.iload 5, 2) := by decide +kernel
theorem dX7_readGuest_94 : decode cX7_readGuest 94 = .ok (.invokevirtual 109, 3) := by decide +kernel
theorem dX7_readGuest_97 : decode cX7_readGuest 97 = .ok (.iconst 1, 1) := by decide +kernel
theorem dX7_readGuest_98 : decode cX7_readGuest 98 = .ok (.ireturn, 1) := by decide +kernel
theorem dX7_readWed_0 : decode cX7_readWed 0 = .ok (.aload_n 0, 1) := by decide +kernel
theorem dX7_readWed_1 : decode cX7_readWed 1 = .ok (.iconst (-1), 1) := by decide +kernel
theorem dX7_readWed_2 : decode cX7_readWed 2 = .ok (.invokevirtual 91, 3) := by decide +kernel
theorem dX7_readWed_5 : decode cX7_readWed 5 = .ok (.istore_n 2, 1) := by decide +kernel
theorem dX7_readWed_6 : decode cX7_readWed 6 = .ok (.iload_n 2, 1) := by decide +kernel
theorem dX7_readWed_7 : decode cX7_readWed 7 = .ok (.iconst (-1), 1) := by decide +kernel
theorem dX7_readWed_8 : decode cX7_readWed 8 = .ok (.if_icmp .ne 5, 3) := by decide +kernel
theorem dX7_readWed_11 : decode cX7_readWed 11 = .ok (.iconst 0, 1) := by decide +kernel
theorem dX7_readWed_12 : decode cX7_readWed 12 = .ok (.ireturn, 1) := by decide +kernel
theorem dX7_readWed_13 : decode cX7_readWed 13 = .ok (.aload_n 0, 1) := by decide +kernel
theorem dX7_readWed_14 : decode cX7_readWed 14 = .ok (.iload_n 2, 1) := by decide +kernel
theorem dX7_readWed_15 : decode cX7_readWed 15 = .ok (.invokevirtual 91, 3) := by decide +kernel
theorem dX7_readWed_18 : decode cX7_readWed 18 = .ok (.istore_n 3, 1) := by decide +kernel
theorem dX7_readWed_19 : decode cX7_readWed 19 = .ok (.iload_n 3, 1) := by decide +kernel
theorem dX7_readWed_20 : decode cX7_readWed 20 = .ok (.iconst (-1), 1) := by decide +kernel
theorem dX7_readWed_21 : decode cX7_readWed 21 = .ok (.if_icmp .eq 12, 3) := by decide +kernel
theorem dX7_readWed_24 : decode cX7_readWed 24 = .ok (.aload_n 0, 1) := by decide +kernel
theorem dX7_readWed_25 : decode cX7_readWed 25 = .ok (.bipush 59, 2) := by decide +kernel
theorem dX7_readWed_27 : decode cX7_readWed 27 = .ok (.invokevirtual 87, 3) := by decide +kernel
theorem dX7_readWed_30 : decode cX7_readWed 30 = .ok (.ifCond .ne 5, 3) := by decide +kernel
theorem dX7_readWed_33 : decode cX7_readWed 33 = .ok (.iconst 0, 1) := by decide +kernel
theorem dX7_readWed_34 : decode cX7_readWed 34 = .ok (.ireturn, 1) := by decide +kernel
theorem dX7_readWed_35 : decode cX7_readWed 35 = .ok (.aload_n 1, 1) := by decide +kernel
theorem dX7_readWed_36 : decode cX7_readWed 36 = .ok (.iload_n 2, 1) := by decide +kernel
theorem dX7_readWed_37 : decode cX7_readWed 37 = .ok (.iload_n 3, 1) := by decide +kernel
theorem dX7_readWed_38 : decode cX7_readWed 38 = .ok (.invokevirtual 113, 3) := by decide +kernel
theorem dX7_readWed_41 : decode cX7_readWed 41 = .ok (.iconst 1, 1) := by decide +kernel
theorem dX7_readWed_42 : decode cX7_readWed 42 = .ok (.ireturn, 1) := by decide +kernel
set_option maxHeartbeats 4000000 in
set_option maxRecDepth 100000 in
/-- WellCourt$Reader.readGuest -/
theorem s_X7_readGuest (l : Launch) (G : va_G) (cy : Nat → ClassId) (sK sV : Nat → Nat) (ad : Nat → Nat → Nat) (sz : Nat) (st : gS) (hB : gBd bX st) (z : Int32) (hz_z : (0 : Int) ≤ z.toInt ∧ z.toInt ≤ (1 : Int)) (F : Nat → Int32) (N : Int) (hF : st 2 0 = F) (hN : (st 1 0 1).toInt = N) (hst : (st 3 0 3).toInt ≤ 800) (rs : List Rl) (hL : LXg rs st z.toNatClampNeg) (hct : (st 25 z.toNatClampNeg 9).toInt < 20) : gsMi l yX7_readGuest cX7_readGuest 6 (some .boolean) ({ frames := 6, cells := 0, slots := 0, locals := 128 } : Room) G cy sK sV (shX cy ad) cnX ad sz [.ref (ad 3 0), .ref (ad 25 z.toNatClampNeg)] st (fun (r : Int32) (u : gS) => gBN bX kX [301, 302, 303, 304, 305, 2509, 3400, 3500, 3600, 3700] st u ∧ ((r = 1 ∧ (∃ r9 : Rl, pGuest F N (cLex F N) (st 3 0 3).toInt = some (r9, (u 3 0 3).toInt) ∧ r9.1 = 1 ∧ wfR r9 ∧ LXg (rs ++ [r9]) u z.toNatClampNeg) ∧ ((u 3 0 3).toInt ≤ 800) ∧ (lO z.toNatClampNeg st u)) ∨ (r = 0 ∧ (pGuest F N (cLex F N) (st 3 0 3).toInt = none) ∧ (lO z.toNatClampNeg st u)))) := by
  refine gs_start (fun A => gsQi G (shX cy ad) cnX ad _ A) (by decide) (Nat.le_of_ble_eq_true rfl) ?_
  intro p e s m below meth c A ls H hx hb hr hml hlocks hown hts hK hov hE hI hM hm hS hA hl
  have hl : lv_has ls 6 [(0, .ref (ad 3 0)), (1, .ref (ad 25 z.toNatClampNeg))] := hl
  have hB_st : gBN bX kX [301, 302, 303, 304, 305, 2509, 3400, 3500, 3600, 3700] st st := gBN.rf hB
  refine lv_aload_n hx hb dX7_readGuest_0 rfl (lv_at hl 0 rfl) ?_
  refine lv_iconst (v := (-1)) hx hb dX7_readGuest_1 (by decide) ?_
  refine gs_calli (va_runV (As := [.int (-1)]) (rest := []) ⟨hx, hb, hml, hown, hts⟩ (s_X7_readClan l G cy sK sV ad H.size st hB_st.1 ((-1) : Int32) (-1) (by decide) F N hF hN (by have hb0 : (0 : Int) ≤ (st 3 0 3).toInt ∧ (st 3 0 3).toInt ≤ (801 : Int) := hB_st.1 3 0 3; omega)) ⟨(gz_cb (n := 1) hts gm_481 gm_3 gm_484 ⟨by decide +kernel, by decide +kernel, by decide +kernel⟩ ⟨Nat.le_of_ble_eq_true rfl, Nat.le_of_ble_eq_true rfl⟩), hts _ gm_483, hts _ gs_10⟩ (gs_preV hK hov hE hI hM hm hS hA 3 0 (by decide) rfl rfl) rfl rfl hl.1 rfl (lv_room (Nat.le_of_ble_eq_true rfl)) dX7_readGuest_2 ⟨Nat.le_of_ble_eq_true rfl, Nat.le_of_ble_eq_true rfl⟩) hm hS hA (fun r_1 st_1 H locs hw_1 hM hS => ?_)
  obtain ⟨n_1, hw_1⟩ := hw_1
  have hB_st_1 : gBN bX kX [301, 302, 303, 304, 305, 2509, 3400, 3500, 3600, 3700] st st_1 := hB_st.call n_1 (by decide)
  have hbhw_10 : (0 : Int) ≤ (st 3 0 3).toInt ∧ (st 3 0 3).toInt ≤ (801 : Int) := hB_st.1 3 0 3
  have hw_1_0 := hw_1
  refine lv_istore_n (lv' := [(2, .int r_1), (0, .ref (ad 3 0)), (1, .ref (ad 25 z.toNatClampNeg))]) hx hb dX7_readGuest_5 rfl hl (by decide) rfl (fun ls hl => ?_)
  refine lv_iload_n hx hb dX7_readGuest_6 rfl (lv_at hl 0 rfl) ?_
  refine lv_iconst (v := (-1)) hx hb dX7_readGuest_7 (by decide) ?_
  refine lv_icmp_eq (tgt := 20) hx hb dX7_readGuest_8 (by decide) (fun c_2 => ?_) (fun c_2 => ?_)
  · have ic_2 := gz_eq (rfl : r_1.toInt = r_1.toInt) (by decide : ((-1) : Int32).toInt = -1) c_2
    refine lv_iconst (v := 0) hx hb dX7_readGuest_20 (by decide) ?_
    exact gs_iret hx hb hr hlocks hM hS (by decide) ⟨hB_st_1, (Or.inr ⟨rfl, (by unfold pGuest; exact ((hw_1_0.resolve_left (fun h9 => absurd h9.2.1 (by omega))).2.elim (fun h9 => obN h9) (fun ⟨q9, h9⟩ => absurd (show (0 : Int) ≤ -1 from (gClan_ok h9).2.2.1) (by decide)))), (lO.trans lO.rf (lO.frame n_1.2 (by decide)))⟩)⟩ (by exact Nat.le_refl _) (by exact Nat.le_refl _) dX7_readGuest_21
  · have ic_2 := gz_ne (rfl : r_1.toInt = r_1.toInt) (by decide : ((-1) : Int32).toInt = -1) c_2
    refine lv_aload_n hx hb dX7_readGuest_11 rfl (lv_at hl 1 rfl) ?_
    refine va_ldcS (q := sK 5) hx hb hown (hE.2.2.1 5 (by decide)) dX7_readGuest_12 ?_
    refine gs_calli (va_runV (As := [.ref (sK 5)]) (rest := []) ⟨hx, hb, hml, hown, hts⟩ (s_X7_readWord l G cy sK sV ad H.size st_1 hB_st_1.1 5 (by decide) F N (((funext (fun j9 => n_1.2 2 0 j9 (show (200 : Nat) ∉ _ from by decide))).trans rfl).trans hF) ((congrArg Int32.toInt ((n_1.2 1 0 1 (show (101 : Nat) ∉ _ from by decide)))).trans hN) (by have hb0 : (0 : Int) ≤ (st_1 3 0 3).toInt ∧ (st_1 3 0 3).toInt ≤ (801 : Int) := hB_st_1.1 3 0 3; omega)) ⟨(gz_cb (n := 1) hts gm_497 gm_3 gm_500 ⟨by decide +kernel, by decide +kernel, by decide +kernel⟩ ⟨Nat.le_of_ble_eq_true rfl, Nat.le_of_ble_eq_true rfl⟩), hts _ gm_499, hts _ gs_12⟩ (gs_preV hK hov hE hI hM hm hS hA 3 0 (by decide) rfl rfl) rfl rfl hl.1 rfl (lv_room (Nat.le_of_ble_eq_true rfl)) dX7_readGuest_14 ⟨Nat.le_of_ble_eq_true rfl, Nat.le_of_ble_eq_true rfl⟩) hm hS hA (fun r_3 st_3 H locs hw_3 hM hS => ?_)
    obtain ⟨n_3, hw_3⟩ := hw_3
    have hB_st_3 : gBN bX kX [301, 302, 303, 304, 305, 2509, 3400, 3500, 3600, 3700] st st_3 := hB_st_1.call n_3 (by decide)
    have hbhw_30 : (0 : Int) ≤ (st_1 3 0 3).toInt ∧ (st_1 3 0 3).toInt ≤ (801 : Int) := hB_st_1.1 3 0 3
    rcases hw_3 with ⟨rfl, hw_3_0, hw_3_1⟩ | ⟨rfl, hw_3_0⟩
    · skip
      refine lv_if_ne (tgt := 22) hx hb dX7_readGuest_17 (by decide) (fun _ => ?_) (fun h9 => absurd h9 (by decide))
      refine lv_aload_n hx hb dX7_readGuest_22 rfl (lv_at hl 1 rfl) ?_
      refine lv_iconst (v := 0) hx hb dX7_readGuest_23 (by decide) ?_
      refine lv_iconst (v := 5) hx hb dX7_readGuest_24 (by decide) ?_
      refine gs_calli (va_runV (As := [.int 0, .int 5]) (rest := []) ⟨hx, hb, hml, hown, hts⟩ (s_X7_readNumber l G cy sK sV ad H.size st_3 hB_st_3.1 (0 : Int32) (5 : Int32) 0 5 (by decide) (by decide) F N (((funext (fun j9 => n_3.2 2 0 j9 (show (200 : Nat) ∉ _ from by decide))).trans ((funext (fun j9 => n_1.2 2 0 j9 (show (200 : Nat) ∉ _ from by decide))).trans rfl)).trans hF) ((congrArg Int32.toInt (((n_3.2 1 0 1 (show (101 : Nat) ∉ _ from by decide)).trans (n_1.2 1 0 1 (show (101 : Nat) ∉ _ from by decide))))).trans hN) (by have hb0 : (0 : Int) ≤ (st_3 3 0 3).toInt ∧ (st_3 3 0 3).toInt ≤ (801 : Int) := hB_st_3.1 3 0 3; omega)) ⟨(gz_cb (n := 2) hts gm_464 gm_3 gm_467 ⟨by decide +kernel, by decide +kernel, by decide +kernel⟩ ⟨Nat.le_of_ble_eq_true rfl, Nat.le_of_ble_eq_true rfl⟩), hts _ gm_466, hts _ gs_7⟩ (gs_preV hK hov hE hI hM hm hS hA 3 0 (by decide) rfl rfl) rfl rfl hl.1 rfl (lv_room (Nat.le_of_ble_eq_true rfl)) dX7_readGuest_25 ⟨Nat.le_of_ble_eq_true rfl, Nat.le_of_ble_eq_true rfl⟩) hm hS hA (fun r_4 st_4 H locs hw_4 hM hS => ?_)
      obtain ⟨n_4, hw_4⟩ := hw_4
      have hB_st_4 : gBN bX kX [301, 302, 303, 304, 305, 2509, 3400, 3500, 3600, 3700] st st_4 := hB_st_3.call n_4 (by decide)
      have hbhw_40 : (0 : Int) ≤ (st_3 3 0 3).toInt ∧ (st_3 3 0 3).toInt ≤ (801 : Int) := hB_st_3.1 3 0 3
      have hw_4_0 := hw_4
      refine lv_istore_n (lv' := [(3, .int r_4), (2, .int r_1), (0, .ref (ad 3 0)), (1, .ref (ad 25 z.toNatClampNeg))]) hx hb dX7_readGuest_28 rfl hl (by decide) rfl (fun ls hl => ?_)
      refine lv_iload_n hx hb dX7_readGuest_29 rfl (lv_at hl 0 rfl) ?_
      refine lv_iconst (v := (-1)) hx hb dX7_readGuest_30 (by decide) ?_
      refine lv_icmp_eq (tgt := 43) hx hb dX7_readGuest_31 (by decide) (fun c_5 => ?_) (fun c_5 => ?_)
      · have ic_5 := gz_eq (rfl : r_4.toInt = r_4.toInt) (by decide : ((-1) : Int32).toInt = -1) c_5
        refine lv_iconst (v := 0) hx hb dX7_readGuest_43 (by decide) ?_
        exact gs_iret hx hb hr hlocks hM hS (by decide) ⟨hB_st_4, (Or.inr ⟨rfl, (by unfold pGuest; exact (obM (hw_1_0.resolve_right (fun h9 => absurd h9.1 (by omega))).1 (obM (by rw [← wI_e5]; exact hw_3_0) (obN (hw_4_0.resolve_left (fun h9 => absurd h9.2.1 (by omega))).2)))), (lO.trans (lO.trans (lO.trans lO.rf (lO.frame n_1.2 (by decide))) (lO.frame n_3.2 (by decide))) (lO.frame n_4.2 (by decide)))⟩)⟩ (by exact Nat.le_refl _) (by exact Nat.le_refl _) dX7_readGuest_44
      · have ic_5 := gz_ne (rfl : r_4.toInt = r_4.toInt) (by decide : ((-1) : Int32).toInt = -1) c_5
        refine lv_aload_n hx hb dX7_readGuest_34 rfl (lv_at hl 2 rfl) ?_
        refine va_ldcS (q := sK 6) hx hb hown (hE.2.2.1 6 (by decide)) dX7_readGuest_35 ?_
        refine gs_calli (va_runV (As := [.ref (sK 6)]) (rest := []) ⟨hx, hb, hml, hown, hts⟩ (s_X7_readWord l G cy sK sV ad H.size st_4 hB_st_4.1 6 (by decide) F N (((funext (fun j9 => n_4.2 2 0 j9 (show (200 : Nat) ∉ _ from by decide))).trans ((funext (fun j9 => n_3.2 2 0 j9 (show (200 : Nat) ∉ _ from by decide))).trans ((funext (fun j9 => n_1.2 2 0 j9 (show (200 : Nat) ∉ _ from by decide))).trans rfl))).trans hF) ((congrArg Int32.toInt (((n_4.2 1 0 1 (show (101 : Nat) ∉ _ from by decide)).trans ((n_3.2 1 0 1 (show (101 : Nat) ∉ _ from by decide)).trans (n_1.2 1 0 1 (show (101 : Nat) ∉ _ from by decide)))))).trans hN) (by have hb0 : (0 : Int) ≤ (st_4 3 0 3).toInt ∧ (st_4 3 0 3).toInt ≤ (801 : Int) := hB_st_4.1 3 0 3; omega)) ⟨(gz_cb (n := 1) hts gm_497 gm_3 gm_500 ⟨by decide +kernel, by decide +kernel, by decide +kernel⟩ ⟨Nat.le_of_ble_eq_true rfl, Nat.le_of_ble_eq_true rfl⟩), hts _ gm_499, hts _ gs_12⟩ (gs_preV hK hov hE hI hM hm hS hA 3 0 (by decide) rfl rfl) rfl rfl hl.1 rfl (lv_room (Nat.le_of_ble_eq_true rfl)) dX7_readGuest_37 ⟨Nat.le_of_ble_eq_true rfl, Nat.le_of_ble_eq_true rfl⟩) hm hS hA (fun r_6 st_6 H locs hw_6 hM hS => ?_)
        obtain ⟨n_6, hw_6⟩ := hw_6
        have hB_st_6 : gBN bX kX [301, 302, 303, 304, 305, 2509, 3400, 3500, 3600, 3700] st st_6 := hB_st_4.call n_6 (by decide)
        have hbhw_60 : (0 : Int) ≤ (st_4 3 0 3).toInt ∧ (st_4 3 0 3).toInt ≤ (801 : Int) := hB_st_4.1 3 0 3
        rcases hw_6 with ⟨rfl, hw_6_0, hw_6_1⟩ | ⟨rfl, hw_6_0⟩
        · skip
          refine lv_if_ne (tgt := 45) hx hb dX7_readGuest_40 (by decide) (fun _ => ?_) (fun h9 => absurd h9 (by decide))
          refine lv_aload_n hx hb dX7_readGuest_45 rfl (lv_at hl 2 rfl) ?_
          refine lv_iload_n hx hb dX7_readGuest_46 rfl (lv_at hl 1 rfl) ?_
          refine gs_calli (va_runV (As := [.int r_1]) (rest := []) ⟨hx, hb, hml, hown, hts⟩ (s_X7_readClan l G cy sK sV ad H.size st_6 hB_st_6.1 r_1 r_1.toInt rfl F N (((funext (fun j9 => n_6.2 2 0 j9 (show (200 : Nat) ∉ _ from by decide))).trans ((funext (fun j9 => n_4.2 2 0 j9 (show (200 : Nat) ∉ _ from by decide))).trans ((funext (fun j9 => n_3.2 2 0 j9 (show (200 : Nat) ∉ _ from by decide))).trans ((funext (fun j9 => n_1.2 2 0 j9 (show (200 : Nat) ∉ _ from by decide))).trans rfl)))).trans hF) ((congrArg Int32.toInt (((n_6.2 1 0 1 (show (101 : Nat) ∉ _ from by decide)).trans ((n_4.2 1 0 1 (show (101 : Nat) ∉ _ from by decide)).trans ((n_3.2 1 0 1 (show (101 : Nat) ∉ _ from by decide)).trans (n_1.2 1 0 1 (show (101 : Nat) ∉ _ from by decide))))))).trans hN) (by have hb0 : (0 : Int) ≤ (st_6 3 0 3).toInt ∧ (st_6 3 0 3).toInt ≤ (801 : Int) := hB_st_6.1 3 0 3; omega)) ⟨(gz_cb (n := 1) hts gm_481 gm_3 gm_484 ⟨by decide +kernel, by decide +kernel, by decide +kernel⟩ ⟨Nat.le_of_ble_eq_true rfl, Nat.le_of_ble_eq_true rfl⟩), hts _ gm_483, hts _ gs_10⟩ (gs_preV hK hov hE hI hM hm hS hA 3 0 (by decide) rfl rfl) rfl rfl hl.1 rfl (lv_room (Nat.le_of_ble_eq_true rfl)) dX7_readGuest_47 ⟨Nat.le_of_ble_eq_true rfl, Nat.le_of_ble_eq_true rfl⟩) hm hS hA (fun r_7 st_7 H locs hw_7 hM hS => ?_)
          obtain ⟨n_7, hw_7⟩ := hw_7
          have hB_st_7 : gBN bX kX [301, 302, 303, 304, 305, 2509, 3400, 3500, 3600, 3700] st st_7 := hB_st_6.call n_7 (by decide)
          have hbhw_70 : (0 : Int) ≤ (st_6 3 0 3).toInt ∧ (st_6 3 0 3).toInt ≤ (801 : Int) := hB_st_6.1 3 0 3
          have hw_7_0 := hw_7
          refine lv_istore (lv' := [(4, .int r_7), (3, .int r_4), (2, .int r_1), (0, .ref (ad 3 0)), (1, .ref (ad 25 z.toNatClampNeg))]) hx hb dX7_readGuest_50 hl (by decide) rfl (fun ls hl => ?_)
          refine lv_iload hx hb dX7_readGuest_52 (lv_at hl 0 rfl) ?_
          refine lv_iconst (v := (-1)) hx hb dX7_readGuest_54 (by decide) ?_
          refine lv_icmp_ne (tgt := 60) hx hb dX7_readGuest_55 (by decide) (fun c_8 => ?_) (fun c_8 => ?_)
          · have ic_8 := gz_ne (rfl : r_7.toInt = r_7.toInt) (by decide : ((-1) : Int32).toInt = -1) c_8
            refine lv_aload_n hx hb dX7_readGuest_60 rfl (lv_at hl 3 rfl) ?_
            refine lv_iconst (v := 0) hx hb dX7_readGuest_61 (by decide) ?_
            refine lv_sipush (v := 1000) hx hb dX7_readGuest_62 (by decide) ?_
            refine gs_calli (va_runV (As := [.int 0, .int 1000]) (rest := []) ⟨hx, hb, hml, hown, hts⟩ (s_X7_readNumber l G cy sK sV ad H.size st_7 hB_st_7.1 (0 : Int32) (1000 : Int32) 0 1000 (by decide) (by decide) F N (((funext (fun j9 => n_7.2 2 0 j9 (show (200 : Nat) ∉ _ from by decide))).trans ((funext (fun j9 => n_6.2 2 0 j9 (show (200 : Nat) ∉ _ from by decide))).trans ((funext (fun j9 => n_4.2 2 0 j9 (show (200 : Nat) ∉ _ from by decide))).trans ((funext (fun j9 => n_3.2 2 0 j9 (show (200 : Nat) ∉ _ from by decide))).trans ((funext (fun j9 => n_1.2 2 0 j9 (show (200 : Nat) ∉ _ from by decide))).trans rfl))))).trans hF) ((congrArg Int32.toInt (((n_7.2 1 0 1 (show (101 : Nat) ∉ _ from by decide)).trans ((n_6.2 1 0 1 (show (101 : Nat) ∉ _ from by decide)).trans ((n_4.2 1 0 1 (show (101 : Nat) ∉ _ from by decide)).trans ((n_3.2 1 0 1 (show (101 : Nat) ∉ _ from by decide)).trans (n_1.2 1 0 1 (show (101 : Nat) ∉ _ from by decide)))))))).trans hN) (by have hb0 : (0 : Int) ≤ (st_7 3 0 3).toInt ∧ (st_7 3 0 3).toInt ≤ (801 : Int) := hB_st_7.1 3 0 3; omega)) ⟨(gz_cb (n := 2) hts gm_464 gm_3 gm_467 ⟨by decide +kernel, by decide +kernel, by decide +kernel⟩ ⟨Nat.le_of_ble_eq_true rfl, Nat.le_of_ble_eq_true rfl⟩), hts _ gm_466, hts _ gs_7⟩ (gs_preV hK hov hE hI hM hm hS hA 3 0 (by decide) rfl rfl) rfl rfl hl.1 rfl (lv_room (Nat.le_of_ble_eq_true rfl)) dX7_readGuest_65 ⟨Nat.le_of_ble_eq_true rfl, Nat.le_of_ble_eq_true rfl⟩) hm hS hA (fun r_9 st_9 H locs hw_9 hM hS => ?_)
            obtain ⟨n_9, hw_9⟩ := hw_9
            have hB_st_9 : gBN bX kX [301, 302, 303, 304, 305, 2509, 3400, 3500, 3600, 3700] st st_9 := hB_st_7.call n_9 (by decide)
            have hbhw_90 : (0 : Int) ≤ (st_7 3 0 3).toInt ∧ (st_7 3 0 3).toInt ≤ (801 : Int) := hB_st_7.1 3 0 3
            have hw_9_0 := hw_9
            refine lv_istore (lv' := [(5, .int r_9), (4, .int r_7), (3, .int r_4), (2, .int r_1), (0, .ref (ad 3 0)), (1, .ref (ad 25 z.toNatClampNeg))]) hx hb dX7_readGuest_68 hl (by decide) rfl (fun ls hl => ?_)
            refine lv_iload hx hb dX7_readGuest_70 (lv_at hl 0 rfl) ?_
            refine lv_iconst (v := (-1)) hx hb dX7_readGuest_72 (by decide) ?_
            refine lv_icmp_eq (tgt := 85) hx hb dX7_readGuest_73 (by decide) (fun c_10 => ?_) (fun c_10 => ?_)
            · have ic_10 := gz_eq (rfl : r_9.toInt = r_9.toInt) (by decide : ((-1) : Int32).toInt = -1) c_10
              refine lv_iconst (v := 0) hx hb dX7_readGuest_85 (by decide) ?_
              exact gs_iret hx hb hr hlocks hM hS (by decide) ⟨hB_st_9, (Or.inr ⟨rfl, (by unfold pGuest; exact (obM (hw_1_0.resolve_right (fun h9 => absurd h9.1 (by omega))).1 (obM (by rw [← wI_e5]; exact hw_3_0) (obM (hw_4_0.resolve_right (fun h9 => absurd h9.1 (by omega))).1 (obM (by rw [← wI_e6]; exact hw_6_0) (obM (hw_7_0.resolve_right (fun h9 => absurd h9.1 (by omega))).1 ((if_neg (by omega)).trans (obN (hw_9_0.resolve_left (fun h9 => absurd h9.2.1 (by omega))).2)))))))), (lO.trans (lO.trans (lO.trans (lO.trans (lO.trans (lO.trans lO.rf (lO.frame n_1.2 (by decide))) (lO.frame n_3.2 (by decide))) (lO.frame n_4.2 (by decide))) (lO.frame n_6.2 (by decide))) (lO.frame n_7.2 (by decide))) (lO.frame n_9.2 (by decide)))⟩)⟩ (by exact Nat.le_refl _) (by exact Nat.le_refl _) dX7_readGuest_86
            · have ic_10 := gz_ne (rfl : r_9.toInt = r_9.toInt) (by decide : ((-1) : Int32).toInt = -1) c_10
              refine lv_aload_n hx hb dX7_readGuest_76 rfl (lv_at hl 4 rfl) ?_
              refine lv_bipush (v := 59) hx hb dX7_readGuest_77 (by decide) ?_
              refine gs_calli (va_runV (As := [.int 59]) (rest := []) ⟨hx, hb, hml, hown, hts⟩ (s_X7_readSign l G cy sK sV ad H.size st_9 hB_st_9.1 (59 : Int32) 59 (by decide) F N (((funext (fun j9 => n_9.2 2 0 j9 (show (200 : Nat) ∉ _ from by decide))).trans ((funext (fun j9 => n_7.2 2 0 j9 (show (200 : Nat) ∉ _ from by decide))).trans ((funext (fun j9 => n_6.2 2 0 j9 (show (200 : Nat) ∉ _ from by decide))).trans ((funext (fun j9 => n_4.2 2 0 j9 (show (200 : Nat) ∉ _ from by decide))).trans ((funext (fun j9 => n_3.2 2 0 j9 (show (200 : Nat) ∉ _ from by decide))).trans ((funext (fun j9 => n_1.2 2 0 j9 (show (200 : Nat) ∉ _ from by decide))).trans rfl)))))).trans hF) ((congrArg Int32.toInt (((n_9.2 1 0 1 (show (101 : Nat) ∉ _ from by decide)).trans ((n_7.2 1 0 1 (show (101 : Nat) ∉ _ from by decide)).trans ((n_6.2 1 0 1 (show (101 : Nat) ∉ _ from by decide)).trans ((n_4.2 1 0 1 (show (101 : Nat) ∉ _ from by decide)).trans ((n_3.2 1 0 1 (show (101 : Nat) ∉ _ from by decide)).trans (n_1.2 1 0 1 (show (101 : Nat) ∉ _ from by decide))))))))).trans hN) (by have hb0 : (0 : Int) ≤ (st_9 3 0 3).toInt ∧ (st_9 3 0 3).toInt ≤ (801 : Int) := hB_st_9.1 3 0 3; omega)) ⟨(gz_cb (n := 1) hts gm_473 gm_3 gm_476 ⟨by decide +kernel, by decide +kernel, by decide +kernel⟩ ⟨Nat.le_of_ble_eq_true rfl, Nat.le_of_ble_eq_true rfl⟩), hts _ gm_475, hts _ gs_8⟩ (gs_preV hK hov hE hI hM hm hS hA 3 0 (by decide) rfl rfl) rfl rfl hl.1 rfl (lv_room (Nat.le_of_ble_eq_true rfl)) dX7_readGuest_79 ⟨Nat.le_of_ble_eq_true rfl, Nat.le_of_ble_eq_true rfl⟩) hm hS hA (fun r_11 st_11 H locs hw_11 hM hS => ?_)
              obtain ⟨n_11, hw_11⟩ := hw_11
              have hB_st_11 : gBN bX kX [301, 302, 303, 304, 305, 2509, 3400, 3500, 3600, 3700] st st_11 := hB_st_9.call n_11 (by decide)
              have hbhw_110 : (0 : Int) ≤ (st_9 3 0 3).toInt ∧ (st_9 3 0 3).toInt ≤ (801 : Int) := hB_st_9.1 3 0 3
              rcases hw_11 with ⟨rfl, hw_11_0, hw_11_1⟩ | ⟨rfl, hw_11_0⟩
              · skip
                refine lv_if_ne (tgt := 87) hx hb dX7_readGuest_82 (by decide) (fun _ => ?_) (fun h9 => absurd h9 (by decide))
                refine lv_aload_n hx hb dX7_readGuest_87 rfl (lv_at hl 5 rfl) ?_
                refine lv_iload_n hx hb dX7_readGuest_88 rfl (lv_at hl 3 rfl) ?_
                refine lv_iload_n hx hb dX7_readGuest_89 rfl (lv_at hl 2 rfl) ?_
                refine lv_iload hx hb dX7_readGuest_90 (lv_at hl 1 rfl) ?_
                refine lv_iload hx hb dX7_readGuest_92 (lv_at hl 0 rfl) ?_
                refine gs_callv (va_runV (As := [.int r_1, .int r_4, .int r_7, .int r_9]) (rest := []) ⟨hx, hb, hml, hown, hts⟩ (s_X4_addGuest l G cy sK sV ad H.size st_11 hB_st_11.1 z r_1 r_4 r_7 r_9 r_1.toInt r_4.toInt r_7.toInt r_9.toInt rfl rfl rfl rfl hz_z (by have hq0 : (st_11 25 z.toNatClampNeg 9).toInt = ((st 25 z.toNatClampNeg 9) : Int32).toInt := congrArg Int32.toInt (((n_11.2 25 z.toNatClampNeg 9 (show (2509 : Nat) ∉ _ from by decide)).trans ((n_9.2 25 z.toNatClampNeg 9 (show (2509 : Nat) ∉ _ from by decide)).trans ((n_7.2 25 z.toNatClampNeg 9 (show (2509 : Nat) ∉ _ from by decide)).trans ((n_6.2 25 z.toNatClampNeg 9 (show (2509 : Nat) ∉ _ from by decide)).trans ((n_4.2 25 z.toNatClampNeg 9 (show (2509 : Nat) ∉ _ from by decide)).trans ((n_3.2 25 z.toNatClampNeg 9 (show (2509 : Nat) ∉ _ from by decide)).trans (n_1.2 25 z.toNatClampNeg 9 (show (2509 : Nat) ∉ _ from by decide))))))))); have hb1 : (0 : Int) ≤ (st_11 25 z.toNatClampNeg 9).toInt ∧ (st_11 25 z.toNatClampNeg 9).toInt ≤ (20 : Int) := hB_st_11.1 25 z.toNatClampNeg 9; omega)) ⟨(gz_cb (n := 4) hts gm_502 gm_10 gm_505 ⟨by decide +kernel, by decide +kernel, by decide +kernel⟩ ⟨Nat.le_of_ble_eq_true rfl, Nat.le_of_ble_eq_true rfl⟩), hts _ gm_503, hts _ gm_504⟩ (gs_preV hK hov hE hI hM hm hS hA 25 z.toNatClampNeg (gs_sel hz_z) rfl rfl) rfl rfl hl.1 rfl (lv_room (Nat.le_of_ble_eq_true rfl)) dX7_readGuest_94 ⟨Nat.le_of_ble_eq_true rfl, Nat.le_of_ble_eq_true rfl⟩) hm hS hA (fun st_12 H locs hw_12 hM hS => ?_)
                obtain ⟨n_12, hw_12⟩ := hw_12
                have hB_st_12 : gBN bX kX [301, 302, 303, 304, 305, 2509, 3400, 3500, 3600, 3700] st st_12 := hB_st_11.call n_12 (by decide)
                have hqhw_120 : (st_11 25 z.toNatClampNeg 9).toInt = ((st 25 z.toNatClampNeg 9) : Int32).toInt := congrArg Int32.toInt (((n_11.2 25 z.toNatClampNeg 9 (show (2509 : Nat) ∉ _ from by decide)).trans ((n_9.2 25 z.toNatClampNeg 9 (show (2509 : Nat) ∉ _ from by decide)).trans ((n_7.2 25 z.toNatClampNeg 9 (show (2509 : Nat) ∉ _ from by decide)).trans ((n_6.2 25 z.toNatClampNeg 9 (show (2509 : Nat) ∉ _ from by decide)).trans ((n_4.2 25 z.toNatClampNeg 9 (show (2509 : Nat) ∉ _ from by decide)).trans ((n_3.2 25 z.toNatClampNeg 9 (show (2509 : Nat) ∉ _ from by decide)).trans (n_1.2 25 z.toNatClampNeg 9 (show (2509 : Nat) ∉ _ from by decide)))))))))
                have hbhw_121 : (0 : Int) ≤ (st_11 25 z.toNatClampNeg 9).toInt ∧ (st_11 25 z.toNatClampNeg 9).toInt ≤ (20 : Int) := hB_st_11.1 25 z.toNatClampNeg 9
                obtain ⟨hw_12_0, hw_12_1, hw_12_2, hw_12_3, hw_12_4, hw_12_5⟩ := hw_12
                refine lv_iconst (v := 1) hx hb dX7_readGuest_97 (by decide) ?_
                exact gs_iret hx hb hr hlocks hM hS (by decide) ⟨hB_st_12, (Or.inl ⟨rfl, ⟨(1, r_1.toInt, r_4.toInt, r_7.toInt, r_9.toInt, []), (by rw [show (st_12 3 0 3).toInt = (st_11 3 0 3).toInt from (congrArg Int32.toInt ((n_12.2 3 0 3 (show (303 : Nat) ∉ _ from by decide))))]; unfold pGuest; exact (obM (hw_1_0.resolve_right (fun h9 => absurd h9.1 (by omega))).1 (obM (by rw [← wI_e5]; exact hw_3_0) (obM (hw_4_0.resolve_right (fun h9 => absurd h9.1 (by omega))).1 (obM (by rw [← wI_e6]; exact hw_6_0) (obM (hw_7_0.resolve_right (fun h9 => absurd h9.1 (by omega))).1 ((if_neg (by omega)).trans (obM (hw_9_0.resolve_right (fun h9 => absurd h9.1 (by omega))).1 (obM hw_11_0 rfl))))))))), rfl, wf_mk ⟨by omega, by omega⟩ ⟨by omega, by omega⟩ ⟨by omega, by omega⟩ ⟨by omega, by omega⟩ ⟨by omega, by omega⟩, (LXg.add (LXg.rows hL ((n_11.2 25 z.toNatClampNeg 9 (show (2509 : Nat) ∉ _ from by decide)).trans ((n_9.2 25 z.toNatClampNeg 9 (show (2509 : Nat) ∉ _ from by decide)).trans ((n_7.2 25 z.toNatClampNeg 9 (show (2509 : Nat) ∉ _ from by decide)).trans ((n_6.2 25 z.toNatClampNeg 9 (show (2509 : Nat) ∉ _ from by decide)).trans ((n_4.2 25 z.toNatClampNeg 9 (show (2509 : Nat) ∉ _ from by decide)).trans ((n_3.2 25 z.toNatClampNeg 9 (show (2509 : Nat) ∉ _ from by decide)).trans (n_1.2 25 z.toNatClampNeg 9 (show (2509 : Nat) ∉ _ from by decide)))))))) (fun i9 j9 => (n_11.2 34 i9 j9 (show (3400 : Nat) ∉ _ from by decide)).trans ((fun i9 j9 => (n_9.2 34 i9 j9 (show (3400 : Nat) ∉ _ from by decide)).trans ((fun i9 j9 => (n_7.2 34 i9 j9 (show (3400 : Nat) ∉ _ from by decide)).trans ((fun i9 j9 => (n_6.2 34 i9 j9 (show (3400 : Nat) ∉ _ from by decide)).trans ((fun i9 j9 => (n_4.2 34 i9 j9 (show (3400 : Nat) ∉ _ from by decide)).trans ((fun i9 j9 => (n_3.2 34 i9 j9 (show (3400 : Nat) ∉ _ from by decide)).trans ((fun i9 j9 => (n_1.2 34 i9 j9 (show (3400 : Nat) ∉ _ from by decide)).trans ((fun _ _ => rfl) i9 j9)) i9 j9)) i9 j9)) i9 j9)) i9 j9)) i9 j9)) i9 j9)) (fun i9 j9 => (n_11.2 35 i9 j9 (show (3500 : Nat) ∉ _ from by decide)).trans ((fun i9 j9 => (n_9.2 35 i9 j9 (show (3500 : Nat) ∉ _ from by decide)).trans ((fun i9 j9 => (n_7.2 35 i9 j9 (show (3500 : Nat) ∉ _ from by decide)).trans ((fun i9 j9 => (n_6.2 35 i9 j9 (show (3500 : Nat) ∉ _ from by decide)).trans ((fun i9 j9 => (n_4.2 35 i9 j9 (show (3500 : Nat) ∉ _ from by decide)).trans ((fun i9 j9 => (n_3.2 35 i9 j9 (show (3500 : Nat) ∉ _ from by decide)).trans ((fun i9 j9 => (n_1.2 35 i9 j9 (show (3500 : Nat) ∉ _ from by decide)).trans ((fun _ _ => rfl) i9 j9)) i9 j9)) i9 j9)) i9 j9)) i9 j9)) i9 j9)) i9 j9)) (fun i9 j9 => (n_11.2 36 i9 j9 (show (3600 : Nat) ∉ _ from by decide)).trans ((fun i9 j9 => (n_9.2 36 i9 j9 (show (3600 : Nat) ∉ _ from by decide)).trans ((fun i9 j9 => (n_7.2 36 i9 j9 (show (3600 : Nat) ∉ _ from by decide)).trans ((fun i9 j9 => (n_6.2 36 i9 j9 (show (3600 : Nat) ∉ _ from by decide)).trans ((fun i9 j9 => (n_4.2 36 i9 j9 (show (3600 : Nat) ∉ _ from by decide)).trans ((fun i9 j9 => (n_3.2 36 i9 j9 (show (3600 : Nat) ∉ _ from by decide)).trans ((fun i9 j9 => (n_1.2 36 i9 j9 (show (3600 : Nat) ∉ _ from by decide)).trans ((fun _ _ => rfl) i9 j9)) i9 j9)) i9 j9)) i9 j9)) i9 j9)) i9 j9)) i9 j9)) (fun i9 j9 => (n_11.2 37 i9 j9 (show (3700 : Nat) ∉ _ from by decide)).trans ((fun i9 j9 => (n_9.2 37 i9 j9 (show (3700 : Nat) ∉ _ from by decide)).trans ((fun i9 j9 => (n_7.2 37 i9 j9 (show (3700 : Nat) ∉ _ from by decide)).trans ((fun i9 j9 => (n_6.2 37 i9 j9 (show (3700 : Nat) ∉ _ from by decide)).trans ((fun i9 j9 => (n_4.2 37 i9 j9 (show (3700 : Nat) ∉ _ from by decide)).trans ((fun i9 j9 => (n_3.2 37 i9 j9 (show (3700 : Nat) ∉ _ from by decide)).trans ((fun i9 j9 => (n_1.2 37 i9 j9 (show (3700 : Nat) ∉ _ from by decide)).trans ((fun _ _ => rfl) i9 j9)) i9 j9)) i9 j9)) i9 j9)) i9 j9)) i9 j9)) i9 j9))) hw_12_0 hw_12_1 hw_12_2 hw_12_3 hw_12_4)⟩, (by have hq0 : (st_12 3 0 3).toInt = ((st_11 3 0 3) : Int32).toInt := congrArg Int32.toInt ((n_12.2 3 0 3 (show (303 : Nat) ∉ _ from by decide))); have hb1 : (0 : Int) ≤ (st_12 3 0 3).toInt ∧ (st_12 3 0 3).toInt ≤ (801 : Int) := hB_st_12.1 3 0 3; omega), (lO.trans (lO.trans (lO.trans (lO.trans (lO.trans (lO.trans (lO.trans (lO.trans lO.rf (lO.frame n_1.2 (by decide))) (lO.frame n_3.2 (by decide))) (lO.frame n_4.2 (by decide))) (lO.frame n_6.2 (by decide))) (lO.frame n_7.2 (by decide))) (lO.frame n_9.2 (by decide))) (lO.frame n_11.2 (by decide))) hw_12_5)⟩)⟩ (by exact Nat.le_refl _) (by exact Nat.le_refl _) dX7_readGuest_98
              · skip
                refine lv_if_ne (tgt := 87) hx hb dX7_readGuest_82 (by decide) (fun h9 => absurd (by decide) h9) (fun _ => ?_)
                refine lv_iconst (v := 0) hx hb dX7_readGuest_85 (by decide) ?_
                exact gs_iret hx hb hr hlocks hM hS (by decide) ⟨hB_st_11, (Or.inr ⟨rfl, (by unfold pGuest; exact (obM (hw_1_0.resolve_right (fun h9 => absurd h9.1 (by omega))).1 (obM (by rw [← wI_e5]; exact hw_3_0) (obM (hw_4_0.resolve_right (fun h9 => absurd h9.1 (by omega))).1 (obM (by rw [← wI_e6]; exact hw_6_0) (obM (hw_7_0.resolve_right (fun h9 => absurd h9.1 (by omega))).1 ((if_neg (by omega)).trans (obM (hw_9_0.resolve_right (fun h9 => absurd h9.1 (by omega))).1 (obN hw_11_0))))))))), (lO.trans (lO.trans (lO.trans (lO.trans (lO.trans (lO.trans (lO.trans lO.rf (lO.frame n_1.2 (by decide))) (lO.frame n_3.2 (by decide))) (lO.frame n_4.2 (by decide))) (lO.frame n_6.2 (by decide))) (lO.frame n_7.2 (by decide))) (lO.frame n_9.2 (by decide))) (lO.frame n_11.2 (by decide)))⟩)⟩ (by exact Nat.le_refl _) (by exact Nat.le_refl _) dX7_readGuest_86
          · have ic_8 := gz_eqn (rfl : r_7.toInt = r_7.toInt) (by decide : ((-1) : Int32).toInt = -1) c_8
            refine lv_iconst (v := 0) hx hb dX7_readGuest_58 (by decide) ?_
            exact gs_iret hx hb hr hlocks hM hS (by decide) ⟨hB_st_7, (Or.inr ⟨rfl, (by unfold pGuest; exact (obM (hw_1_0.resolve_right (fun h9 => absurd h9.1 (by omega))).1 (obM (by rw [← wI_e5]; exact hw_3_0) (obM (hw_4_0.resolve_right (fun h9 => absurd h9.1 (by omega))).1 (obM (by rw [← wI_e6]; exact hw_6_0) ((hw_7_0.resolve_left (fun h9 => absurd h9.2.1 (by omega))).2.elim (fun h9 => obN h9) (fun ⟨q9, h9⟩ => obM h9 (if_pos rfl)))))))), (lO.trans (lO.trans (lO.trans (lO.trans (lO.trans lO.rf (lO.frame n_1.2 (by decide))) (lO.frame n_3.2 (by decide))) (lO.frame n_4.2 (by decide))) (lO.frame n_6.2 (by decide))) (lO.frame n_7.2 (by decide)))⟩)⟩ (by exact Nat.le_refl _) (by exact Nat.le_refl _) dX7_readGuest_59
        · skip
          refine lv_if_ne (tgt := 45) hx hb dX7_readGuest_40 (by decide) (fun h9 => absurd (by decide) h9) (fun _ => ?_)
          refine lv_iconst (v := 0) hx hb dX7_readGuest_43 (by decide) ?_
          exact gs_iret hx hb hr hlocks hM hS (by decide) ⟨hB_st_6, (Or.inr ⟨rfl, (by unfold pGuest; exact (obM (hw_1_0.resolve_right (fun h9 => absurd h9.1 (by omega))).1 (obM (by rw [← wI_e5]; exact hw_3_0) (obM (hw_4_0.resolve_right (fun h9 => absurd h9.1 (by omega))).1 (obN (by rw [← wI_e6]; exact hw_6_0)))))), (lO.trans (lO.trans (lO.trans (lO.trans lO.rf (lO.frame n_1.2 (by decide))) (lO.frame n_3.2 (by decide))) (lO.frame n_4.2 (by decide))) (lO.frame n_6.2 (by decide)))⟩)⟩ (by exact Nat.le_refl _) (by exact Nat.le_refl _) dX7_readGuest_44
    · skip
      refine lv_if_ne (tgt := 22) hx hb dX7_readGuest_17 (by decide) (fun h9 => absurd (by decide) h9) (fun _ => ?_)
      refine lv_iconst (v := 0) hx hb dX7_readGuest_20 (by decide) ?_
      exact gs_iret hx hb hr hlocks hM hS (by decide) ⟨hB_st_3, (Or.inr ⟨rfl, (by unfold pGuest; exact (obM (hw_1_0.resolve_right (fun h9 => absurd h9.1 (by omega))).1 (obN (by rw [← wI_e5]; exact hw_3_0)))), (lO.trans (lO.trans lO.rf (lO.frame n_1.2 (by decide))) (lO.frame n_3.2 (by decide)))⟩)⟩ (by exact Nat.le_refl _) (by exact Nat.le_refl _) dX7_readGuest_21

set_option maxHeartbeats 4000000 in
set_option maxRecDepth 100000 in
/-- WellCourt$Reader.readWed -/
theorem s_X7_readWed (l : Launch) (G : va_G) (cy : Nat → ClassId) (sK sV : Nat → Nat) (ad : Nat → Nat → Nat) (sz : Nat) (st : gS) (hB : gBd bX st) (z : Int32) (hz_z : (0 : Int) ≤ z.toInt ∧ z.toInt ≤ (1 : Int)) (F : Nat → Int32) (N : Int) (hF : st 2 0 = F) (hN : (st 1 0 1).toInt = N) (hst : (st 3 0 3).toInt ≤ 800) (rs : List Rl) (hL : LXk rs st z.toNatClampNeg) : gsMi l yX7_readWed cX7_readWed 4 (some .boolean) ({ frames := 4, cells := 0, slots := 0, locals := 87 } : Room) G cy sK sV (shX cy ad) cnX ad sz [.ref (ad 3 0), .ref (ad 25 z.toNatClampNeg)] st (fun (r : Int32) (u : gS) => gBN bX kX [301, 302, 303, 304, 305, 2900] st u ∧ ((r = 1 ∧ (∃ r9 : Rl, pWed F N (cLex F N) (st 3 0 3).toInt = some (r9, (u 3 0 3).toInt) ∧ r9.1 = 2 ∧ wfR r9 ∧ LXk (rs ++ [r9]) u z.toNatClampNeg) ∧ ((u 3 0 3).toInt ≤ 800) ∧ (lO z.toNatClampNeg st u)) ∨ (r = 0 ∧ (pWed F N (cLex F N) (st 3 0 3).toInt = none) ∧ (lO z.toNatClampNeg st u)))) := by
  refine gs_start (fun A => gsQi G (shX cy ad) cnX ad _ A) (by decide) (Nat.le_of_ble_eq_true rfl) ?_
  intro p e s m below meth c A ls H hx hb hr hml hlocks hown hts hK hov hE hI hM hm hS hA hl
  have hl : lv_has ls 4 [(0, .ref (ad 3 0)), (1, .ref (ad 25 z.toNatClampNeg))] := hl
  have hB_st : gBN bX kX [301, 302, 303, 304, 305, 2900] st st := gBN.rf hB
  refine lv_aload_n hx hb dX7_readWed_0 rfl (lv_at hl 0 rfl) ?_
  refine lv_iconst (v := (-1)) hx hb dX7_readWed_1 (by decide) ?_
  refine gs_calli (va_runV (As := [.int (-1)]) (rest := []) ⟨hx, hb, hml, hown, hts⟩ (s_X7_readClan l G cy sK sV ad H.size st hB_st.1 ((-1) : Int32) (-1) (by decide) F N hF hN (by have hb0 : (0 : Int) ≤ (st 3 0 3).toInt ∧ (st 3 0 3).toInt ≤ (801 : Int) := hB_st.1 3 0 3; omega)) ⟨(gz_cb (n := 1) hts gm_481 gm_3 gm_484 ⟨by decide +kernel, by decide +kernel, by decide +kernel⟩ ⟨Nat.le_of_ble_eq_true rfl, Nat.le_of_ble_eq_true rfl⟩), hts _ gm_483, hts _ gs_10⟩ (gs_preV hK hov hE hI hM hm hS hA 3 0 (by decide) rfl rfl) rfl rfl hl.1 rfl (lv_room (Nat.le_of_ble_eq_true rfl)) dX7_readWed_2 ⟨Nat.le_of_ble_eq_true rfl, Nat.le_of_ble_eq_true rfl⟩) hm hS hA (fun r_1 st_1 H locs hw_1 hM hS => ?_)
  obtain ⟨n_1, hw_1⟩ := hw_1
  have hB_st_1 : gBN bX kX [301, 302, 303, 304, 305, 2900] st st_1 := hB_st.call n_1 (by decide)
  have hbhw_10 : (0 : Int) ≤ (st 3 0 3).toInt ∧ (st 3 0 3).toInt ≤ (801 : Int) := hB_st.1 3 0 3
  have hw_1_0 := hw_1
  refine lv_istore_n (lv' := [(2, .int r_1), (0, .ref (ad 3 0)), (1, .ref (ad 25 z.toNatClampNeg))]) hx hb dX7_readWed_5 rfl hl (by decide) rfl (fun ls hl => ?_)
  refine lv_iload_n hx hb dX7_readWed_6 rfl (lv_at hl 0 rfl) ?_
  refine lv_iconst (v := (-1)) hx hb dX7_readWed_7 (by decide) ?_
  refine lv_icmp_ne (tgt := 13) hx hb dX7_readWed_8 (by decide) (fun c_2 => ?_) (fun c_2 => ?_)
  · have ic_2 := gz_ne (rfl : r_1.toInt = r_1.toInt) (by decide : ((-1) : Int32).toInt = -1) c_2
    refine lv_aload_n hx hb dX7_readWed_13 rfl (lv_at hl 1 rfl) ?_
    refine lv_iload_n hx hb dX7_readWed_14 rfl (lv_at hl 0 rfl) ?_
    refine gs_calli (va_runV (As := [.int r_1]) (rest := []) ⟨hx, hb, hml, hown, hts⟩ (s_X7_readClan l G cy sK sV ad H.size st_1 hB_st_1.1 r_1 r_1.toInt rfl F N (((funext (fun j9 => n_1.2 2 0 j9 (show (200 : Nat) ∉ _ from by decide))).trans rfl).trans hF) ((congrArg Int32.toInt ((n_1.2 1 0 1 (show (101 : Nat) ∉ _ from by decide)))).trans hN) (by have hb0 : (0 : Int) ≤ (st_1 3 0 3).toInt ∧ (st_1 3 0 3).toInt ≤ (801 : Int) := hB_st_1.1 3 0 3; omega)) ⟨(gz_cb (n := 1) hts gm_481 gm_3 gm_484 ⟨by decide +kernel, by decide +kernel, by decide +kernel⟩ ⟨Nat.le_of_ble_eq_true rfl, Nat.le_of_ble_eq_true rfl⟩), hts _ gm_483, hts _ gs_10⟩ (gs_preV hK hov hE hI hM hm hS hA 3 0 (by decide) rfl rfl) rfl rfl hl.1 rfl (lv_room (Nat.le_of_ble_eq_true rfl)) dX7_readWed_15 ⟨Nat.le_of_ble_eq_true rfl, Nat.le_of_ble_eq_true rfl⟩) hm hS hA (fun r_3 st_3 H locs hw_3 hM hS => ?_)
    obtain ⟨n_3, hw_3⟩ := hw_3
    have hB_st_3 : gBN bX kX [301, 302, 303, 304, 305, 2900] st st_3 := hB_st_1.call n_3 (by decide)
    have hbhw_30 : (0 : Int) ≤ (st_1 3 0 3).toInt ∧ (st_1 3 0 3).toInt ≤ (801 : Int) := hB_st_1.1 3 0 3
    have hw_3_0 := hw_3
    refine lv_istore_n (lv' := [(3, .int r_3), (2, .int r_1), (0, .ref (ad 3 0)), (1, .ref (ad 25 z.toNatClampNeg))]) hx hb dX7_readWed_18 rfl hl (by decide) rfl (fun ls hl => ?_)
    refine lv_iload_n hx hb dX7_readWed_19 rfl (lv_at hl 0 rfl) ?_
    refine lv_iconst (v := (-1)) hx hb dX7_readWed_20 (by decide) ?_
    refine lv_icmp_eq (tgt := 33) hx hb dX7_readWed_21 (by decide) (fun c_4 => ?_) (fun c_4 => ?_)
    · have ic_4 := gz_eq (rfl : r_3.toInt = r_3.toInt) (by decide : ((-1) : Int32).toInt = -1) c_4
      refine lv_iconst (v := 0) hx hb dX7_readWed_33 (by decide) ?_
      exact gs_iret hx hb hr hlocks hM hS (by decide) ⟨hB_st_3, (Or.inr ⟨rfl, (by unfold pWed; exact (obM (hw_1_0.resolve_right (fun h9 => absurd h9.1 (by omega))).1 ((hw_3_0.resolve_left (fun h9 => absurd h9.2.1 (by omega))).2.elim (fun h9 => obN h9) (fun ⟨q9, h9⟩ => obM h9 (if_pos rfl))))), (lO.trans (lO.trans lO.rf (lO.frame n_1.2 (by decide))) (lO.frame n_3.2 (by decide)))⟩)⟩ (by exact Nat.le_refl _) (by exact Nat.le_refl _) dX7_readWed_34
    · have ic_4 := gz_ne (rfl : r_3.toInt = r_3.toInt) (by decide : ((-1) : Int32).toInt = -1) c_4
      refine lv_aload_n hx hb dX7_readWed_24 rfl (lv_at hl 2 rfl) ?_
      refine lv_bipush (v := 59) hx hb dX7_readWed_25 (by decide) ?_
      refine gs_calli (va_runV (As := [.int 59]) (rest := []) ⟨hx, hb, hml, hown, hts⟩ (s_X7_readSign l G cy sK sV ad H.size st_3 hB_st_3.1 (59 : Int32) 59 (by decide) F N (((funext (fun j9 => n_3.2 2 0 j9 (show (200 : Nat) ∉ _ from by decide))).trans ((funext (fun j9 => n_1.2 2 0 j9 (show (200 : Nat) ∉ _ from by decide))).trans rfl)).trans hF) ((congrArg Int32.toInt (((n_3.2 1 0 1 (show (101 : Nat) ∉ _ from by decide)).trans (n_1.2 1 0 1 (show (101 : Nat) ∉ _ from by decide))))).trans hN) (by have hb0 : (0 : Int) ≤ (st_3 3 0 3).toInt ∧ (st_3 3 0 3).toInt ≤ (801 : Int) := hB_st_3.1 3 0 3; omega)) ⟨(gz_cb (n := 1) hts gm_473 gm_3 gm_476 ⟨by decide +kernel, by decide +kernel, by decide +kernel⟩ ⟨Nat.le_of_ble_eq_true rfl, Nat.le_of_ble_eq_true rfl⟩), hts _ gm_475, hts _ gs_8⟩ (gs_preV hK hov hE hI hM hm hS hA 3 0 (by decide) rfl rfl) rfl rfl hl.1 rfl (lv_room (Nat.le_of_ble_eq_true rfl)) dX7_readWed_27 ⟨Nat.le_of_ble_eq_true rfl, Nat.le_of_ble_eq_true rfl⟩) hm hS hA (fun r_5 st_5 H locs hw_5 hM hS => ?_)
      obtain ⟨n_5, hw_5⟩ := hw_5
      have hB_st_5 : gBN bX kX [301, 302, 303, 304, 305, 2900] st st_5 := hB_st_3.call n_5 (by decide)
      have hbhw_50 : (0 : Int) ≤ (st_3 3 0 3).toInt ∧ (st_3 3 0 3).toInt ≤ (801 : Int) := hB_st_3.1 3 0 3
      rcases hw_5 with ⟨rfl, hw_5_0, hw_5_1⟩ | ⟨rfl, hw_5_0⟩
      · skip
        refine lv_if_ne (tgt := 35) hx hb dX7_readWed_30 (by decide) (fun _ => ?_) (fun h9 => absurd h9 (by decide))
        refine lv_aload_n hx hb dX7_readWed_35 rfl (lv_at hl 3 rfl) ?_
        refine lv_iload_n hx hb dX7_readWed_36 rfl (lv_at hl 1 rfl) ?_
        refine lv_iload_n hx hb dX7_readWed_37 rfl (lv_at hl 0 rfl) ?_
        refine gs_callv (va_runV (As := [.int r_1, .int r_3]) (rest := []) ⟨hx, hb, hml, hown, hts⟩ (s_X4_addWed l G cy sK sV ad H.size st_5 hB_st_5.1 z r_1 r_3 r_1.toInt r_3.toInt rfl rfl hz_z (by first | decide | omega) (by first | decide | omega) (by first | decide | omega) (by first | decide | omega) (by first | decide | omega)) ⟨(gz_cb (n := 2) hts gm_510 gm_10 gm_513 ⟨by decide +kernel, by decide +kernel, by decide +kernel⟩ ⟨Nat.le_of_ble_eq_true rfl, Nat.le_of_ble_eq_true rfl⟩), hts _ gm_511, hts _ gm_512⟩ (gs_preV hK hov hE hI hM hm hS hA 25 z.toNatClampNeg (gs_sel hz_z) rfl rfl) rfl rfl hl.1 rfl (lv_room (Nat.le_of_ble_eq_true rfl)) dX7_readWed_38 ⟨Nat.le_of_ble_eq_true rfl, Nat.le_of_ble_eq_true rfl⟩) hm hS hA (fun st_6 H locs hw_6 hM hS => ?_)
        obtain ⟨n_6, hw_6⟩ := hw_6
        have hB_st_6 : gBN bX kX [301, 302, 303, 304, 305, 2900] st st_6 := hB_st_5.call n_6 (by decide)
        obtain ⟨hw_6_0, hw_6_1⟩ := hw_6
        refine lv_iconst (v := 1) hx hb dX7_readWed_41 (by decide) ?_
        exact gs_iret hx hb hr hlocks hM hS (by decide) ⟨hB_st_6, (Or.inl ⟨rfl, ⟨(2, r_1.toInt, r_3.toInt, 0, 0, []), (by rw [show (st_6 3 0 3).toInt = (st_5 3 0 3).toInt from (congrArg Int32.toInt ((n_6.2 3 0 3 (show (303 : Nat) ∉ _ from by decide))))]; unfold pWed; exact (obM (hw_1_0.resolve_right (fun h9 => absurd h9.1 (by omega))).1 (obM (hw_3_0.resolve_right (fun h9 => absurd h9.1 (by omega))).1 ((if_neg (by omega)).trans (obM hw_5_0 rfl))))), rfl, wf_mk ⟨by omega, by omega⟩ ⟨by omega, by omega⟩ ⟨by omega, by omega⟩ ⟨by omega, by omega⟩ ⟨by omega, by omega⟩, (by obtain ⟨k1, k2, e1, e2, e3⟩ := hw_6_0; exact LXk.add (LXk.rows hL (fun i9 j9 => (n_5.2 29 i9 j9 (show (2900 : Nat) ∉ _ from by decide)).trans ((fun i9 j9 => (n_3.2 29 i9 j9 (show (2900 : Nat) ∉ _ from by decide)).trans ((fun i9 j9 => (n_1.2 29 i9 j9 (show (2900 : Nat) ∉ _ from by decide)).trans ((fun _ _ => rfl) i9 j9)) i9 j9)) i9 j9))) (by omega) (by omega) (by omega) (by omega) (by omega) e1 e2 e3)⟩, (by have hq0 : (st_6 3 0 3).toInt = ((st_5 3 0 3) : Int32).toInt := congrArg Int32.toInt ((n_6.2 3 0 3 (show (303 : Nat) ∉ _ from by decide))); have hb1 : (0 : Int) ≤ (st_6 3 0 3).toInt ∧ (st_6 3 0 3).toInt ≤ (801 : Int) := hB_st_6.1 3 0 3; omega), (lO.trans (lO.trans (lO.trans (lO.trans lO.rf (lO.frame n_1.2 (by decide))) (lO.frame n_3.2 (by decide))) (lO.frame n_5.2 (by decide))) hw_6_1)⟩)⟩ (by exact Nat.le_refl _) (by exact Nat.le_refl _) dX7_readWed_42
      · skip
        refine lv_if_ne (tgt := 35) hx hb dX7_readWed_30 (by decide) (fun h9 => absurd (by decide) h9) (fun _ => ?_)
        refine lv_iconst (v := 0) hx hb dX7_readWed_33 (by decide) ?_
        exact gs_iret hx hb hr hlocks hM hS (by decide) ⟨hB_st_5, (Or.inr ⟨rfl, (by unfold pWed; exact (obM (hw_1_0.resolve_right (fun h9 => absurd h9.1 (by omega))).1 (obM (hw_3_0.resolve_right (fun h9 => absurd h9.1 (by omega))).1 ((if_neg (by omega)).trans (obN hw_5_0))))), (lO.trans (lO.trans (lO.trans lO.rf (lO.frame n_1.2 (by decide))) (lO.frame n_3.2 (by decide))) (lO.frame n_5.2 (by decide)))⟩)⟩ (by exact Nat.le_refl _) (by exact Nat.le_refl _) dX7_readWed_34
  · have ic_2 := gz_eqn (rfl : r_1.toInt = r_1.toInt) (by decide : ((-1) : Int32).toInt = -1) c_2
    refine lv_iconst (v := 0) hx hb dX7_readWed_11 (by decide) ?_
    exact gs_iret hx hb hr hlocks hM hS (by decide) ⟨hB_st_1, (Or.inr ⟨rfl, (by unfold pWed; exact ((hw_1_0.resolve_left (fun h9 => absurd h9.2.1 (by omega))).2.elim (fun h9 => obN h9) (fun ⟨q9, h9⟩ => absurd (show (0 : Int) ≤ -1 from (gClan_ok h9).2.2.1) (by decide)))), (lO.trans lO.rf (lO.frame n_1.2 (by decide)))⟩)⟩ (by exact Nat.le_refl _) (by exact Nat.le_refl _) dX7_readWed_12

set_option maxHeartbeats 4000000 in
set_option maxRecDepth 100000 in
/-- WellCourt$Reader.readDrought -/
theorem s_X7_readDrought (l : Launch) (G : va_G) (cy : Nat → ClassId) (sK sV : Nat → Nat) (ad : Nat → Nat → Nat) (sz : Nat) (st : gS) (hB : gBd bX st) (z : Int32) (hz_z : (0 : Int) ≤ z.toInt ∧ z.toInt ≤ (1 : Int)) (F : Nat → Int32) (N : Int) (hF : st 2 0 = F) (hN : (st 1 0 1).toInt = N) (hst : (st 3 0 3).toInt ≤ 800) (rs : List Rl) (hL : LXd rs st z.toNatClampNeg) (hct : (st 25 z.toNatClampNeg 5).toInt < 20) : gsMi l yX7_readDrought cX7_readDrought 5 (some .boolean) ({ frames := 6, cells := 0, slots := 0, locals := 128 } : Room) G cy sK sV (shX cy ad) cnX ad sz [.ref (ad 3 0), .ref (ad 25 z.toNatClampNeg)] st (fun (r : Int32) (u : gS) => gBN bX kX [301, 302, 303, 304, 305, 2505, 3100, 3200, 3300] st u ∧ ((r = 1 ∧ (∃ r9 : Rl, pDrought F N (cLex F N) (st 3 0 3).toInt = some (r9, (u 3 0 3).toInt) ∧ r9.1 = 3 ∧ wfR r9 ∧ LXd (rs ++ [r9]) u z.toNatClampNeg) ∧ ((u 3 0 3).toInt ≤ 800) ∧ (lO z.toNatClampNeg st u)) ∨ (r = 0 ∧ (pDrought F N (cLex F N) (st 3 0 3).toInt = none) ∧ (lO z.toNatClampNeg st u)))) := by
  refine gs_start (fun A => gsQi G (shX cy ad) cnX ad _ A) (by decide) (Nat.le_of_ble_eq_true rfl) ?_
  intro p e s m below meth c A ls H hx hb hr hml hlocks hown hts hK hov hE hI hM hm hS hA hl
  have hl : lv_has ls 5 [(0, .ref (ad 3 0)), (1, .ref (ad 25 z.toNatClampNeg))] := hl
  have hB_st : gBN bX kX [301, 302, 303, 304, 305, 2505, 3100, 3200, 3300] st st := gBN.rf hB
  refine lv_aload_n hx hb dX7_readDrought_0 rfl (lv_at hl 0 rfl) ?_
  refine lv_iconst (v := 0) hx hb dX7_readDrought_1 (by decide) ?_
  refine lv_iconst (v := 5) hx hb dX7_readDrought_2 (by decide) ?_
  refine gs_calli (va_runV (As := [.int 0, .int 5]) (rest := []) ⟨hx, hb, hml, hown, hts⟩ (s_X7_readNumber l G cy sK sV ad H.size st hB_st.1 (0 : Int32) (5 : Int32) 0 5 (by decide) (by decide) F N hF hN (by have hb0 : (0 : Int) ≤ (st 3 0 3).toInt ∧ (st 3 0 3).toInt ≤ (801 : Int) := hB_st.1 3 0 3; omega)) ⟨(gz_cb (n := 2) hts gm_464 gm_3 gm_467 ⟨by decide +kernel, by decide +kernel, by decide +kernel⟩ ⟨Nat.le_of_ble_eq_true rfl, Nat.le_of_ble_eq_true rfl⟩), hts _ gm_466, hts _ gs_7⟩ (gs_preV hK hov hE hI hM hm hS hA 3 0 (by decide) rfl rfl) rfl rfl hl.1 rfl (lv_room (Nat.le_of_ble_eq_true rfl)) dX7_readDrought_3 ⟨Nat.le_of_ble_eq_true rfl, Nat.le_of_ble_eq_true rfl⟩) hm hS hA (fun r_1 st_1 H locs hw_1 hM hS => ?_)
  obtain ⟨n_1, hw_1⟩ := hw_1
  have hB_st_1 : gBN bX kX [301, 302, 303, 304, 305, 2505, 3100, 3200, 3300] st st_1 := hB_st.call n_1 (by decide)
  have hbhw_10 : (0 : Int) ≤ (st 3 0 3).toInt ∧ (st 3 0 3).toInt ≤ (801 : Int) := hB_st.1 3 0 3
  have hw_1_0 := hw_1
  refine lv_istore_n (lv' := [(2, .int r_1), (0, .ref (ad 3 0)), (1, .ref (ad 25 z.toNatClampNeg))]) hx hb dX7_readDrought_6 rfl hl (by decide) rfl (fun ls hl => ?_)
  refine lv_iload_n hx hb dX7_readDrought_7 rfl (lv_at hl 0 rfl) ?_
  refine lv_iconst (v := (-1)) hx hb dX7_readDrought_8 (by decide) ?_
  refine lv_icmp_eq (tgt := 21) hx hb dX7_readDrought_9 (by decide) (fun c_2 => ?_) (fun c_2 => ?_)
  · have ic_2 := gz_eq (rfl : r_1.toInt = r_1.toInt) (by decide : ((-1) : Int32).toInt = -1) c_2
    refine lv_iconst (v := 0) hx hb dX7_readDrought_21 (by decide) ?_
    exact gs_iret hx hb hr hlocks hM hS (by decide) ⟨hB_st_1, (Or.inr ⟨rfl, (by unfold pDrought; exact (obN (hw_1_0.resolve_left (fun h9 => absurd h9.2.1 (by omega))).2)), (lO.trans lO.rf (lO.frame n_1.2 (by decide)))⟩)⟩ (by exact Nat.le_refl _) (by exact Nat.le_refl _) dX7_readDrought_22
  · have ic_2 := gz_ne (rfl : r_1.toInt = r_1.toInt) (by decide : ((-1) : Int32).toInt = -1) c_2
    refine lv_aload_n hx hb dX7_readDrought_12 rfl (lv_at hl 1 rfl) ?_
    refine va_ldcS (q := sK 7) hx hb hown (hE.2.2.1 7 (by decide)) dX7_readDrought_13 ?_
    refine gs_calli (va_runV (As := [.ref (sK 7)]) (rest := []) ⟨hx, hb, hml, hown, hts⟩ (s_X7_readWord l G cy sK sV ad H.size st_1 hB_st_1.1 7 (by decide) F N (((funext (fun j9 => n_1.2 2 0 j9 (show (200 : Nat) ∉ _ from by decide))).trans rfl).trans hF) ((congrArg Int32.toInt ((n_1.2 1 0 1 (show (101 : Nat) ∉ _ from by decide)))).trans hN) (by have hb0 : (0 : Int) ≤ (st_1 3 0 3).toInt ∧ (st_1 3 0 3).toInt ≤ (801 : Int) := hB_st_1.1 3 0 3; omega)) ⟨(gz_cb (n := 1) hts gm_497 gm_3 gm_500 ⟨by decide +kernel, by decide +kernel, by decide +kernel⟩ ⟨Nat.le_of_ble_eq_true rfl, Nat.le_of_ble_eq_true rfl⟩), hts _ gm_499, hts _ gs_12⟩ (gs_preV hK hov hE hI hM hm hS hA 3 0 (by decide) rfl rfl) rfl rfl hl.1 rfl (lv_room (Nat.le_of_ble_eq_true rfl)) dX7_readDrought_15 ⟨Nat.le_of_ble_eq_true rfl, Nat.le_of_ble_eq_true rfl⟩) hm hS hA (fun r_3 st_3 H locs hw_3 hM hS => ?_)
    obtain ⟨n_3, hw_3⟩ := hw_3
    have hB_st_3 : gBN bX kX [301, 302, 303, 304, 305, 2505, 3100, 3200, 3300] st st_3 := hB_st_1.call n_3 (by decide)
    have hbhw_30 : (0 : Int) ≤ (st_1 3 0 3).toInt ∧ (st_1 3 0 3).toInt ≤ (801 : Int) := hB_st_1.1 3 0 3
    rcases hw_3 with ⟨rfl, hw_3_0, hw_3_1⟩ | ⟨rfl, hw_3_0⟩
    · skip
      refine lv_if_ne (tgt := 23) hx hb dX7_readDrought_18 (by decide) (fun _ => ?_) (fun h9 => absurd h9 (by decide))
      refine lv_aload_n hx hb dX7_readDrought_23 rfl (lv_at hl 1 rfl) ?_
      refine lv_iconst (v := 0) hx hb dX7_readDrought_24 (by decide) ?_
      refine lv_sipush (v := 1000) hx hb dX7_readDrought_25 (by decide) ?_
      refine gs_calli (va_runV (As := [.int 0, .int 1000]) (rest := []) ⟨hx, hb, hml, hown, hts⟩ (s_X7_readNumber l G cy sK sV ad H.size st_3 hB_st_3.1 (0 : Int32) (1000 : Int32) 0 1000 (by decide) (by decide) F N (((funext (fun j9 => n_3.2 2 0 j9 (show (200 : Nat) ∉ _ from by decide))).trans ((funext (fun j9 => n_1.2 2 0 j9 (show (200 : Nat) ∉ _ from by decide))).trans rfl)).trans hF) ((congrArg Int32.toInt (((n_3.2 1 0 1 (show (101 : Nat) ∉ _ from by decide)).trans (n_1.2 1 0 1 (show (101 : Nat) ∉ _ from by decide))))).trans hN) (by have hb0 : (0 : Int) ≤ (st_3 3 0 3).toInt ∧ (st_3 3 0 3).toInt ≤ (801 : Int) := hB_st_3.1 3 0 3; omega)) ⟨(gz_cb (n := 2) hts gm_464 gm_3 gm_467 ⟨by decide +kernel, by decide +kernel, by decide +kernel⟩ ⟨Nat.le_of_ble_eq_true rfl, Nat.le_of_ble_eq_true rfl⟩), hts _ gm_466, hts _ gs_7⟩ (gs_preV hK hov hE hI hM hm hS hA 3 0 (by decide) rfl rfl) rfl rfl hl.1 rfl (lv_room (Nat.le_of_ble_eq_true rfl)) dX7_readDrought_28 ⟨Nat.le_of_ble_eq_true rfl, Nat.le_of_ble_eq_true rfl⟩) hm hS hA (fun r_4 st_4 H locs hw_4 hM hS => ?_)
      obtain ⟨n_4, hw_4⟩ := hw_4
      have hB_st_4 : gBN bX kX [301, 302, 303, 304, 305, 2505, 3100, 3200, 3300] st st_4 := hB_st_3.call n_4 (by decide)
      have hbhw_40 : (0 : Int) ≤ (st_3 3 0 3).toInt ∧ (st_3 3 0 3).toInt ≤ (801 : Int) := hB_st_3.1 3 0 3
      have hw_4_0 := hw_4
      refine lv_istore_n (lv' := [(3, .int r_4), (2, .int r_1), (0, .ref (ad 3 0)), (1, .ref (ad 25 z.toNatClampNeg))]) hx hb dX7_readDrought_31 rfl hl (by decide) rfl (fun ls hl => ?_)
      refine lv_iload_n hx hb dX7_readDrought_32 rfl (lv_at hl 0 rfl) ?_
      refine lv_iconst (v := (-1)) hx hb dX7_readDrought_33 (by decide) ?_
      refine lv_icmp_ne (tgt := 39) hx hb dX7_readDrought_34 (by decide) (fun c_5 => ?_) (fun c_5 => ?_)
      · have ic_5 := gz_ne (rfl : r_4.toInt = r_4.toInt) (by decide : ((-1) : Int32).toInt = -1) c_5
        refine lv_aload_n hx hb dX7_readDrought_39 rfl (lv_at hl 2 rfl) ?_
        refine lv_iconst (v := (-1)) hx hb dX7_readDrought_40 (by decide) ?_
        refine gs_calli (va_runV (As := [.int (-1)]) (rest := []) ⟨hx, hb, hml, hown, hts⟩ (s_X7_readClan l G cy sK sV ad H.size st_4 hB_st_4.1 ((-1) : Int32) (-1) (by decide) F N (((funext (fun j9 => n_4.2 2 0 j9 (show (200 : Nat) ∉ _ from by decide))).trans ((funext (fun j9 => n_3.2 2 0 j9 (show (200 : Nat) ∉ _ from by decide))).trans ((funext (fun j9 => n_1.2 2 0 j9 (show (200 : Nat) ∉ _ from by decide))).trans rfl))).trans hF) ((congrArg Int32.toInt (((n_4.2 1 0 1 (show (101 : Nat) ∉ _ from by decide)).trans ((n_3.2 1 0 1 (show (101 : Nat) ∉ _ from by decide)).trans (n_1.2 1 0 1 (show (101 : Nat) ∉ _ from by decide)))))).trans hN) (by have hb0 : (0 : Int) ≤ (st_4 3 0 3).toInt ∧ (st_4 3 0 3).toInt ≤ (801 : Int) := hB_st_4.1 3 0 3; omega)) ⟨(gz_cb (n := 1) hts gm_481 gm_3 gm_484 ⟨by decide +kernel, by decide +kernel, by decide +kernel⟩ ⟨Nat.le_of_ble_eq_true rfl, Nat.le_of_ble_eq_true rfl⟩), hts _ gm_483, hts _ gs_10⟩ (gs_preV hK hov hE hI hM hm hS hA 3 0 (by decide) rfl rfl) rfl rfl hl.1 rfl (lv_room (Nat.le_of_ble_eq_true rfl)) dX7_readDrought_41 ⟨Nat.le_of_ble_eq_true rfl, Nat.le_of_ble_eq_true rfl⟩) hm hS hA (fun r_6 st_6 H locs hw_6 hM hS => ?_)
        obtain ⟨n_6, hw_6⟩ := hw_6
        have hB_st_6 : gBN bX kX [301, 302, 303, 304, 305, 2505, 3100, 3200, 3300] st st_6 := hB_st_4.call n_6 (by decide)
        have hbhw_60 : (0 : Int) ≤ (st_4 3 0 3).toInt ∧ (st_4 3 0 3).toInt ≤ (801 : Int) := hB_st_4.1 3 0 3
        have hw_6_0 := hw_6
        refine lv_istore (lv' := [(4, .int r_6), (3, .int r_4), (2, .int r_1), (0, .ref (ad 3 0)), (1, .ref (ad 25 z.toNatClampNeg))]) hx hb dX7_readDrought_44 hl (by decide) rfl (fun ls hl => ?_)
        refine lv_iload hx hb dX7_readDrought_46 (lv_at hl 0 rfl) ?_
        refine lv_iconst (v := (-1)) hx hb dX7_readDrought_48 (by decide) ?_
        refine lv_icmp_eq (tgt := 61) hx hb dX7_readDrought_49 (by decide) (fun c_7 => ?_) (fun c_7 => ?_)
        · have ic_7 := gz_eq (rfl : r_6.toInt = r_6.toInt) (by decide : ((-1) : Int32).toInt = -1) c_7
          refine lv_iconst (v := 0) hx hb dX7_readDrought_61 (by decide) ?_
          exact gs_iret hx hb hr hlocks hM hS (by decide) ⟨hB_st_6, (Or.inr ⟨rfl, (by unfold pDrought; exact (obM (hw_1_0.resolve_right (fun h9 => absurd h9.1 (by omega))).1 (obM (by rw [← wI_e7]; exact hw_3_0) (obM (hw_4_0.resolve_right (fun h9 => absurd h9.1 (by omega))).1 ((hw_6_0.resolve_left (fun h9 => absurd h9.2.1 (by omega))).2.elim (fun h9 => obN h9) (fun ⟨q9, h9⟩ => absurd (show (0 : Int) ≤ -1 from (gClan_ok h9).2.2.1) (by decide))))))), (lO.trans (lO.trans (lO.trans (lO.trans lO.rf (lO.frame n_1.2 (by decide))) (lO.frame n_3.2 (by decide))) (lO.frame n_4.2 (by decide))) (lO.frame n_6.2 (by decide)))⟩)⟩ (by exact Nat.le_refl _) (by exact Nat.le_refl _) dX7_readDrought_62
        · have ic_7 := gz_ne (rfl : r_6.toInt = r_6.toInt) (by decide : ((-1) : Int32).toInt = -1) c_7
          refine lv_aload_n hx hb dX7_readDrought_52 rfl (lv_at hl 3 rfl) ?_
          refine lv_bipush (v := 59) hx hb dX7_readDrought_53 (by decide) ?_
          refine gs_calli (va_runV (As := [.int 59]) (rest := []) ⟨hx, hb, hml, hown, hts⟩ (s_X7_readSign l G cy sK sV ad H.size st_6 hB_st_6.1 (59 : Int32) 59 (by decide) F N (((funext (fun j9 => n_6.2 2 0 j9 (show (200 : Nat) ∉ _ from by decide))).trans ((funext (fun j9 => n_4.2 2 0 j9 (show (200 : Nat) ∉ _ from by decide))).trans ((funext (fun j9 => n_3.2 2 0 j9 (show (200 : Nat) ∉ _ from by decide))).trans ((funext (fun j9 => n_1.2 2 0 j9 (show (200 : Nat) ∉ _ from by decide))).trans rfl)))).trans hF) ((congrArg Int32.toInt (((n_6.2 1 0 1 (show (101 : Nat) ∉ _ from by decide)).trans ((n_4.2 1 0 1 (show (101 : Nat) ∉ _ from by decide)).trans ((n_3.2 1 0 1 (show (101 : Nat) ∉ _ from by decide)).trans (n_1.2 1 0 1 (show (101 : Nat) ∉ _ from by decide))))))).trans hN) (by have hb0 : (0 : Int) ≤ (st_6 3 0 3).toInt ∧ (st_6 3 0 3).toInt ≤ (801 : Int) := hB_st_6.1 3 0 3; omega)) ⟨(gz_cb (n := 1) hts gm_473 gm_3 gm_476 ⟨by decide +kernel, by decide +kernel, by decide +kernel⟩ ⟨Nat.le_of_ble_eq_true rfl, Nat.le_of_ble_eq_true rfl⟩), hts _ gm_475, hts _ gs_8⟩ (gs_preV hK hov hE hI hM hm hS hA 3 0 (by decide) rfl rfl) rfl rfl hl.1 rfl (lv_room (Nat.le_of_ble_eq_true rfl)) dX7_readDrought_55 ⟨Nat.le_of_ble_eq_true rfl, Nat.le_of_ble_eq_true rfl⟩) hm hS hA (fun r_8 st_8 H locs hw_8 hM hS => ?_)
          obtain ⟨n_8, hw_8⟩ := hw_8
          have hB_st_8 : gBN bX kX [301, 302, 303, 304, 305, 2505, 3100, 3200, 3300] st st_8 := hB_st_6.call n_8 (by decide)
          have hbhw_80 : (0 : Int) ≤ (st_6 3 0 3).toInt ∧ (st_6 3 0 3).toInt ≤ (801 : Int) := hB_st_6.1 3 0 3
          rcases hw_8 with ⟨rfl, hw_8_0, hw_8_1⟩ | ⟨rfl, hw_8_0⟩
          · skip
            refine lv_if_ne (tgt := 63) hx hb dX7_readDrought_58 (by decide) (fun _ => ?_) (fun h9 => absurd h9 (by decide))
            refine lv_aload_n hx hb dX7_readDrought_63 rfl (lv_at hl 4 rfl) ?_
            refine lv_iload_n hx hb dX7_readDrought_64 rfl (lv_at hl 2 rfl) ?_
            refine lv_iload_n hx hb dX7_readDrought_65 rfl (lv_at hl 1 rfl) ?_
            refine lv_iload hx hb dX7_readDrought_66 (lv_at hl 0 rfl) ?_
            refine gs_callv (va_runV (As := [.int r_1, .int r_4, .int r_6]) (rest := []) ⟨hx, hb, hml, hown, hts⟩ (s_X4_addDrought l G cy sK sV ad H.size st_8 hB_st_8.1 z r_1 r_4 r_6 r_1.toInt r_4.toInt r_6.toInt rfl rfl rfl hz_z (by have hq0 : (st_8 25 z.toNatClampNeg 5).toInt = ((st 25 z.toNatClampNeg 5) : Int32).toInt := congrArg Int32.toInt (((n_8.2 25 z.toNatClampNeg 5 (show (2505 : Nat) ∉ _ from by decide)).trans ((n_6.2 25 z.toNatClampNeg 5 (show (2505 : Nat) ∉ _ from by decide)).trans ((n_4.2 25 z.toNatClampNeg 5 (show (2505 : Nat) ∉ _ from by decide)).trans ((n_3.2 25 z.toNatClampNeg 5 (show (2505 : Nat) ∉ _ from by decide)).trans (n_1.2 25 z.toNatClampNeg 5 (show (2505 : Nat) ∉ _ from by decide))))))); have hb1 : (0 : Int) ≤ (st_8 25 z.toNatClampNeg 5).toInt ∧ (st_8 25 z.toNatClampNeg 5).toInt ≤ (20 : Int) := hB_st_8.1 25 z.toNatClampNeg 5; omega)) ⟨(gz_cb (n := 3) hts gm_519 gm_10 gm_522 ⟨by decide +kernel, by decide +kernel, by decide +kernel⟩ ⟨Nat.le_of_ble_eq_true rfl, Nat.le_of_ble_eq_true rfl⟩), hts _ gm_520, hts _ gm_521⟩ (gs_preV hK hov hE hI hM hm hS hA 25 z.toNatClampNeg (gs_sel hz_z) rfl rfl) rfl rfl hl.1 rfl (lv_room (Nat.le_of_ble_eq_true rfl)) dX7_readDrought_68 ⟨Nat.le_of_ble_eq_true rfl, Nat.le_of_ble_eq_true rfl⟩) hm hS hA (fun st_9 H locs hw_9 hM hS => ?_)
            obtain ⟨n_9, hw_9⟩ := hw_9
            have hB_st_9 : gBN bX kX [301, 302, 303, 304, 305, 2505, 3100, 3200, 3300] st st_9 := hB_st_8.call n_9 (by decide)
            have hqhw_90 : (st_8 25 z.toNatClampNeg 5).toInt = ((st 25 z.toNatClampNeg 5) : Int32).toInt := congrArg Int32.toInt (((n_8.2 25 z.toNatClampNeg 5 (show (2505 : Nat) ∉ _ from by decide)).trans ((n_6.2 25 z.toNatClampNeg 5 (show (2505 : Nat) ∉ _ from by decide)).trans ((n_4.2 25 z.toNatClampNeg 5 (show (2505 : Nat) ∉ _ from by decide)).trans ((n_3.2 25 z.toNatClampNeg 5 (show (2505 : Nat) ∉ _ from by decide)).trans (n_1.2 25 z.toNatClampNeg 5 (show (2505 : Nat) ∉ _ from by decide)))))))
            have hbhw_91 : (0 : Int) ≤ (st_8 25 z.toNatClampNeg 5).toInt ∧ (st_8 25 z.toNatClampNeg 5).toInt ≤ (20 : Int) := hB_st_8.1 25 z.toNatClampNeg 5
            obtain ⟨hw_9_0, hw_9_1, hw_9_2, hw_9_3, hw_9_4⟩ := hw_9
            refine lv_iconst (v := 1) hx hb dX7_readDrought_71 (by decide) ?_
            exact gs_iret hx hb hr hlocks hM hS (by decide) ⟨hB_st_9, (Or.inl ⟨rfl, ⟨(3, r_1.toInt, r_6.toInt, 0, r_4.toInt, []), (by rw [show (st_9 3 0 3).toInt = (st_8 3 0 3).toInt from (congrArg Int32.toInt ((n_9.2 3 0 3 (show (303 : Nat) ∉ _ from by decide))))]; unfold pDrought; exact (obM (hw_1_0.resolve_right (fun h9 => absurd h9.1 (by omega))).1 (obM (by rw [← wI_e7]; exact hw_3_0) (obM (hw_4_0.resolve_right (fun h9 => absurd h9.1 (by omega))).1 (obM (hw_6_0.resolve_right (fun h9 => absurd h9.1 (by omega))).1 (obM hw_8_0 rfl)))))), rfl, wf_mk ⟨by omega, by omega⟩ ⟨by omega, by omega⟩ ⟨by omega, by omega⟩ ⟨by omega, by omega⟩ ⟨by omega, by omega⟩, (LXd.add (LXd.rows hL ((n_8.2 25 z.toNatClampNeg 5 (show (2505 : Nat) ∉ _ from by decide)).trans ((n_6.2 25 z.toNatClampNeg 5 (show (2505 : Nat) ∉ _ from by decide)).trans ((n_4.2 25 z.toNatClampNeg 5 (show (2505 : Nat) ∉ _ from by decide)).trans ((n_3.2 25 z.toNatClampNeg 5 (show (2505 : Nat) ∉ _ from by decide)).trans (n_1.2 25 z.toNatClampNeg 5 (show (2505 : Nat) ∉ _ from by decide)))))) (fun i9 j9 => (n_8.2 31 i9 j9 (show (3100 : Nat) ∉ _ from by decide)).trans ((fun i9 j9 => (n_6.2 31 i9 j9 (show (3100 : Nat) ∉ _ from by decide)).trans ((fun i9 j9 => (n_4.2 31 i9 j9 (show (3100 : Nat) ∉ _ from by decide)).trans ((fun i9 j9 => (n_3.2 31 i9 j9 (show (3100 : Nat) ∉ _ from by decide)).trans ((fun i9 j9 => (n_1.2 31 i9 j9 (show (3100 : Nat) ∉ _ from by decide)).trans ((fun _ _ => rfl) i9 j9)) i9 j9)) i9 j9)) i9 j9)) i9 j9)) (fun i9 j9 => (n_8.2 32 i9 j9 (show (3200 : Nat) ∉ _ from by decide)).trans ((fun i9 j9 => (n_6.2 32 i9 j9 (show (3200 : Nat) ∉ _ from by decide)).trans ((fun i9 j9 => (n_4.2 32 i9 j9 (show (3200 : Nat) ∉ _ from by decide)).trans ((fun i9 j9 => (n_3.2 32 i9 j9 (show (3200 : Nat) ∉ _ from by decide)).trans ((fun i9 j9 => (n_1.2 32 i9 j9 (show (3200 : Nat) ∉ _ from by decide)).trans ((fun _ _ => rfl) i9 j9)) i9 j9)) i9 j9)) i9 j9)) i9 j9)) (fun i9 j9 => (n_8.2 33 i9 j9 (show (3300 : Nat) ∉ _ from by decide)).trans ((fun i9 j9 => (n_6.2 33 i9 j9 (show (3300 : Nat) ∉ _ from by decide)).trans ((fun i9 j9 => (n_4.2 33 i9 j9 (show (3300 : Nat) ∉ _ from by decide)).trans ((fun i9 j9 => (n_3.2 33 i9 j9 (show (3300 : Nat) ∉ _ from by decide)).trans ((fun i9 j9 => (n_1.2 33 i9 j9 (show (3300 : Nat) ∉ _ from by decide)).trans ((fun _ _ => rfl) i9 j9)) i9 j9)) i9 j9)) i9 j9)) i9 j9))) hw_9_0 hw_9_1 hw_9_2 hw_9_3)⟩, (by have hq0 : (st_9 3 0 3).toInt = ((st_8 3 0 3) : Int32).toInt := congrArg Int32.toInt ((n_9.2 3 0 3 (show (303 : Nat) ∉ _ from by decide))); have hb1 : (0 : Int) ≤ (st_9 3 0 3).toInt ∧ (st_9 3 0 3).toInt ≤ (801 : Int) := hB_st_9.1 3 0 3; omega), (lO.trans (lO.trans (lO.trans (lO.trans (lO.trans (lO.trans lO.rf (lO.frame n_1.2 (by decide))) (lO.frame n_3.2 (by decide))) (lO.frame n_4.2 (by decide))) (lO.frame n_6.2 (by decide))) (lO.frame n_8.2 (by decide))) hw_9_4)⟩)⟩ (by exact Nat.le_refl _) (by exact Nat.le_refl _) dX7_readDrought_72
          · skip
            refine lv_if_ne (tgt := 63) hx hb dX7_readDrought_58 (by decide) (fun h9 => absurd (by decide) h9) (fun _ => ?_)
            refine lv_iconst (v := 0) hx hb dX7_readDrought_61 (by decide) ?_
            exact gs_iret hx hb hr hlocks hM hS (by decide) ⟨hB_st_8, (Or.inr ⟨rfl, (by unfold pDrought; exact (obM (hw_1_0.resolve_right (fun h9 => absurd h9.1 (by omega))).1 (obM (by rw [← wI_e7]; exact hw_3_0) (obM (hw_4_0.resolve_right (fun h9 => absurd h9.1 (by omega))).1 (obM (hw_6_0.resolve_right (fun h9 => absurd h9.1 (by omega))).1 (obN hw_8_0)))))), (lO.trans (lO.trans (lO.trans (lO.trans (lO.trans lO.rf (lO.frame n_1.2 (by decide))) (lO.frame n_3.2 (by decide))) (lO.frame n_4.2 (by decide))) (lO.frame n_6.2 (by decide))) (lO.frame n_8.2 (by decide)))⟩)⟩ (by exact Nat.le_refl _) (by exact Nat.le_refl _) dX7_readDrought_62
      · have ic_5 := gz_eqn (rfl : r_4.toInt = r_4.toInt) (by decide : ((-1) : Int32).toInt = -1) c_5
        refine lv_iconst (v := 0) hx hb dX7_readDrought_37 (by decide) ?_
        exact gs_iret hx hb hr hlocks hM hS (by decide) ⟨hB_st_4, (Or.inr ⟨rfl, (by unfold pDrought; exact (obM (hw_1_0.resolve_right (fun h9 => absurd h9.1 (by omega))).1 (obM (by rw [← wI_e7]; exact hw_3_0) (obN (hw_4_0.resolve_left (fun h9 => absurd h9.2.1 (by omega))).2)))), (lO.trans (lO.trans (lO.trans lO.rf (lO.frame n_1.2 (by decide))) (lO.frame n_3.2 (by decide))) (lO.frame n_4.2 (by decide)))⟩)⟩ (by exact Nat.le_refl _) (by exact Nat.le_refl _) dX7_readDrought_38
    · skip
      refine lv_if_ne (tgt := 23) hx hb dX7_readDrought_18 (by decide) (fun h9 => absurd (by decide) h9) (fun _ => ?_)
      refine lv_iconst (v := 0) hx hb dX7_readDrought_21 (by decide) ?_
      exact gs_iret hx hb hr hlocks hM hS (by decide) ⟨hB_st_3, (Or.inr ⟨rfl, (by unfold pDrought; exact (obM (hw_1_0.resolve_right (fun h9 => absurd h9.1 (by omega))).1 (obN (by rw [← wI_e7]; exact hw_3_0)))), (lO.trans (lO.trans lO.rf (lO.frame n_1.2 (by decide))) (lO.frame n_3.2 (by decide)))⟩)⟩ (by exact Nat.le_refl _) (by exact Nat.le_refl _) dX7_readDrought_22

set_option maxHeartbeats 4000000 in
set_option maxRecDepth 100000 in
/-- WellCourt$Reader.readDry -/
theorem s_X7_readDry (l : Launch) (G : va_G) (cy : Nat → ClassId) (sK sV : Nat → Nat) (ad : Nat → Nat → Nat) (sz : Nat) (st : gS) (hB : gBd bX st) (z : Int32) (hz_z : (0 : Int) ≤ z.toInt ∧ z.toInt ≤ (1 : Int)) (F : Nat → Int32) (N : Int) (hF : st 2 0 = F) (hN : (st 1 0 1).toInt = N) (hst : (st 3 0 3).toInt ≤ 800) (rs : List Rl) (hL : LXf rs st z.toNatClampNeg) : gsMi l yX7_readDry cX7_readDry 4 (some .boolean) ({ frames := 6, cells := 0, slots := 0, locals := 128 } : Room) G cy sK sV (shX cy ad) cnX ad sz [.ref (ad 3 0), .ref (ad 25 z.toNatClampNeg)] st (fun (r : Int32) (u : gS) => gBN bX kX [301, 302, 303, 304, 305, 3000] st u ∧ ((r = 1 ∧ (∃ r9 : Rl, pDry F N (cLex F N) (st 3 0 3).toInt = some (r9, (u 3 0 3).toInt) ∧ r9.1 = 4 ∧ wfR r9 ∧ LXf (rs ++ [r9]) u z.toNatClampNeg) ∧ ((u 3 0 3).toInt ≤ 800) ∧ (lO z.toNatClampNeg st u)) ∨ (r = 0 ∧ (pDry F N (cLex F N) (st 3 0 3).toInt = none) ∧ (lO z.toNatClampNeg st u)))) := by
  refine gs_start (fun A => gsQi G (shX cy ad) cnX ad _ A) (by decide) (Nat.le_of_ble_eq_true rfl) ?_
  intro p e s m below meth c A ls H hx hb hr hml hlocks hown hts hK hov hE hI hM hm hS hA hl
  have hl : lv_has ls 4 [(0, .ref (ad 3 0)), (1, .ref (ad 25 z.toNatClampNeg))] := hl
  have hB_st : gBN bX kX [301, 302, 303, 304, 305, 3000] st st := gBN.rf hB
  refine lv_aload_n hx hb dX7_readDry_0 rfl (lv_at hl 0 rfl) ?_
  refine lv_iconst (v := 0) hx hb dX7_readDry_1 (by decide) ?_
  refine lv_iconst (v := 5) hx hb dX7_readDry_2 (by decide) ?_
  refine gs_calli (va_runV (As := [.int 0, .int 5]) (rest := []) ⟨hx, hb, hml, hown, hts⟩ (s_X7_readNumber l G cy sK sV ad H.size st hB_st.1 (0 : Int32) (5 : Int32) 0 5 (by decide) (by decide) F N hF hN (by have hb0 : (0 : Int) ≤ (st 3 0 3).toInt ∧ (st 3 0 3).toInt ≤ (801 : Int) := hB_st.1 3 0 3; omega)) ⟨(gz_cb (n := 2) hts gm_464 gm_3 gm_467 ⟨by decide +kernel, by decide +kernel, by decide +kernel⟩ ⟨Nat.le_of_ble_eq_true rfl, Nat.le_of_ble_eq_true rfl⟩), hts _ gm_466, hts _ gs_7⟩ (gs_preV hK hov hE hI hM hm hS hA 3 0 (by decide) rfl rfl) rfl rfl hl.1 rfl (lv_room (Nat.le_of_ble_eq_true rfl)) dX7_readDry_3 ⟨Nat.le_of_ble_eq_true rfl, Nat.le_of_ble_eq_true rfl⟩) hm hS hA (fun r_1 st_1 H locs hw_1 hM hS => ?_)
  obtain ⟨n_1, hw_1⟩ := hw_1
  have hB_st_1 : gBN bX kX [301, 302, 303, 304, 305, 3000] st st_1 := hB_st.call n_1 (by decide)
  have hbhw_10 : (0 : Int) ≤ (st 3 0 3).toInt ∧ (st 3 0 3).toInt ≤ (801 : Int) := hB_st.1 3 0 3
  have hw_1_0 := hw_1
  refine lv_istore_n (lv' := [(2, .int r_1), (0, .ref (ad 3 0)), (1, .ref (ad 25 z.toNatClampNeg))]) hx hb dX7_readDry_6 rfl hl (by decide) rfl (fun ls hl => ?_)
  refine lv_iload_n hx hb dX7_readDry_7 rfl (lv_at hl 0 rfl) ?_
  refine lv_iconst (v := (-1)) hx hb dX7_readDry_8 (by decide) ?_
  refine lv_icmp_eq (tgt := 21) hx hb dX7_readDry_9 (by decide) (fun c_2 => ?_) (fun c_2 => ?_)
  · have ic_2 := gz_eq (rfl : r_1.toInt = r_1.toInt) (by decide : ((-1) : Int32).toInt = -1) c_2
    refine lv_iconst (v := 0) hx hb dX7_readDry_21 (by decide) ?_
    exact gs_iret hx hb hr hlocks hM hS (by decide) ⟨hB_st_1, (Or.inr ⟨rfl, (by unfold pDry; exact (obN (hw_1_0.resolve_left (fun h9 => absurd h9.2.1 (by omega))).2)), (lO.trans lO.rf (lO.frame n_1.2 (by decide)))⟩)⟩ (by exact Nat.le_refl _) (by exact Nat.le_refl _) dX7_readDry_22
  · have ic_2 := gz_ne (rfl : r_1.toInt = r_1.toInt) (by decide : ((-1) : Int32).toInt = -1) c_2
    refine lv_aload_n hx hb dX7_readDry_12 rfl (lv_at hl 1 rfl) ?_
    refine va_ldcS (q := sK 8) hx hb hown (hE.2.2.1 8 (by decide)) dX7_readDry_13 ?_
    refine gs_calli (va_runV (As := [.ref (sK 8)]) (rest := []) ⟨hx, hb, hml, hown, hts⟩ (s_X7_readWord l G cy sK sV ad H.size st_1 hB_st_1.1 8 (by decide) F N (((funext (fun j9 => n_1.2 2 0 j9 (show (200 : Nat) ∉ _ from by decide))).trans rfl).trans hF) ((congrArg Int32.toInt ((n_1.2 1 0 1 (show (101 : Nat) ∉ _ from by decide)))).trans hN) (by have hb0 : (0 : Int) ≤ (st_1 3 0 3).toInt ∧ (st_1 3 0 3).toInt ≤ (801 : Int) := hB_st_1.1 3 0 3; omega)) ⟨(gz_cb (n := 1) hts gm_497 gm_3 gm_500 ⟨by decide +kernel, by decide +kernel, by decide +kernel⟩ ⟨Nat.le_of_ble_eq_true rfl, Nat.le_of_ble_eq_true rfl⟩), hts _ gm_499, hts _ gs_12⟩ (gs_preV hK hov hE hI hM hm hS hA 3 0 (by decide) rfl rfl) rfl rfl hl.1 rfl (lv_room (Nat.le_of_ble_eq_true rfl)) dX7_readDry_15 ⟨Nat.le_of_ble_eq_true rfl, Nat.le_of_ble_eq_true rfl⟩) hm hS hA (fun r_3 st_3 H locs hw_3 hM hS => ?_)
    obtain ⟨n_3, hw_3⟩ := hw_3
    have hB_st_3 : gBN bX kX [301, 302, 303, 304, 305, 3000] st st_3 := hB_st_1.call n_3 (by decide)
    have hbhw_30 : (0 : Int) ≤ (st_1 3 0 3).toInt ∧ (st_1 3 0 3).toInt ≤ (801 : Int) := hB_st_1.1 3 0 3
    rcases hw_3 with ⟨rfl, hw_3_0, hw_3_1⟩ | ⟨rfl, hw_3_0⟩
    · skip
      refine lv_if_ne (tgt := 23) hx hb dX7_readDry_18 (by decide) (fun _ => ?_) (fun h9 => absurd h9 (by decide))
      refine lv_aload_n hx hb dX7_readDry_23 rfl (lv_at hl 1 rfl) ?_
      refine lv_iconst (v := 0) hx hb dX7_readDry_24 (by decide) ?_
      refine lv_iconst (v := 5) hx hb dX7_readDry_25 (by decide) ?_
      refine gs_calli (va_runV (As := [.int 0, .int 5]) (rest := []) ⟨hx, hb, hml, hown, hts⟩ (s_X7_readNumber l G cy sK sV ad H.size st_3 hB_st_3.1 (0 : Int32) (5 : Int32) 0 5 (by decide) (by decide) F N (((funext (fun j9 => n_3.2 2 0 j9 (show (200 : Nat) ∉ _ from by decide))).trans ((funext (fun j9 => n_1.2 2 0 j9 (show (200 : Nat) ∉ _ from by decide))).trans rfl)).trans hF) ((congrArg Int32.toInt (((n_3.2 1 0 1 (show (101 : Nat) ∉ _ from by decide)).trans (n_1.2 1 0 1 (show (101 : Nat) ∉ _ from by decide))))).trans hN) (by have hb0 : (0 : Int) ≤ (st_3 3 0 3).toInt ∧ (st_3 3 0 3).toInt ≤ (801 : Int) := hB_st_3.1 3 0 3; omega)) ⟨(gz_cb (n := 2) hts gm_464 gm_3 gm_467 ⟨by decide +kernel, by decide +kernel, by decide +kernel⟩ ⟨Nat.le_of_ble_eq_true rfl, Nat.le_of_ble_eq_true rfl⟩), hts _ gm_466, hts _ gs_7⟩ (gs_preV hK hov hE hI hM hm hS hA 3 0 (by decide) rfl rfl) rfl rfl hl.1 rfl (lv_room (Nat.le_of_ble_eq_true rfl)) dX7_readDry_26 ⟨Nat.le_of_ble_eq_true rfl, Nat.le_of_ble_eq_true rfl⟩) hm hS hA (fun r_4 st_4 H locs hw_4 hM hS => ?_)
      obtain ⟨n_4, hw_4⟩ := hw_4
      have hB_st_4 : gBN bX kX [301, 302, 303, 304, 305, 3000] st st_4 := hB_st_3.call n_4 (by decide)
      have hbhw_40 : (0 : Int) ≤ (st_3 3 0 3).toInt ∧ (st_3 3 0 3).toInt ≤ (801 : Int) := hB_st_3.1 3 0 3
      have hw_4_0 := hw_4
      refine lv_istore_n (lv' := [(3, .int r_4), (2, .int r_1), (0, .ref (ad 3 0)), (1, .ref (ad 25 z.toNatClampNeg))]) hx hb dX7_readDry_29 rfl hl (by decide) rfl (fun ls hl => ?_)
      refine lv_iload_n hx hb dX7_readDry_30 rfl (lv_at hl 0 rfl) ?_
      refine lv_iconst (v := (-1)) hx hb dX7_readDry_31 (by decide) ?_
      refine lv_icmp_ne (tgt := 37) hx hb dX7_readDry_32 (by decide) (fun c_5 => ?_) (fun c_5 => ?_)
      · have ic_5 := gz_ne (rfl : r_4.toInt = r_4.toInt) (by decide : ((-1) : Int32).toInt = -1) c_5
        refine lv_iload_n hx hb dX7_readDry_37 rfl (lv_at hl 0 rfl) ?_
        refine lv_iload_n hx hb dX7_readDry_38 rfl (lv_at hl 1 rfl) ?_
        refine lv_icmp_ne (tgt := 48) hx hb dX7_readDry_39 (by decide) (fun c_6 => ?_) (fun c_6 => ?_)
        · have ic_6 := gz_ne (rfl : r_4.toInt = r_4.toInt) (rfl : r_1.toInt = r_1.toInt) c_6
          refine lv_aload_n hx hb dX7_readDry_48 rfl (lv_at hl 2 rfl) ?_
          refine lv_bipush (v := 59) hx hb dX7_readDry_49 (by decide) ?_
          refine gs_calli (va_runV (As := [.int 59]) (rest := []) ⟨hx, hb, hml, hown, hts⟩ (s_X7_readSign l G cy sK sV ad H.size st_4 hB_st_4.1 (59 : Int32) 59 (by decide) F N (((funext (fun j9 => n_4.2 2 0 j9 (show (200 : Nat) ∉ _ from by decide))).trans ((funext (fun j9 => n_3.2 2 0 j9 (show (200 : Nat) ∉ _ from by decide))).trans ((funext (fun j9 => n_1.2 2 0 j9 (show (200 : Nat) ∉ _ from by decide))).trans rfl))).trans hF) ((congrArg Int32.toInt (((n_4.2 1 0 1 (show (101 : Nat) ∉ _ from by decide)).trans ((n_3.2 1 0 1 (show (101 : Nat) ∉ _ from by decide)).trans (n_1.2 1 0 1 (show (101 : Nat) ∉ _ from by decide)))))).trans hN) (by have hb0 : (0 : Int) ≤ (st_4 3 0 3).toInt ∧ (st_4 3 0 3).toInt ≤ (801 : Int) := hB_st_4.1 3 0 3; omega)) ⟨(gz_cb (n := 1) hts gm_473 gm_3 gm_476 ⟨by decide +kernel, by decide +kernel, by decide +kernel⟩ ⟨Nat.le_of_ble_eq_true rfl, Nat.le_of_ble_eq_true rfl⟩), hts _ gm_475, hts _ gs_8⟩ (gs_preV hK hov hE hI hM hm hS hA 3 0 (by decide) rfl rfl) rfl rfl hl.1 rfl (lv_room (Nat.le_of_ble_eq_true rfl)) dX7_readDry_51 ⟨Nat.le_of_ble_eq_true rfl, Nat.le_of_ble_eq_true rfl⟩) hm hS hA (fun r_7 st_7 H locs hw_7 hM hS => ?_)
          obtain ⟨n_7, hw_7⟩ := hw_7
          have hB_st_7 : gBN bX kX [301, 302, 303, 304, 305, 3000] st st_7 := hB_st_4.call n_7 (by decide)
          have hbhw_70 : (0 : Int) ≤ (st_4 3 0 3).toInt ∧ (st_4 3 0 3).toInt ≤ (801 : Int) := hB_st_4.1 3 0 3
          rcases hw_7 with ⟨rfl, hw_7_0, hw_7_1⟩ | ⟨rfl, hw_7_0⟩
          · skip
            refine lv_if_ne (tgt := 59) hx hb dX7_readDry_54 (by decide) (fun _ => ?_) (fun h9 => absurd h9 (by decide))
            refine lv_aload_n hx hb dX7_readDry_59 rfl (lv_at hl 3 rfl) ?_
            refine lv_iload_n hx hb dX7_readDry_60 rfl (lv_at hl 1 rfl) ?_
            refine lv_iload_n hx hb dX7_readDry_61 rfl (lv_at hl 0 rfl) ?_
            refine gs_callv (va_runV (As := [.int r_1, .int r_4]) (rest := []) ⟨hx, hb, hml, hown, hts⟩ (s_X4_addDry l G cy sK sV ad H.size st_7 hB_st_7.1 z r_1 r_4 r_1.toInt r_4.toInt rfl rfl hz_z (by first | decide | omega) (by first | decide | omega)) ⟨(gz_cb (n := 2) hts gm_528 gm_10 gm_531 ⟨by decide +kernel, by decide +kernel, by decide +kernel⟩ ⟨Nat.le_of_ble_eq_true rfl, Nat.le_of_ble_eq_true rfl⟩), hts _ gm_529, hts _ gm_530⟩ (gs_preV hK hov hE hI hM hm hS hA 25 z.toNatClampNeg (gs_sel hz_z) rfl rfl) rfl rfl hl.1 rfl (lv_room (Nat.le_of_ble_eq_true rfl)) dX7_readDry_62 ⟨Nat.le_of_ble_eq_true rfl, Nat.le_of_ble_eq_true rfl⟩) hm hS hA (fun st_8 H locs hw_8 hM hS => ?_)
            obtain ⟨n_8, hw_8⟩ := hw_8
            have hB_st_8 : gBN bX kX [301, 302, 303, 304, 305, 3000] st st_8 := hB_st_7.call n_8 (by decide)
            obtain ⟨hw_8_0, hw_8_1⟩ := hw_8
            refine lv_iconst (v := 1) hx hb dX7_readDry_65 (by decide) ?_
            exact gs_iret hx hb hr hlocks hM hS (by decide) ⟨hB_st_8, (Or.inl ⟨rfl, ⟨(4, r_1.toInt, r_4.toInt, 0, 0, []), (by rw [show (st_8 3 0 3).toInt = (st_7 3 0 3).toInt from (congrArg Int32.toInt ((n_8.2 3 0 3 (show (303 : Nat) ∉ _ from by decide))))]; unfold pDry; exact (obM (hw_1_0.resolve_right (fun h9 => absurd h9.1 (by omega))).1 (obM (by rw [← wI_e8]; exact hw_3_0) (obM (hw_4_0.resolve_right (fun h9 => absurd h9.1 (by omega))).1 ((if_neg (by omega)).trans (obM hw_7_0 rfl)))))), rfl, wf_mk ⟨by omega, by omega⟩ ⟨by omega, by omega⟩ ⟨by omega, by omega⟩ ⟨by omega, by omega⟩ ⟨by omega, by omega⟩, (by obtain ⟨k1, e1, e3⟩ := hw_8_0; exact LXf.add (LXf.rows hL (fun i9 j9 => (n_7.2 30 i9 j9 (show (3000 : Nat) ∉ _ from by decide)).trans ((fun i9 j9 => (n_4.2 30 i9 j9 (show (3000 : Nat) ∉ _ from by decide)).trans ((fun i9 j9 => (n_3.2 30 i9 j9 (show (3000 : Nat) ∉ _ from by decide)).trans ((fun i9 j9 => (n_1.2 30 i9 j9 (show (3000 : Nat) ∉ _ from by decide)).trans ((fun _ _ => rfl) i9 j9)) i9 j9)) i9 j9)) i9 j9))) (by omega) (by omega) (by omega) (by omega) e1 e3)⟩, (by have hq0 : (st_8 3 0 3).toInt = ((st_7 3 0 3) : Int32).toInt := congrArg Int32.toInt ((n_8.2 3 0 3 (show (303 : Nat) ∉ _ from by decide))); have hb1 : (0 : Int) ≤ (st_8 3 0 3).toInt ∧ (st_8 3 0 3).toInt ≤ (801 : Int) := hB_st_8.1 3 0 3; omega), (lO.trans (lO.trans (lO.trans (lO.trans (lO.trans lO.rf (lO.frame n_1.2 (by decide))) (lO.frame n_3.2 (by decide))) (lO.frame n_4.2 (by decide))) (lO.frame n_7.2 (by decide))) hw_8_1)⟩)⟩ (by exact Nat.le_refl _) (by exact Nat.le_refl _) dX7_readDry_66
          · skip
            refine lv_if_ne (tgt := 59) hx hb dX7_readDry_54 (by decide) (fun h9 => absurd (by decide) h9) (fun _ => ?_)
            refine lv_iconst (v := 0) hx hb dX7_readDry_57 (by decide) ?_
            exact gs_iret hx hb hr hlocks hM hS (by decide) ⟨hB_st_7, (Or.inr ⟨rfl, (by unfold pDry; exact (obM (hw_1_0.resolve_right (fun h9 => absurd h9.1 (by omega))).1 (obM (by rw [← wI_e8]; exact hw_3_0) (obM (hw_4_0.resolve_right (fun h9 => absurd h9.1 (by omega))).1 ((if_neg (by omega)).trans (obN hw_7_0)))))), (lO.trans (lO.trans (lO.trans (lO.trans lO.rf (lO.frame n_1.2 (by decide))) (lO.frame n_3.2 (by decide))) (lO.frame n_4.2 (by decide))) (lO.frame n_7.2 (by decide)))⟩)⟩ (by exact Nat.le_refl _) (by exact Nat.le_refl _) dX7_readDry_58
        · have ic_6 := gz_eqn (rfl : r_4.toInt = r_4.toInt) (rfl : r_1.toInt = r_1.toInt) c_6
          refine lv_aload_n hx hb dX7_readDry_42 rfl (lv_at hl 2 rfl) ?_
          refine lv_iconst (v := 3) hx hb dX7_readDry_43 (by decide) ?_
          refine gs_calli (va_runV (As := [.int 3]) (rest := []) ⟨hx, hb, hml, hown, hts⟩ (s_X7_fail l G cy sK sV ad H.size st_4 hB_st_4.1 (3 : Int32) ) ⟨(gz_cb (n := 1) hts gm_456 gm_3 gm_459 ⟨by decide +kernel, by decide +kernel, by decide +kernel⟩ ⟨Nat.le_of_ble_eq_true rfl, Nat.le_of_ble_eq_true rfl⟩), hts _ gm_458, hts _ gs_5⟩ (gs_preV hK hov hE hI hM hm hS hA 3 0 (by decide) rfl rfl) rfl rfl hl.1 rfl (lv_room (Nat.le_of_ble_eq_true rfl)) dX7_readDry_44 ⟨Nat.le_of_ble_eq_true rfl, Nat.le_of_ble_eq_true rfl⟩) hm hS hA (fun r_9 st_9 H locs hw_9 hM hS => ?_)
          obtain ⟨n_9, hw_9⟩ := hw_9
          have hB_st_9 : gBN bX kX [301, 302, 303, 304, 305, 3000] st st_9 := hB_st_4.call n_9 (by decide)
          obtain rfl := hw_9
          exact gs_iret hx hb hr hlocks hM hS (by decide) ⟨hB_st_9, (Or.inr ⟨rfl, (by unfold pDry; exact (obM (hw_1_0.resolve_right (fun h9 => absurd h9.1 (by omega))).1 (obM (by rw [← wI_e8]; exact hw_3_0) (by first | exact (obN (hw_4_0.resolve_left (fun h9 => absurd h9.2.1 (by omega))).2) | exact obM (hw_4_0.resolve_right (fun h9 => absurd h9.1 (by omega))).1 (if_pos (by omega)))))), (lO.trans (lO.trans (lO.trans (lO.trans lO.rf (lO.frame n_1.2 (by decide))) (lO.frame n_3.2 (by decide))) (lO.frame n_4.2 (by decide))) (lO.frame n_9.2 (by decide)))⟩)⟩ (by exact Nat.le_refl _) (by exact Nat.le_refl _) dX7_readDry_47
      · have ic_5 := gz_eqn (rfl : r_4.toInt = r_4.toInt) (by decide : ((-1) : Int32).toInt = -1) c_5
        refine lv_iconst (v := 0) hx hb dX7_readDry_35 (by decide) ?_
        exact gs_iret hx hb hr hlocks hM hS (by decide) ⟨hB_st_4, (Or.inr ⟨rfl, (by unfold pDry; exact (obM (hw_1_0.resolve_right (fun h9 => absurd h9.1 (by omega))).1 (obM (by rw [← wI_e8]; exact hw_3_0) (by first | exact (obN (hw_4_0.resolve_left (fun h9 => absurd h9.2.1 (by omega))).2) | exact obM (hw_4_0.resolve_right (fun h9 => absurd h9.1 (by omega))).1 (if_pos (by omega)))))), (lO.trans (lO.trans (lO.trans lO.rf (lO.frame n_1.2 (by decide))) (lO.frame n_3.2 (by decide))) (lO.frame n_4.2 (by decide)))⟩)⟩ (by exact Nat.le_refl _) (by exact Nat.le_refl _) dX7_readDry_36
    · skip
      refine lv_if_ne (tgt := 23) hx hb dX7_readDry_18 (by decide) (fun h9 => absurd (by decide) h9) (fun _ => ?_)
      refine lv_iconst (v := 0) hx hb dX7_readDry_21 (by decide) ?_
      exact gs_iret hx hb hr hlocks hM hS (by decide) ⟨hB_st_3, (Or.inr ⟨rfl, (by unfold pDry; exact (obM (hw_1_0.resolve_right (fun h9 => absurd h9.1 (by omega))).1 (obN (by rw [← wI_e8]; exact hw_3_0)))), (lO.trans (lO.trans lO.rf (lO.frame n_1.2 (by decide))) (lO.frame n_3.2 (by decide)))⟩)⟩ (by exact Nat.le_refl _) (by exact Nat.le_refl _) dX7_readDry_22
