theorem gm_1 : (Jvm.Cond.initialized "WellCourt") ∈ gz_T := gz_at 1 (by decide +kernel) rfl
theorem gm_344 : (Jvm.Cond.methodLink "WellCourt" (93 : Nat) ({ cls := "WellCourt", name := "isWell", desc := "(I)Z" } : Jvm.MethodName)) ∈ gz_T := gz_at 344 (by decide +kernel) rfl
theorem gm_345 : (Jvm.Cond.static ({ cls := "WellCourt", name := "isWell", desc := "(I)Z" } : Jvm.MethodName)) ∈ gz_T := gz_at 345 (by decide +kernel) rfl
theorem gm_346 : (Jvm.Cond.code ({ cls := "WellCourt", name := "isWell", desc := "(I)Z" } : Jvm.MethodName) prog_1_method_30_code (1 : Nat) (Option.some Jvm.ClassFile.FieldType.boolean)) ∈ gz_T := gz_at 346 (by decide +kernel) rfl
theorem gm_347 : (Jvm.Cond.methodLink "WellCourt" (97 : Nat) ({ cls := "WellCourt$Land", name := "isThere", desc := "(I)Z" } : Jvm.MethodName)) ∈ gz_T := gz_at 347 (by decide +kernel) rfl
theorem gm_348 : (Jvm.Cond.instanceMethod ({ cls := "WellCourt$Land", name := "isThere", desc := "(I)Z" } : Jvm.MethodName)) ∈ gz_T := gz_at 348 (by decide +kernel) rfl
theorem gm_349 : (Jvm.Cond.selects "WellCourt$Land" ({ cls := "WellCourt$Land", name := "isThere", desc := "(I)Z" } : Jvm.MethodName) ({ cls := "WellCourt$Land", name := "isThere", desc := "(I)Z" } : Jvm.MethodName)) ∈ gz_T := gz_at 349 (by decide +kernel) rfl
theorem gm_350 : (Jvm.Cond.code ({ cls := "WellCourt$Land", name := "isThere", desc := "(I)Z" } : Jvm.MethodName) prog_5_method_2_code (2 : Nat) (Option.some Jvm.ClassFile.FieldType.boolean)) ∈ gz_T := gz_at 350 (by decide +kernel) rfl
theorem gm_561 : (Jvm.Cond.static ({ cls := "WellCourt", name := "isDate", desc := "(I)Z" } : Jvm.MethodName)) ∈ gz_T := gz_at 561 (by decide +kernel) rfl
theorem gm_562 : (Jvm.Cond.code ({ cls := "WellCourt", name := "isDate", desc := "(I)Z" } : Jvm.MethodName) prog_1_method_33_code (1 : Nat) (Option.some Jvm.ClassFile.FieldType.boolean)) ∈ gz_T := gz_at 562 (by decide +kernel) rfl
theorem gm_705 : (Jvm.Cond.instanceMethod ({ cls := "WellCourt$Flock", name := "isThere", desc := "(I)Z" } : Jvm.MethodName)) ∈ gz_T := gz_at 705 (by decide +kernel) rfl
theorem gm_706 : (Jvm.Cond.selects "WellCourt$Flock" ({ cls := "WellCourt$Flock", name := "isThere", desc := "(I)Z" } : Jvm.MethodName) ({ cls := "WellCourt$Flock", name := "isThere", desc := "(I)Z" } : Jvm.MethodName)) ∈ gz_T := gz_at 706 (by decide +kernel) rfl
theorem gm_707 : (Jvm.Cond.code ({ cls := "WellCourt$Flock", name := "isThere", desc := "(I)Z" } : Jvm.MethodName) prog_4_method_3_code (2 : Nat) (Option.some Jvm.ClassFile.FieldType.boolean)) ∈ gz_T := gz_at 707 (by decide +kernel) rfl
theorem gm_733 : (Jvm.Cond.methodLink "WellCourt$Land" (23 : Nat) ({ cls := "WellCourt$Land", name := "isThere", desc := "(I)Z" } : Jvm.MethodName)) ∈ gz_T := gz_at 733 (by decide +kernel) rfl
theorem gm_738 : (Jvm.Cond.methodLink "WellCourt$Flock" (33 : Nat) ({ cls := "WellCourt$Flock", name := "isThere", desc := "(I)Z" } : Jvm.MethodName)) ∈ gz_T := gz_at 738 (by decide +kernel) rfl
theorem gn_559 : (Jvm.Cond.methodLinkNest "WellCourt$Calendar" (22 : Nat) ({ cls := "WellCourt", name := "isWell", desc := "(I)Z" } : Jvm.MethodName) "WellCourt") ∈ gzN := gz_nest 559 (by decide +kernel) rfl
theorem gn_560 : (Jvm.Cond.methodLinkNest "WellCourt$Calendar" (26 : Nat) ({ cls := "WellCourt", name := "isDate", desc := "(I)Z" } : Jvm.MethodName) "WellCourt") ∈ gzN := gz_nest 560 (by decide +kernel) rfl
theorem dX0_ownerOn_0 : decode cX0_ownerOn 0 = .ok (.iload_n 1, 1) := by decide +kernel
theorem dX0_ownerOn_1 : decode cX0_ownerOn 1 = .ok (.invokestatic 22, 3) := by decide +kernel
theorem dX0_ownerOn_4 : decode cX0_ownerOn 4 = .ok (.ifCond .eq 21, 3) := by decide +kernel
theorem dX0_ownerOn_7 : decode cX0_ownerOn 7 = .ok (.iload_n 2, 1) := by decide +kernel
theorem dX0_ownerOn_8 : decode cX0_ownerOn 8 = .ok (.invokestatic 26, 3) := by decide +kernel
theorem dX0_ownerOn_11 : decode cX0_ownerOn 11 = .ok (.ifCond .eq 14, 3) := by decide +kernel
theorem dX0_ownerOn_14 : decode cX0_ownerOn 14 = .ok (.aload_n 0, 1) := by decide +kernel
theorem dX0_ownerOn_15 : decode cX0_ownerOn 15 = .ok (.getfield 11, 3) := by decide +kernel
theorem dX0_ownerOn_18 : decode cX0_ownerOn 18 = .ok (.iload_n 1, 1) := by decide +kernel
theorem dX0_ownerOn_19 : decode cX0_ownerOn 19 = .ok (.aaload, 1) := by decide +kernel
theorem dX0_ownerOn_20 : decode cX0_ownerOn 20 = .ok (.iload_n 2, 1) := by decide +kernel
theorem dX0_ownerOn_21 : decode cX0_ownerOn 21 = .ok (.iaload, 1) := by decide +kernel
theorem dX0_ownerOn_22 : decode cX0_ownerOn 22 = .ok (.goto 4, 3) := by decide +kernel
theorem dX0_ownerOn_25 : decode cX0_ownerOn 25 = .ok (.iconst (-1), 1) := by decide +kernel
theorem dX0_ownerOn_26 : decode cX0_ownerOn 26 = .ok (.ireturn, 1) := by decide +kernel
theorem dX2_isThere_0 : decode cX2_isThere 0 = .ok (.aload_n 0, 1) := by decide +kernel
theorem dX2_isThere_1 : decode cX2_isThere 1 = .ok (.getfield 9, 3) := by decide +kernel
theorem dX2_isThere_4 : decode cX2_isThere 4 = .ok (.iload_n 1, 1) := by decide +kernel
theorem dX2_isThere_5 : decode cX2_isThere 5 = .ok (.iaload, 1) := by decide +kernel
theorem dX2_isThere_6 : decode cX2_isThere 6 = .ok (.iconst (-1), 1) := by decide +kernel
theorem dX2_isThere_7 : decode cX2_isThere 7 = .ok (.if_icmp .eq 7, 3) := by decide +kernel
theorem dX2_isThere_14 : decode cX2_isThere 14 = .ok (.iconst 0, 1) := by decide +kernel
theorem dX2_isThere_15 : decode cX2_isThere 15 = .ok (.ireturn, 1) := by decide +kernel
theorem dX2_size_0 : decode cX2_size 0 = .ok (.iconst 0, 1) := by decide +kernel
theorem dX2_size_1 : decode cX2_size 1 = .ok (.istore_n 1, 1) := by decide +kernel
theorem dX2_size_2 : decode cX2_size 2 = .ok (.iconst 0, 1) := by decide +kernel
theorem dX2_size_3 : decode cX2_size 3 = .ok (.istore_n 2, 1) := by decide +kernel
theorem dX2_size_4 : decode cX2_size 4 = .ok (.iload_n 2, 1) := by decide +kernel
theorem dX2_size_5 : decode cX2_size 5 = .ok (.iconst 4, 1) := by decide +kernel
theorem dX2_size_6 : decode cX2_size 6 = .ok (.if_icmp .ge 25, 3) := by decide +kernel
theorem dX2_size_9 : decode cX2_size 9 = .ok (.iload_n 1, 1) := by decide +kernel
theorem dX2_size_10 : decode cX2_size 10 = .ok (.aload_n 0, 1) := by decide +kernel
theorem dX2_size_11 : decode cX2_size 11 = .ok (.iload_n 2, 1) := by decide +kernel
theorem dX2_size_12 : decode cX2_size 12 = .ok (.invokevirtual 33, 3) := by decide +kernel
theorem dX2_size_15 : decode cX2_size 15 = .ok (.ifCond .eq 7, 3) := by decide +kernel
theorem dX2_size_22 : decode cX2_size 22 = .ok (.iconst 0, 1) := by decide +kernel
theorem dX2_size_23 : decode cX2_size 23 = .ok (.iadd, 1) := by decide +kernel
theorem dX2_size_24 : decode cX2_size 24 = .ok (.istore_n 1, 1) := by decide +kernel
theorem dX2_size_25 : decode cX2_size 25 = .ok (.iinc 2 1, 3) := by decide +kernel
theorem dX2_size_28 : decode cX2_size 28 = .ok (.goto (-24), 3) := by decide +kernel
theorem dX2_size_31 : decode cX2_size 31 = .ok (.iload_n 1, 1) := by decide +kernel
theorem dX2_size_32 : decode cX2_size 32 = .ok (.ireturn, 1) := by decide +kernel
theorem dX3_isThere_0 : decode cX3_isThere 0 = .ok (.aload_n 0, 1) := by decide +kernel
theorem dX3_isThere_1 : decode cX3_isThere 1 = .ok (.getfield 9, 3) := by decide +kernel
theorem dX3_isThere_4 : decode cX3_isThere 4 = .ok (.iload_n 1, 1) := by decide +kernel
theorem dX3_isThere_5 : decode cX3_isThere 5 = .ok (.iaload, 1) := by decide +kernel
theorem dX3_isThere_6 : decode cX3_isThere 6 = .ok (.ifCond .le 7, 3) := by decide +kernel
theorem dX3_isThere_13 : decode cX3_isThere 13 = .ok (.iconst 0, 1) := by decide +kernel
theorem dX3_isThere_14 : decode cX3_isThere 14 = .ok (.ireturn, 1) := by decide +kernel
theorem dX3_size_0 : decode cX3_size 0 = .ok (.iconst 0, 1) := by decide +kernel
theorem dX3_size_1 : decode cX3_size 1 = .ok (.istore_n 1, 1) := by decide +kernel
theorem dX3_size_2 : decode cX3_size 2 = .ok (.iconst 0, 1) := by decide +kernel
theorem dX3_size_3 : decode cX3_size 3 = .ok (.istore_n 2, 1) := by decide +kernel
theorem dX3_size_4 : decode cX3_size 4 = .ok (.iload_n 2, 1) := by decide +kernel
theorem dX3_size_5 : decode cX3_size 5 = .ok (.bipush 6, 2) := by decide +kernel
theorem dX3_size_7 : decode cX3_size 7 = .ok (.if_icmp .ge 25, 3) := by decide +kernel
theorem dX3_size_10 : decode cX3_size 10 = .ok (.iload_n 1, 1) := by decide +kernel
theorem dX3_size_11 : decode cX3_size 11 = .ok (.aload_n 0, 1) := by decide +kernel
theorem dX3_size_12 : decode cX3_size 12 = .ok (.iload_n 2, 1) := by decide +kernel
theorem dX3_size_13 : decode cX3_size 13 = .ok (.invokevirtual 23, 3) := by decide +kernel
theorem dX3_size_16 : decode cX3_size 16 = .ok (.ifCond .eq 7, 3) := by decide +kernel
theorem dX3_size_23 : decode cX3_size 23 = .ok (.iconst 0, 1) := by decide +kernel
theorem dX3_size_24 : decode cX3_size 24 = .ok (.iadd, 1) := by decide +kernel
theorem dX3_size_25 : decode cX3_size 25 = .ok (.istore_n 1, 1) := by decide +kernel
theorem dX3_size_26 : decode cX3_size 26 = .ok (.iinc 2 1, 3) := by decide +kernel
theorem dX3_size_29 : decode cX3_size 29 = .ok (.goto (-25), 3) := by decide +kernel
theorem dX3_size_32 : decode cX3_size 32 = .ok (.iload_n 1, 1) := by decide +kernel
theorem dX3_size_33 : decode cX3_size 33 = .ok (.ireturn, 1) := by decide +kernel
theorem dX4_droughtOwner_0 : decode cX4_droughtOwner 0 = .ok (.iconst 0, 1) := by decide +kernel
theorem dX4_droughtOwner_1 : decode cX4_droughtOwner 1 = .ok (.istore_n 3, 1) := by decide +kernel
theorem dX4_droughtOwner_2 : decode cX4_droughtOwner 2 = .ok (.iload_n 3, 1) := by decide +kernel
theorem dX4_droughtOwner_3 : decode cX4_droughtOwner 3 = .ok (.aload_n 0, 1) := by decide +kernel
theorem dX4_droughtOwner_4 : decode cX4_droughtOwner 4 = .ok (.getfield 30, 3) := by decide +kernel
theorem dX4_droughtOwner_7 : decode cX4_droughtOwner 7 = .ok (.if_icmp .ge 41, 3) := by decide +kernel
theorem dX4_droughtOwner_48 : decode cX4_droughtOwner 48 = .ok (.iconst (-1), 1) := by decide +kernel
theorem dX4_droughtOwner_49 : decode cX4_droughtOwner 49 = .ok (.ireturn, 1) := by decide +kernel
theorem dX4_turnOn_0 : decode cX4_turnOn 0 = .ok (.aload_n 0, 1) := by decide +kernel
theorem dX4_turnOn_1 : decode cX4_turnOn 1 = .ok (.getfield 20, 3) := by decide +kernel
theorem dX4_turnOn_4 : decode cX4_turnOn 4 = .ok (.iload_n 1, 1) := by decide +kernel
theorem dX4_turnOn_5 : decode cX4_turnOn 5 = .ok (.iaload, 1) := by decide +kernel
theorem dX4_turnOn_6 : decode cX4_turnOn 6 = .ok (.istore_n 3, 1) := by decide +kernel
theorem dX4_turnOn_7 : decode cX4_turnOn 7 = .ok (.iload_n 3, 1) := by decide +kernel
theorem dX4_turnOn_8 : decode cX4_turnOn 8 = .ok (.ifCond .le 16, 3) := by decide +kernel
theorem dX4_turnOn_24 : decode cX4_turnOn 24 = .ok (.iconst (-1), 1) := by decide +kernel
theorem dX4_turnOn_25 : decode cX4_turnOn 25 = .ok (.ireturn, 1) := by decide +kernel
theorem dX5_has_0 : decode cX5_has 0 = .ok (.iload_n 1, 1) := by decide +kernel
theorem dX5_has_1 : decode cX5_has 1 = .ok (.ifCond .lt 15, 3) := by decide +kernel
theorem dX5_has_4 : decode cX5_has 4 = .ok (.iload_n 1, 1) := by decide +kernel
theorem dX5_has_5 : decode cX5_has 5 = .ok (.aload_n 0, 1) := by decide +kernel
theorem dX5_has_6 : decode cX5_has 6 = .ok (.getfield 16, 3) := by decide +kernel
theorem dX5_has_9 : decode cX5_has 9 = .ok (.if_icmp .ge 7, 3) := by decide +kernel
theorem dX5_has_12 : decode cX5_has 12 = .ok (.iconst 1, 1) := by decide +kernel
theorem dX5_has_13 : decode cX5_has 13 = .ok (.goto 4, 3) := by decide +kernel
theorem dX5_has_16 : decode cX5_has 16 = .ok (.iconst 0, 1) := by decide +kernel
theorem dX5_has_17 : decode cX5_has 17 = .ok (.ireturn, 1) := by decide +kernel
theorem dX7_isBlank_0 : decode cX7_isBlank 0 = .ok (.iload_n 0, 1) := by decide +kernel
theorem dX7_isBlank_1 : decode cX7_isBlank 1 = .ok (.bipush 32, 2) := by decide +kernel
theorem dX7_isBlank_3 : decode cX7_isBlank 3 = .ok (.if_icmp .eq 9, 3) := by decide +kernel
theorem dX7_isBlank_6 : decode cX7_isBlank 6 = .ok (.iload_n 0, 1) := by decide +kernel
theorem dX7_isBlank_7 : decode cX7_isBlank 7 = .ok (.bipush 10, 2) := by decide +kernel
theorem dX7_isBlank_9 : decode cX7_isBlank 9 = .ok (.if_icmp .ne 7, 3) := by decide +kernel
theorem dX7_isBlank_12 : decode cX7_isBlank 12 = .ok (.iconst 1, 1) := by decide +kernel
theorem dX7_isBlank_13 : decode cX7_isBlank 13 = .ok (.goto 4, 3) := by decide +kernel
theorem dX7_isBlank_16 : decode cX7_isBlank 16 = .ok (.iconst 0, 1) := by decide +kernel
theorem dX7_isBlank_17 : decode cX7_isBlank 17 = .ok (.ireturn, 1) := by decide +kernel
theorem dX8_byteAt_0 : decode cX8_byteAt 0 = .ok (.iload_n 1, 1) := by decide +kernel
theorem dX8_byteAt_1 : decode cX8_byteAt 1 = .ok (.ifCond .lt 11, 3) := by decide +kernel
theorem dX8_byteAt_4 : decode cX8_byteAt 4 = .ok (.iload_n 1, 1) := by decide +kernel
theorem dX8_byteAt_5 : decode cX8_byteAt 5 = .ok (.aload_n 0, 1) := by decide +kernel
theorem dX8_byteAt_6 : decode cX8_byteAt 6 = .ok (.getfield 15, 3) := by decide +kernel
theorem dX8_byteAt_9 : decode cX8_byteAt 9 = .ok (.if_icmp .lt 7, 3) := by decide +kernel
theorem dX8_byteAt_12 : decode cX8_byteAt 12 = .ok (.iconst (-1), 1) := by decide +kernel
theorem dX8_byteAt_13 : decode cX8_byteAt 13 = .ok (.goto 13, 3) := by decide +kernel
theorem dX8_byteAt_16 : decode cX8_byteAt 16 = .ok (.aload_n 0, 1) := by decide +kernel
theorem dX8_byteAt_17 : decode cX8_byteAt 17 = .ok (.getfield 9, 3) := by decide +kernel
theorem dX8_byteAt_20 : decode cX8_byteAt 20 = .ok (.iload_n 1, 1) := by decide +kernel
theorem dX8_byteAt_21 : decode cX8_byteAt 21 = .ok (.baload, 1) := by decide +kernel
theorem dX8_byteAt_26 : decode cX8_byteAt 26 = .ok (.ireturn, 1) := by decide +kernel
theorem dX9_isClan_0 : decode cX9_isClan 0 = .ok (.iload_n 0, 1) := by decide +kernel
theorem dX9_isClan_1 : decode cX9_isClan 1 = .ok (.ifCond .lt 13, 3) := by decide +kernel
theorem dX9_isClan_4 : decode cX9_isClan 4 = .ok (.iload_n 0, 1) := by decide +kernel
theorem dX9_isClan_5 : decode cX9_isClan 5 = .ok (.bipush 6, 2) := by decide +kernel
theorem dX9_isClan_7 : decode cX9_isClan 7 = .ok (.if_icmp .ge 7, 3) := by decide +kernel
theorem dX9_isClan_10 : decode cX9_isClan 10 = .ok (.iconst 1, 1) := by decide +kernel
theorem dX9_isClan_11 : decode cX9_isClan 11 = .ok (.goto 4, 3) := by decide +kernel
theorem dX9_isClan_14 : decode cX9_isClan 14 = .ok (.iconst 0, 1) := by decide +kernel
theorem dX9_isClan_15 : decode cX9_isClan 15 = .ok (.ireturn, 1) := by decide +kernel
theorem dX9_isDate_0 : decode cX9_isDate 0 = .ok (.iload_n 0, 1) := by decide +kernel
theorem dX9_isDate_1 : decode cX9_isDate 1 = .ok (.ifCond .lt 14, 3) := by decide +kernel
theorem dX9_isDate_4 : decode cX9_isDate 4 = .ok (.iload_n 0, 1) := by decide +kernel
theorem dX9_isDate_5 : decode cX9_isDate 5 = .ok (.sipush 199, 3) := by decide +kernel
theorem dX9_isDate_8 : decode cX9_isDate 8 = .ok (.if_icmp .gt 7, 3) := by decide +kernel
theorem dX9_isDate_11 : decode cX9_isDate 11 = .ok (.iconst 1, 1) := by decide +kernel
theorem dX9_isDate_12 : decode cX9_isDate 12 = .ok (.goto 4, 3) := by decide +kernel
theorem dX9_isDate_15 : decode cX9_isDate 15 = .ok (.iconst 0, 1) := by decide +kernel
theorem dX9_isDate_16 : decode cX9_isDate 16 = .ok (.ireturn, 1) := by decide +kernel
theorem dX9_isHerd_0 : decode cX9_isHerd 0 = .ok (.iload_n 0, 1) := by decide +kernel
theorem dX9_isHerd_1 : decode cX9_isHerd 1 = .ok (.ifCond .lt 12, 3) := by decide +kernel
theorem dX9_isHerd_4 : decode cX9_isHerd 4 = .ok (.iload_n 0, 1) := by decide +kernel
theorem dX9_isHerd_5 : decode cX9_isHerd 5 = .ok (.iconst 4, 1) := by decide +kernel
theorem dX9_isHerd_6 : decode cX9_isHerd 6 = .ok (.if_icmp .ge 7, 3) := by decide +kernel
theorem dX9_isHerd_9 : decode cX9_isHerd 9 = .ok (.iconst 1, 1) := by decide +kernel
theorem dX9_isHerd_10 : decode cX9_isHerd 10 = .ok (.goto 4, 3) := by decide +kernel
theorem dX9_isHerd_13 : decode cX9_isHerd 13 = .ok (.iconst 0, 1) := by decide +kernel
theorem dX9_isHerd_14 : decode cX9_isHerd 14 = .ok (.ireturn, 1) := by decide +kernel
theorem dX9_isWell_0 : decode cX9_isWell 0 = .ok (.iload_n 0, 1) := by decide +kernel
theorem dX9_isWell_1 : decode cX9_isWell 1 = .ok (.ifCond .lt 13, 3) := by decide +kernel
theorem dX9_isWell_4 : decode cX9_isWell 4 = .ok (.iload_n 0, 1) := by decide +kernel
theorem dX9_isWell_5 : decode cX9_isWell 5 = .ok (.bipush 6, 2) := by decide +kernel
theorem dX9_isWell_7 : decode cX9_isWell 7 = .ok (.if_icmp .ge 7, 3) := by decide +kernel
theorem dX9_isWell_10 : decode cX9_isWell 10 = .ok (.iconst 1, 1) := by decide +kernel
theorem dX9_isWell_11 : decode cX9_isWell 11 = .ok (.goto 4, 3) := by decide +kernel
theorem dX9_isWell_14 : decode cX9_isWell 14 = .ok (.iconst 0, 1) := by decide +kernel
theorem dX9_isWell_15 : decode cX9_isWell 15 = .ok (.ireturn, 1) := by decide +kernel
theorem dX9_isWellThere_0 : decode cX9_isWellThere 0 = .ok (.iload_n 1, 1) := by decide +kernel
theorem dX9_isWellThere_1 : decode cX9_isWellThere 1 = .ok (.invokestatic 93, 3) := by decide +kernel
theorem dX9_isWellThere_4 : decode cX9_isWellThere 4 = .ok (.ifCond .eq 18, 3) := by decide +kernel
theorem dX9_isWellThere_7 : decode cX9_isWellThere 7 = .ok (.aload_n 0, 1) := by decide +kernel
theorem dX9_isWellThere_8 : decode cX9_isWellThere 8 = .ok (.getfield 28, 3) := by decide +kernel
theorem dX9_isWellThere_11 : decode cX9_isWellThere 11 = .ok (.iload_n 1, 1) := by decide +kernel
theorem dX9_isWellThere_12 : decode cX9_isWellThere 12 = .ok (.invokevirtual 97, 3) := by decide +kernel
theorem dX9_isWellThere_15 : decode cX9_isWellThere 15 = .ok (.ifCond .eq 7, 3) := by decide +kernel
theorem dX9_isWellThere_22 : decode cX9_isWellThere 22 = .ok (.iconst 0, 1) := by decide +kernel
theorem dX9_isWellThere_23 : decode cX9_isWellThere 23 = .ok (.ireturn, 1) := by decide +kernel
theorem dX9_isWithin_0 : decode cX9_isWithin 0 = .ok (.iload_n 0, 1) := by decide +kernel
theorem dX9_isWithin_1 : decode cX9_isWithin 1 = .ok (.iload_n 1, 1) := by decide +kernel
theorem dX9_isWithin_2 : decode cX9_isWithin 2 = .ok (.if_icmp .lt 12, 3) := by decide +kernel
theorem dX9_isWithin_5 : decode cX9_isWithin 5 = .ok (.iload_n 0, 1) := by decide +kernel
theorem dX9_isWithin_6 : decode cX9_isWithin 6 = .ok (.iload_n 2, 1) := by decide +kernel
theorem dX9_isWithin_7 : decode cX9_isWithin 7 = .ok (.if_icmp .gt 7, 3) := by decide +kernel
theorem dX9_isWithin_10 : decode cX9_isWithin 10 = .ok (.iconst 1, 1) := by decide +kernel
theorem dX9_isWithin_11 : decode cX9_isWithin 11 = .ok (.goto 4, 3) := by decide +kernel
theorem dX9_isWithin_14 : decode cX9_isWithin 14 = .ok (.iconst 0, 1) := by decide +kernel
theorem dX9_isWithin_15 : decode cX9_isWithin 15 = .ok (.ireturn, 1) := by decide +kernel
set_option maxHeartbeats 4000000 in
set_option maxRecDepth 100000 in
/-- WellCourt.isWithin -/
theorem c_isWithin (l : Launch) (G : va_G) (cy : Nat → ClassId) (sz : Nat) (x : Int32) (y : Int32) (z : Int32) (Xx : Int) (Xy : Int) (Xz : Int) (kx : x.toInt = Xx) (ky : y.toInt = Xy) (kz : z.toInt = Xz)  : gMi l yX9_isWithin cX9_isWithin 3 (some .boolean) ({ frames := 0, cells := 0, slots := 0, locals := 0 }) G cy sz [.int x, .int y, .int z] [] (fun (r : Int32) (u : Unit) => (r = 1 ∧ (Xy ≤ Xx) ∧ (Xx ≤ Xz)) ∨ (r = 0 ∧ (Xx < Xy ∨ Xz < Xx))) (fun (u : Unit) => []) := by
  refine gz_start (fun A => gQi G cy _ _ A) (by decide) (Nat.le_of_ble_eq_true rfl) ?_
  intro p e s m below meth c A ls H hx hb hr hml hlocks hin hown hts hK hov hsz hP hD hS hA hl
  have hl : lv_has ls 3 [(0, .int x), (1, .int y), (2, .int z)] := hl
  refine lv_iload_n hx hb dX9_isWithin_0 rfl (lv_at hl 0 rfl) ?_
  refine lv_iload_n hx hb dX9_isWithin_1 rfl (lv_at hl 1 rfl) ?_
  refine lv_icmp_lt (tgt := 14) hx hb dX9_isWithin_2 (by decide) (fun c_1 => ?_) (fun c_1 => ?_)
  · have ic_1 := gz_lt (rfl : x.toInt = x.toInt) (rfl : y.toInt = y.toInt) c_1
    refine lv_iconst (v := 0) hx hb dX9_isWithin_14 (by decide) ?_
    exact gz_iret (cf := (fun (u : Unit) => [])) (post := (fun (r : Int32) (u : Unit) => (r = 1 ∧ (Xy ≤ Xx) ∧ (Xx ≤ Xz)) ∨ (r = 0 ∧ (Xx < Xy ∨ Xz < Xx)))) hx hb hr hlocks hK hP hD hS () [] (by decide) (Or.inr (⟨rfl, by omega⟩)) (by decide) rfl (Nat.le_of_ble_eq_true rfl) (Nat.le_of_ble_eq_true rfl) dX9_isWithin_15
  · have ic_1 := gz_nlt (rfl : x.toInt = x.toInt) (rfl : y.toInt = y.toInt) c_1
    refine lv_iload_n hx hb dX9_isWithin_5 rfl (lv_at hl 0 rfl) ?_
    refine lv_iload_n hx hb dX9_isWithin_6 rfl (lv_at hl 2 rfl) ?_
    refine lv_icmp_gt (tgt := 14) hx hb dX9_isWithin_7 (by decide) (fun c_2 => ?_) (fun c_2 => ?_)
    · have ic_2 := gz_lt (rfl : z.toInt = z.toInt) (rfl : x.toInt = x.toInt) c_2
      refine lv_iconst (v := 0) hx hb dX9_isWithin_14 (by decide) ?_
      exact gz_iret (cf := (fun (u : Unit) => [])) (post := (fun (r : Int32) (u : Unit) => (r = 1 ∧ (Xy ≤ Xx) ∧ (Xx ≤ Xz)) ∨ (r = 0 ∧ (Xx < Xy ∨ Xz < Xx)))) hx hb hr hlocks hK hP hD hS () [] (by decide) (Or.inr (⟨rfl, by omega⟩)) (by decide) rfl (Nat.le_of_ble_eq_true rfl) (Nat.le_of_ble_eq_true rfl) dX9_isWithin_15
    · have ic_2 := gz_nlt (rfl : z.toInt = z.toInt) (rfl : x.toInt = x.toInt) c_2
      refine lv_iconst (v := 1) hx hb dX9_isWithin_10 (by decide) ?_
      refine lv_goto (tgt := 15) hx hb dX9_isWithin_11 (by decide) ?_
      exact gz_iret (cf := (fun (u : Unit) => [])) (post := (fun (r : Int32) (u : Unit) => (r = 1 ∧ (Xy ≤ Xx) ∧ (Xx ≤ Xz)) ∨ (r = 0 ∧ (Xx < Xy ∨ Xz < Xx)))) hx hb hr hlocks hK hP hD hS () [] (by decide) (Or.inl (⟨rfl, by omega, by omega⟩)) (by decide) rfl (Nat.le_of_ble_eq_true rfl) (Nat.le_of_ble_eq_true rfl) dX9_isWithin_15

set_option maxHeartbeats 4000000 in
set_option maxRecDepth 100000 in
/-- WellCourt.isWell -/
theorem c_isWell (l : Launch) (G : va_G) (cy : Nat → ClassId) (sz : Nat) (x : Int32) (Xx : Int) (kx : x.toInt = Xx)  : gMi l yX9_isWell cX9_isWell 1 (some .boolean) ({ frames := 0, cells := 0, slots := 0, locals := 0 }) G cy sz [.int x] [] (fun (r : Int32) (u : Unit) => (r = 1 ∧ (0 ≤ Xx) ∧ (Xx ≤ 5)) ∨ (r = 0 ∧ (Xx < 0 ∨ 5 < Xx))) (fun (u : Unit) => []) := by
  refine gz_start (fun A => gQi G cy _ _ A) (by decide) (Nat.le_of_ble_eq_true rfl) ?_
  intro p e s m below meth c A ls H hx hb hr hml hlocks hin hown hts hK hov hsz hP hD hS hA hl
  have hl : lv_has ls 1 [(0, .int x)] := hl
  refine lv_iload_n hx hb dX9_isWell_0 rfl (lv_at hl 0 rfl) ?_
  refine lv_if_lt (tgt := 14) hx hb dX9_isWell_1 (by decide) (fun c_1 => ?_) (fun c_1 => ?_)
  · have ic_1 := gz_lt (rfl : x.toInt = x.toInt) (by decide : (0 : Int32).toInt = 0) c_1
    refine lv_iconst (v := 0) hx hb dX9_isWell_14 (by decide) ?_
    exact gz_iret (cf := (fun (u : Unit) => [])) (post := (fun (r : Int32) (u : Unit) => (r = 1 ∧ (0 ≤ Xx) ∧ (Xx ≤ 5)) ∨ (r = 0 ∧ (Xx < 0 ∨ 5 < Xx)))) hx hb hr hlocks hK hP hD hS () [] (by decide) (Or.inr (⟨rfl, by omega⟩)) (by decide) rfl (Nat.le_of_ble_eq_true rfl) (Nat.le_of_ble_eq_true rfl) dX9_isWell_15
  · have ic_1 := gz_nlt (rfl : x.toInt = x.toInt) (by decide : (0 : Int32).toInt = 0) c_1
    refine lv_iload_n hx hb dX9_isWell_4 rfl (lv_at hl 0 rfl) ?_
    refine lv_bipush (v := 6) hx hb dX9_isWell_5 (by decide) ?_
    refine lv_icmp_ge (tgt := 14) hx hb dX9_isWell_7 (by decide) (fun c_2 => ?_) (fun c_2 => ?_)
    · have ic_2 := gz_le (by decide : (6 : Int32).toInt = 6) (rfl : x.toInt = x.toInt) c_2
      refine lv_iconst (v := 0) hx hb dX9_isWell_14 (by decide) ?_
      exact gz_iret (cf := (fun (u : Unit) => [])) (post := (fun (r : Int32) (u : Unit) => (r = 1 ∧ (0 ≤ Xx) ∧ (Xx ≤ 5)) ∨ (r = 0 ∧ (Xx < 0 ∨ 5 < Xx)))) hx hb hr hlocks hK hP hD hS () [] (by decide) (Or.inr (⟨rfl, by omega⟩)) (by decide) rfl (Nat.le_of_ble_eq_true rfl) (Nat.le_of_ble_eq_true rfl) dX9_isWell_15
    · have ic_2 := gz_nle (by decide : (6 : Int32).toInt = 6) (rfl : x.toInt = x.toInt) c_2
      refine lv_iconst (v := 1) hx hb dX9_isWell_10 (by decide) ?_
      refine lv_goto (tgt := 15) hx hb dX9_isWell_11 (by decide) ?_
      exact gz_iret (cf := (fun (u : Unit) => [])) (post := (fun (r : Int32) (u : Unit) => (r = 1 ∧ (0 ≤ Xx) ∧ (Xx ≤ 5)) ∨ (r = 0 ∧ (Xx < 0 ∨ 5 < Xx)))) hx hb hr hlocks hK hP hD hS () [] (by decide) (Or.inl (⟨rfl, by omega, by omega⟩)) (by decide) rfl (Nat.le_of_ble_eq_true rfl) (Nat.le_of_ble_eq_true rfl) dX9_isWell_15

set_option maxHeartbeats 4000000 in
set_option maxRecDepth 100000 in
/-- WellCourt.isClan -/
theorem c_isClan (l : Launch) (G : va_G) (cy : Nat → ClassId) (sz : Nat) (x : Int32) (Xx : Int) (kx : x.toInt = Xx)  : gMi l yX9_isClan cX9_isClan 1 (some .boolean) ({ frames := 0, cells := 0, slots := 0, locals := 0 }) G cy sz [.int x] [] (fun (r : Int32) (u : Unit) => (r = 1 ∧ (0 ≤ Xx) ∧ (Xx ≤ 5)) ∨ (r = 0 ∧ (Xx < 0 ∨ 5 < Xx))) (fun (u : Unit) => []) := by
  refine gz_start (fun A => gQi G cy _ _ A) (by decide) (Nat.le_of_ble_eq_true rfl) ?_
  intro p e s m below meth c A ls H hx hb hr hml hlocks hin hown hts hK hov hsz hP hD hS hA hl
  have hl : lv_has ls 1 [(0, .int x)] := hl
  refine lv_iload_n hx hb dX9_isClan_0 rfl (lv_at hl 0 rfl) ?_
  refine lv_if_lt (tgt := 14) hx hb dX9_isClan_1 (by decide) (fun c_1 => ?_) (fun c_1 => ?_)
  · have ic_1 := gz_lt (rfl : x.toInt = x.toInt) (by decide : (0 : Int32).toInt = 0) c_1
    refine lv_iconst (v := 0) hx hb dX9_isClan_14 (by decide) ?_
    exact gz_iret (cf := (fun (u : Unit) => [])) (post := (fun (r : Int32) (u : Unit) => (r = 1 ∧ (0 ≤ Xx) ∧ (Xx ≤ 5)) ∨ (r = 0 ∧ (Xx < 0 ∨ 5 < Xx)))) hx hb hr hlocks hK hP hD hS () [] (by decide) (Or.inr (⟨rfl, by omega⟩)) (by decide) rfl (Nat.le_of_ble_eq_true rfl) (Nat.le_of_ble_eq_true rfl) dX9_isClan_15
  · have ic_1 := gz_nlt (rfl : x.toInt = x.toInt) (by decide : (0 : Int32).toInt = 0) c_1
    refine lv_iload_n hx hb dX9_isClan_4 rfl (lv_at hl 0 rfl) ?_
    refine lv_bipush (v := 6) hx hb dX9_isClan_5 (by decide) ?_
    refine lv_icmp_ge (tgt := 14) hx hb dX9_isClan_7 (by decide) (fun c_2 => ?_) (fun c_2 => ?_)
    · have ic_2 := gz_le (by decide : (6 : Int32).toInt = 6) (rfl : x.toInt = x.toInt) c_2
      refine lv_iconst (v := 0) hx hb dX9_isClan_14 (by decide) ?_
      exact gz_iret (cf := (fun (u : Unit) => [])) (post := (fun (r : Int32) (u : Unit) => (r = 1 ∧ (0 ≤ Xx) ∧ (Xx ≤ 5)) ∨ (r = 0 ∧ (Xx < 0 ∨ 5 < Xx)))) hx hb hr hlocks hK hP hD hS () [] (by decide) (Or.inr (⟨rfl, by omega⟩)) (by decide) rfl (Nat.le_of_ble_eq_true rfl) (Nat.le_of_ble_eq_true rfl) dX9_isClan_15
    · have ic_2 := gz_nle (by decide : (6 : Int32).toInt = 6) (rfl : x.toInt = x.toInt) c_2
      refine lv_iconst (v := 1) hx hb dX9_isClan_10 (by decide) ?_
      refine lv_goto (tgt := 15) hx hb dX9_isClan_11 (by decide) ?_
      exact gz_iret (cf := (fun (u : Unit) => [])) (post := (fun (r : Int32) (u : Unit) => (r = 1 ∧ (0 ≤ Xx) ∧ (Xx ≤ 5)) ∨ (r = 0 ∧ (Xx < 0 ∨ 5 < Xx)))) hx hb hr hlocks hK hP hD hS () [] (by decide) (Or.inl (⟨rfl, by omega, by omega⟩)) (by decide) rfl (Nat.le_of_ble_eq_true rfl) (Nat.le_of_ble_eq_true rfl) dX9_isClan_15

set_option maxHeartbeats 4000000 in
set_option maxRecDepth 100000 in
/-- WellCourt.isHerd -/
theorem c_isHerd (l : Launch) (G : va_G) (cy : Nat → ClassId) (sz : Nat) (x : Int32) (Xx : Int) (kx : x.toInt = Xx)  : gMi l yX9_isHerd cX9_isHerd 1 (some .boolean) ({ frames := 0, cells := 0, slots := 0, locals := 0 }) G cy sz [.int x] [] (fun (r : Int32) (u : Unit) => (r = 1 ∧ (0 ≤ Xx) ∧ (Xx ≤ 3)) ∨ (r = 0 ∧ (Xx < 0 ∨ 3 < Xx))) (fun (u : Unit) => []) := by
  refine gz_start (fun A => gQi G cy _ _ A) (by decide) (Nat.le_of_ble_eq_true rfl) ?_
  intro p e s m below meth c A ls H hx hb hr hml hlocks hin hown hts hK hov hsz hP hD hS hA hl
  have hl : lv_has ls 1 [(0, .int x)] := hl
  refine lv_iload_n hx hb dX9_isHerd_0 rfl (lv_at hl 0 rfl) ?_
  refine lv_if_lt (tgt := 13) hx hb dX9_isHerd_1 (by decide) (fun c_1 => ?_) (fun c_1 => ?_)
  · have ic_1 := gz_lt (rfl : x.toInt = x.toInt) (by decide : (0 : Int32).toInt = 0) c_1
    refine lv_iconst (v := 0) hx hb dX9_isHerd_13 (by decide) ?_
    exact gz_iret (cf := (fun (u : Unit) => [])) (post := (fun (r : Int32) (u : Unit) => (r = 1 ∧ (0 ≤ Xx) ∧ (Xx ≤ 3)) ∨ (r = 0 ∧ (Xx < 0 ∨ 3 < Xx)))) hx hb hr hlocks hK hP hD hS () [] (by decide) (Or.inr (⟨rfl, by omega⟩)) (by decide) rfl (Nat.le_of_ble_eq_true rfl) (Nat.le_of_ble_eq_true rfl) dX9_isHerd_14
  · have ic_1 := gz_nlt (rfl : x.toInt = x.toInt) (by decide : (0 : Int32).toInt = 0) c_1
    refine lv_iload_n hx hb dX9_isHerd_4 rfl (lv_at hl 0 rfl) ?_
    refine lv_iconst (v := 4) hx hb dX9_isHerd_5 (by decide) ?_
    refine lv_icmp_ge (tgt := 13) hx hb dX9_isHerd_6 (by decide) (fun c_2 => ?_) (fun c_2 => ?_)
    · have ic_2 := gz_le (by decide : (4 : Int32).toInt = 4) (rfl : x.toInt = x.toInt) c_2
      refine lv_iconst (v := 0) hx hb dX9_isHerd_13 (by decide) ?_
      exact gz_iret (cf := (fun (u : Unit) => [])) (post := (fun (r : Int32) (u : Unit) => (r = 1 ∧ (0 ≤ Xx) ∧ (Xx ≤ 3)) ∨ (r = 0 ∧ (Xx < 0 ∨ 3 < Xx)))) hx hb hr hlocks hK hP hD hS () [] (by decide) (Or.inr (⟨rfl, by omega⟩)) (by decide) rfl (Nat.le_of_ble_eq_true rfl) (Nat.le_of_ble_eq_true rfl) dX9_isHerd_14
    · have ic_2 := gz_nle (by decide : (4 : Int32).toInt = 4) (rfl : x.toInt = x.toInt) c_2
      refine lv_iconst (v := 1) hx hb dX9_isHerd_9 (by decide) ?_
      refine lv_goto (tgt := 14) hx hb dX9_isHerd_10 (by decide) ?_
      exact gz_iret (cf := (fun (u : Unit) => [])) (post := (fun (r : Int32) (u : Unit) => (r = 1 ∧ (0 ≤ Xx) ∧ (Xx ≤ 3)) ∨ (r = 0 ∧ (Xx < 0 ∨ 3 < Xx)))) hx hb hr hlocks hK hP hD hS () [] (by decide) (Or.inl (⟨rfl, by omega, by omega⟩)) (by decide) rfl (Nat.le_of_ble_eq_true rfl) (Nat.le_of_ble_eq_true rfl) dX9_isHerd_14

set_option maxHeartbeats 4000000 in
set_option maxRecDepth 100000 in
/-- WellCourt.isDate -/
theorem c_isDate (l : Launch) (G : va_G) (cy : Nat → ClassId) (sz : Nat) (x : Int32) (Xx : Int) (kx : x.toInt = Xx)  : gMi l yX9_isDate cX9_isDate 1 (some .boolean) ({ frames := 0, cells := 0, slots := 0, locals := 0 }) G cy sz [.int x] [] (fun (r : Int32) (u : Unit) => (r = 1 ∧ (0 ≤ Xx) ∧ (Xx ≤ 199)) ∨ (r = 0 ∧ (Xx < 0 ∨ 199 < Xx))) (fun (u : Unit) => []) := by
  refine gz_start (fun A => gQi G cy _ _ A) (by decide) (Nat.le_of_ble_eq_true rfl) ?_
  intro p e s m below meth c A ls H hx hb hr hml hlocks hin hown hts hK hov hsz hP hD hS hA hl
  have hl : lv_has ls 1 [(0, .int x)] := hl
  refine lv_iload_n hx hb dX9_isDate_0 rfl (lv_at hl 0 rfl) ?_
  refine lv_if_lt (tgt := 15) hx hb dX9_isDate_1 (by decide) (fun c_1 => ?_) (fun c_1 => ?_)
  · have ic_1 := gz_lt (rfl : x.toInt = x.toInt) (by decide : (0 : Int32).toInt = 0) c_1
    refine lv_iconst (v := 0) hx hb dX9_isDate_15 (by decide) ?_
    exact gz_iret (cf := (fun (u : Unit) => [])) (post := (fun (r : Int32) (u : Unit) => (r = 1 ∧ (0 ≤ Xx) ∧ (Xx ≤ 199)) ∨ (r = 0 ∧ (Xx < 0 ∨ 199 < Xx)))) hx hb hr hlocks hK hP hD hS () [] (by decide) (Or.inr (⟨rfl, by omega⟩)) (by decide) rfl (Nat.le_of_ble_eq_true rfl) (Nat.le_of_ble_eq_true rfl) dX9_isDate_16
  · have ic_1 := gz_nlt (rfl : x.toInt = x.toInt) (by decide : (0 : Int32).toInt = 0) c_1
    refine lv_iload_n hx hb dX9_isDate_4 rfl (lv_at hl 0 rfl) ?_
    refine lv_sipush (v := 199) hx hb dX9_isDate_5 (by decide) ?_
    refine lv_icmp_gt (tgt := 15) hx hb dX9_isDate_8 (by decide) (fun c_2 => ?_) (fun c_2 => ?_)
    · have ic_2 := gz_lt (by decide : (199 : Int32).toInt = 199) (rfl : x.toInt = x.toInt) c_2
      refine lv_iconst (v := 0) hx hb dX9_isDate_15 (by decide) ?_
      exact gz_iret (cf := (fun (u : Unit) => [])) (post := (fun (r : Int32) (u : Unit) => (r = 1 ∧ (0 ≤ Xx) ∧ (Xx ≤ 199)) ∨ (r = 0 ∧ (Xx < 0 ∨ 199 < Xx)))) hx hb hr hlocks hK hP hD hS () [] (by decide) (Or.inr (⟨rfl, by omega⟩)) (by decide) rfl (Nat.le_of_ble_eq_true rfl) (Nat.le_of_ble_eq_true rfl) dX9_isDate_16
    · have ic_2 := gz_nlt (by decide : (199 : Int32).toInt = 199) (rfl : x.toInt = x.toInt) c_2
      refine lv_iconst (v := 1) hx hb dX9_isDate_11 (by decide) ?_
      refine lv_goto (tgt := 16) hx hb dX9_isDate_12 (by decide) ?_
      exact gz_iret (cf := (fun (u : Unit) => [])) (post := (fun (r : Int32) (u : Unit) => (r = 1 ∧ (0 ≤ Xx) ∧ (Xx ≤ 199)) ∨ (r = 0 ∧ (Xx < 0 ∨ 199 < Xx)))) hx hb hr hlocks hK hP hD hS () [] (by decide) (Or.inl (⟨rfl, by omega, by omega⟩)) (by decide) rfl (Nat.le_of_ble_eq_true rfl) (Nat.le_of_ble_eq_true rfl) dX9_isDate_16

set_option maxHeartbeats 4000000 in
set_option maxRecDepth 100000 in
/-- WellCourt$Land.isThere -/
theorem c_X3_isThere (l : Launch) (G : va_G) (cy : Nat → ClassId) (sz : Nat) (h0 : Nat) (a0 : Nat) (a1 : Nat) (a2 : Nat) (x : Int32) (Xx : Int) (kx : x.toInt = Xx) (hx0 : 0 ≤ Xx) (hx1 : Xx < 6) : gMi l yX3_isThere cX3_isThere 2 (some .boolean) ({ frames := 0, cells := 0, slots := 0, locals := 0 }) G cy sz [.ref h0, .int x] [(h0, .inr (3, [.ref a0, .ref a1, .ref a2])), (a0, .inl (cy 0, 6, .inl (fun _ => 0)))] (fun (r : Int32) (u : Unit) => r = 0) (fun (u : Unit) => [(h0, .inr (3, [.ref a0, .ref a1, .ref a2])), (a0, .inl (cy 0, 6, .inl (fun _ => 0)))]) := by
  refine gz_start (fun A => gQi G cy _ _ A) (by decide) (Nat.le_of_ble_eq_true rfl) ?_
  intro p e s m below meth c A ls H hx hb hr hml hlocks hin hown hts hK hov hsz hP hD hS hA hl
  have hl : lv_has ls 2 [(0, .ref h0), (1, .int x)] := hl
  refine lv_aload_n hx hb dX3_isThere_0 rfl (lv_at hl 0 rfl) ?_
  refine va_get (ci := 3) (v := .ref a0) (C := RX3) (T := TX3) (N := 3) hx hb hts inX3 hown hK hP 0 rfl rfl 0 (by decide) (hts _ gm_82) (fun _ h9 => h9) rfl dX3_isThere_1 ?_
  refine lv_iload_n hx hb dX3_isThere_4 rfl (lv_at hl 1 rfl) ?_
  refine va_iald hx hb hK hP 1 0 rfl rfl (vp_in_iff.mpr ⟨by omega, by omega⟩) dX3_isThere_5 ?_
  refine lv_topi (fun x_1 ex_1 => ?_)
  obtain rfl : x_1 = (0 : Int32) := ex_1
  refine lv_if_le (tgt := 13) hx hb dX3_isThere_6 (by decide) (fun _ => ?_) (fun h9 => absurd (by decide) h9)
  refine lv_iconst (v := 0) hx hb dX3_isThere_13 (by decide) ?_
  exact gz_iret (cf := (fun (u : Unit) => [(h0, .inr (3, [.ref a0, .ref a1, .ref a2])), (a0, .inl (cy 0, 6, .inl (fun _ => 0)))])) (post := (fun (r : Int32) (u : Unit) => r = 0)) hx hb hr hlocks hK hP hD hS () [0, 1] (by decide) rfl (by decide) rfl (Nat.le_of_ble_eq_true rfl) (Nat.le_of_ble_eq_true rfl) dX3_isThere_14

set_option maxHeartbeats 4000000 in
set_option maxRecDepth 100000 in
/-- WellCourt$Land.size -/
theorem c_X3_size (l : Launch) (G : va_G) (cy : Nat → ClassId) (sz : Nat) (h0 : Nat) (a0 : Nat) (a1 : Nat) (a2 : Nat)   : gMi l yX3_size cX3_size 3 (some .int) ({ frames := 1, cells := 0, slots := 0, locals := 21 }) G cy sz [.ref h0] [(h0, .inr (3, [.ref a0, .ref a1, .ref a2])), (a0, .inl (cy 0, 6, .inl (fun _ => 0)))] (fun (r : Int32) (u : Unit) => r = 0) (fun (u : Unit) => [(h0, .inr (3, [.ref a0, .ref a1, .ref a2])), (a0, .inl (cy 0, 6, .inl (fun _ => 0)))]) := by
  refine gz_start (fun A => gQi G cy _ _ A) (by decide) (Nat.le_of_ble_eq_true rfl) ?_
  intro p e s m below meth c A ls H hx hb hr hml hlocks hin hown hts hK hov hsz hP hD hS hA hl
  have hl : lv_has ls 3 [(0, .ref h0)] := hl
  refine lv_iconst (v := 0) hx hb dX3_size_0 (by decide) ?_
  refine lv_istore_n (lv' := [(1, .int 0), (0, .ref h0)]) hx hb dX3_size_1 rfl hl (by decide) rfl (fun ls hl => ?_)
  refine lv_iconst (v := 0) hx hb dX3_size_2 (by decide) ?_
  refine lv_istore_n (lv' := [(2, .int 0), (1, .int 0), (0, .ref h0)]) hx hb dX3_size_3 rfl hl (by decide) rfl (fun ls hl => ?_)
  refine lv_iload_n hx hb dX3_size_4 rfl (lv_at hl 0 rfl) ?_
  refine lv_bipush (v := 6) hx hb dX3_size_5 (by decide) ?_
  refine lv_icmp_ge (tgt := 32) hx hb dX3_size_7 (by decide) (fun h9 => absurd h9 (by decide)) (fun _ => ?_)
  refine lv_iload_n hx hb dX3_size_10 rfl (lv_at hl 1 rfl) ?_
  refine lv_aload_n hx hb dX3_size_11 rfl (lv_at hl 2 rfl) ?_
  refine lv_iload_n hx hb dX3_size_12 rfl (lv_at hl 0 rfl) ?_
  refine gz_afti (va_runV (As := [.int 0]) (rest := [.int 0]) ⟨hx, hb, hml, hown, hts⟩ (c_X3_isThere l G cy H.size h0 a0 a1 a2 0 0 (by decide) (by first | decide | omega) (by first | decide | omega)) ⟨(gz_cb (n := 1) hts gm_733 gm_4 gm_350 ⟨by decide +kernel, by decide +kernel, by decide +kernel⟩ ⟨Nat.le_of_ble_eq_true rfl, Nat.le_of_ble_eq_true rfl⟩), hts _ gm_348, hts _ gm_349⟩ (gz_preV (ci := 3) (q0 := 0) hK hov hP hD [0, 1] (by decide) rfl rfl rfl) rfl rfl hl.1 rfl (lv_room (Nat.le_of_ble_eq_true rfl)) dX3_size_13 ⟨Nat.le_of_ble_eq_true rfl, Nat.le_of_ble_eq_true rfl⟩) hP hD hS hA [0, 1] [] rfl rfl (by decide) (by decide) (fun r_1 u_1 H locs hw_1 hP hD hS => ?_)
  have hP : va_P G vwCl [(h0, .inr (3, [.ref a0, .ref a1, .ref a2])), (a0, .inl (cy 0, 6, .inl (fun _ => 0)))] H := hP
  have hD : va_D A [(h0, .inr (3, [.ref a0, .ref a1, .ref a2])), (a0, .inl (cy 0, 6, .inl (fun _ => 0)))] := hD
  obtain rfl := hw_1
  refine lv_if_eq (tgt := 23) hx hb dX3_size_16 (by decide) (fun _ => ?_) (fun h9 => absurd (by decide) h9)
  refine lv_iconst (v := 0) hx hb dX3_size_23 (by decide) ?_
  refine lv_iadd hx hb dX3_size_24 ?_
  refine lv_topi (fun x_2 ex_2 => ?_)
  obtain rfl : x_2 = (0 : Int32) := ex_2.trans (by decide)
  refine lv_istore_n (lv' := [(1, .int 0), (2, .int 0), (0, .ref h0)]) hx hb dX3_size_25 rfl hl (by decide) rfl (fun ls hl => ?_)
  refine lv_iinc (v := (1)) (lv' := [(2, .int 1), (1, .int 0), (0, .ref h0)]) hx hb dX3_size_26 hl (k := 1) rfl (by decide) (by decide) rfl (fun ls hl => ?_)
  refine lv_goto (tgt := 4) hx hb dX3_size_29 (by decide) ?_
  refine lv_iload_n hx hb dX3_size_4 rfl (lv_at hl 0 rfl) ?_
  refine lv_bipush (v := 6) hx hb dX3_size_5 (by decide) ?_
  refine lv_icmp_ge (tgt := 32) hx hb dX3_size_7 (by decide) (fun h9 => absurd h9 (by decide)) (fun _ => ?_)
  refine lv_iload_n hx hb dX3_size_10 rfl (lv_at hl 1 rfl) ?_
  refine lv_aload_n hx hb dX3_size_11 rfl (lv_at hl 2 rfl) ?_
  refine lv_iload_n hx hb dX3_size_12 rfl (lv_at hl 0 rfl) ?_
  refine gz_afti (va_runV (As := [.int 1]) (rest := [.int 0]) ⟨hx, hb, hml, hown, hts⟩ (c_X3_isThere l G cy H.size h0 a0 a1 a2 1 1 (by decide) (by first | decide | omega) (by first | decide | omega)) ⟨(gz_cb (n := 1) hts gm_733 gm_4 gm_350 ⟨by decide +kernel, by decide +kernel, by decide +kernel⟩ ⟨Nat.le_of_ble_eq_true rfl, Nat.le_of_ble_eq_true rfl⟩), hts _ gm_348, hts _ gm_349⟩ (gz_preV (ci := 3) (q0 := 0) hK hov hP hD [0, 1] (by decide) rfl rfl rfl) rfl rfl hl.1 rfl (lv_room (Nat.le_of_ble_eq_true rfl)) dX3_size_13 ⟨Nat.le_of_ble_eq_true rfl, Nat.le_of_ble_eq_true rfl⟩) hP hD hS hA [0, 1] [] rfl rfl (by decide) (by decide) (fun r_3 u_3 H locs hw_3 hP hD hS => ?_)
  have hP : va_P G vwCl [(h0, .inr (3, [.ref a0, .ref a1, .ref a2])), (a0, .inl (cy 0, 6, .inl (fun _ => 0)))] H := hP
  have hD : va_D A [(h0, .inr (3, [.ref a0, .ref a1, .ref a2])), (a0, .inl (cy 0, 6, .inl (fun _ => 0)))] := hD
  obtain rfl := hw_3
  refine lv_if_eq (tgt := 23) hx hb dX3_size_16 (by decide) (fun _ => ?_) (fun h9 => absurd (by decide) h9)
  refine lv_iconst (v := 0) hx hb dX3_size_23 (by decide) ?_
  refine lv_iadd hx hb dX3_size_24 ?_
  refine lv_topi (fun x_4 ex_4 => ?_)
  obtain rfl : x_4 = (0 : Int32) := ex_4.trans (by decide)
  refine lv_istore_n (lv' := [(1, .int 0), (2, .int 1), (0, .ref h0)]) hx hb dX3_size_25 rfl hl (by decide) rfl (fun ls hl => ?_)
  refine lv_iinc (v := (2)) (lv' := [(2, .int 2), (1, .int 0), (0, .ref h0)]) hx hb dX3_size_26 hl (k := 1) rfl (by decide) (by decide) rfl (fun ls hl => ?_)
  refine lv_goto (tgt := 4) hx hb dX3_size_29 (by decide) ?_
  refine lv_iload_n hx hb dX3_size_4 rfl (lv_at hl 0 rfl) ?_
  refine lv_bipush (v := 6) hx hb dX3_size_5 (by decide) ?_
  refine lv_icmp_ge (tgt := 32) hx hb dX3_size_7 (by decide) (fun h9 => absurd h9 (by decide)) (fun _ => ?_)
  refine lv_iload_n hx hb dX3_size_10 rfl (lv_at hl 1 rfl) ?_
  refine lv_aload_n hx hb dX3_size_11 rfl (lv_at hl 2 rfl) ?_
  refine lv_iload_n hx hb dX3_size_12 rfl (lv_at hl 0 rfl) ?_
  refine gz_afti (va_runV (As := [.int 2]) (rest := [.int 0]) ⟨hx, hb, hml, hown, hts⟩ (c_X3_isThere l G cy H.size h0 a0 a1 a2 2 2 (by decide) (by first | decide | omega) (by first | decide | omega)) ⟨(gz_cb (n := 1) hts gm_733 gm_4 gm_350 ⟨by decide +kernel, by decide +kernel, by decide +kernel⟩ ⟨Nat.le_of_ble_eq_true rfl, Nat.le_of_ble_eq_true rfl⟩), hts _ gm_348, hts _ gm_349⟩ (gz_preV (ci := 3) (q0 := 0) hK hov hP hD [0, 1] (by decide) rfl rfl rfl) rfl rfl hl.1 rfl (lv_room (Nat.le_of_ble_eq_true rfl)) dX3_size_13 ⟨Nat.le_of_ble_eq_true rfl, Nat.le_of_ble_eq_true rfl⟩) hP hD hS hA [0, 1] [] rfl rfl (by decide) (by decide) (fun r_5 u_5 H locs hw_5 hP hD hS => ?_)
  have hP : va_P G vwCl [(h0, .inr (3, [.ref a0, .ref a1, .ref a2])), (a0, .inl (cy 0, 6, .inl (fun _ => 0)))] H := hP
  have hD : va_D A [(h0, .inr (3, [.ref a0, .ref a1, .ref a2])), (a0, .inl (cy 0, 6, .inl (fun _ => 0)))] := hD
  obtain rfl := hw_5
  refine lv_if_eq (tgt := 23) hx hb dX3_size_16 (by decide) (fun _ => ?_) (fun h9 => absurd (by decide) h9)
  refine lv_iconst (v := 0) hx hb dX3_size_23 (by decide) ?_
  refine lv_iadd hx hb dX3_size_24 ?_
  refine lv_topi (fun x_6 ex_6 => ?_)
  obtain rfl : x_6 = (0 : Int32) := ex_6.trans (by decide)
  refine lv_istore_n (lv' := [(1, .int 0), (2, .int 2), (0, .ref h0)]) hx hb dX3_size_25 rfl hl (by decide) rfl (fun ls hl => ?_)
  refine lv_iinc (v := (3)) (lv' := [(2, .int 3), (1, .int 0), (0, .ref h0)]) hx hb dX3_size_26 hl (k := 1) rfl (by decide) (by decide) rfl (fun ls hl => ?_)
  refine lv_goto (tgt := 4) hx hb dX3_size_29 (by decide) ?_
  refine lv_iload_n hx hb dX3_size_4 rfl (lv_at hl 0 rfl) ?_
  refine lv_bipush (v := 6) hx hb dX3_size_5 (by decide) ?_
  refine lv_icmp_ge (tgt := 32) hx hb dX3_size_7 (by decide) (fun h9 => absurd h9 (by decide)) (fun _ => ?_)
  refine lv_iload_n hx hb dX3_size_10 rfl (lv_at hl 1 rfl) ?_
  refine lv_aload_n hx hb dX3_size_11 rfl (lv_at hl 2 rfl) ?_
  refine lv_iload_n hx hb dX3_size_12 rfl (lv_at hl 0 rfl) ?_
  refine gz_afti (va_runV (As := [.int 3]) (rest := [.int 0]) ⟨hx, hb, hml, hown, hts⟩ (c_X3_isThere l G cy H.size h0 a0 a1 a2 3 3 (by decide) (by first | decide | omega) (by first | decide | omega)) ⟨(gz_cb (n := 1) hts gm_733 gm_4 gm_350 ⟨by decide +kernel, by decide +kernel, by decide +kernel⟩ ⟨Nat.le_of_ble_eq_true rfl, Nat.le_of_ble_eq_true rfl⟩), hts _ gm_348, hts _ gm_349⟩ (gz_preV (ci := 3) (q0 := 0) hK hov hP hD [0, 1] (by decide) rfl rfl rfl) rfl rfl hl.1 rfl (lv_room (Nat.le_of_ble_eq_true rfl)) dX3_size_13 ⟨Nat.le_of_ble_eq_true rfl, Nat.le_of_ble_eq_true rfl⟩) hP hD hS hA [0, 1] [] rfl rfl (by decide) (by decide) (fun r_7 u_7 H locs hw_7 hP hD hS => ?_)
  have hP : va_P G vwCl [(h0, .inr (3, [.ref a0, .ref a1, .ref a2])), (a0, .inl (cy 0, 6, .inl (fun _ => 0)))] H := hP
  have hD : va_D A [(h0, .inr (3, [.ref a0, .ref a1, .ref a2])), (a0, .inl (cy 0, 6, .inl (fun _ => 0)))] := hD
  obtain rfl := hw_7
  refine lv_if_eq (tgt := 23) hx hb dX3_size_16 (by decide) (fun _ => ?_) (fun h9 => absurd (by decide) h9)
  refine lv_iconst (v := 0) hx hb dX3_size_23 (by decide) ?_
  refine lv_iadd hx hb dX3_size_24 ?_
  refine lv_topi (fun x_8 ex_8 => ?_)
  obtain rfl : x_8 = (0 : Int32) := ex_8.trans (by decide)
  refine lv_istore_n (lv' := [(1, .int 0), (2, .int 3), (0, .ref h0)]) hx hb dX3_size_25 rfl hl (by decide) rfl (fun ls hl => ?_)
  refine lv_iinc (v := (4)) (lv' := [(2, .int 4), (1, .int 0), (0, .ref h0)]) hx hb dX3_size_26 hl (k := 1) rfl (by decide) (by decide) rfl (fun ls hl => ?_)
  refine lv_goto (tgt := 4) hx hb dX3_size_29 (by decide) ?_
  refine lv_iload_n hx hb dX3_size_4 rfl (lv_at hl 0 rfl) ?_
  refine lv_bipush (v := 6) hx hb dX3_size_5 (by decide) ?_
  refine lv_icmp_ge (tgt := 32) hx hb dX3_size_7 (by decide) (fun h9 => absurd h9 (by decide)) (fun _ => ?_)
  refine lv_iload_n hx hb dX3_size_10 rfl (lv_at hl 1 rfl) ?_
  refine lv_aload_n hx hb dX3_size_11 rfl (lv_at hl 2 rfl) ?_
  refine lv_iload_n hx hb dX3_size_12 rfl (lv_at hl 0 rfl) ?_
  refine gz_afti (va_runV (As := [.int 4]) (rest := [.int 0]) ⟨hx, hb, hml, hown, hts⟩ (c_X3_isThere l G cy H.size h0 a0 a1 a2 4 4 (by decide) (by first | decide | omega) (by first | decide | omega)) ⟨(gz_cb (n := 1) hts gm_733 gm_4 gm_350 ⟨by decide +kernel, by decide +kernel, by decide +kernel⟩ ⟨Nat.le_of_ble_eq_true rfl, Nat.le_of_ble_eq_true rfl⟩), hts _ gm_348, hts _ gm_349⟩ (gz_preV (ci := 3) (q0 := 0) hK hov hP hD [0, 1] (by decide) rfl rfl rfl) rfl rfl hl.1 rfl (lv_room (Nat.le_of_ble_eq_true rfl)) dX3_size_13 ⟨Nat.le_of_ble_eq_true rfl, Nat.le_of_ble_eq_true rfl⟩) hP hD hS hA [0, 1] [] rfl rfl (by decide) (by decide) (fun r_9 u_9 H locs hw_9 hP hD hS => ?_)
  have hP : va_P G vwCl [(h0, .inr (3, [.ref a0, .ref a1, .ref a2])), (a0, .inl (cy 0, 6, .inl (fun _ => 0)))] H := hP
  have hD : va_D A [(h0, .inr (3, [.ref a0, .ref a1, .ref a2])), (a0, .inl (cy 0, 6, .inl (fun _ => 0)))] := hD
  obtain rfl := hw_9
  refine lv_if_eq (tgt := 23) hx hb dX3_size_16 (by decide) (fun _ => ?_) (fun h9 => absurd (by decide) h9)
  refine lv_iconst (v := 0) hx hb dX3_size_23 (by decide) ?_
  refine lv_iadd hx hb dX3_size_24 ?_
  refine lv_topi (fun x_10 ex_10 => ?_)
  obtain rfl : x_10 = (0 : Int32) := ex_10.trans (by decide)
  refine lv_istore_n (lv' := [(1, .int 0), (2, .int 4), (0, .ref h0)]) hx hb dX3_size_25 rfl hl (by decide) rfl (fun ls hl => ?_)
  refine lv_iinc (v := (5)) (lv' := [(2, .int 5), (1, .int 0), (0, .ref h0)]) hx hb dX3_size_26 hl (k := 1) rfl (by decide) (by decide) rfl (fun ls hl => ?_)
  refine lv_goto (tgt := 4) hx hb dX3_size_29 (by decide) ?_
  refine lv_iload_n hx hb dX3_size_4 rfl (lv_at hl 0 rfl) ?_
  refine lv_bipush (v := 6) hx hb dX3_size_5 (by decide) ?_
  refine lv_icmp_ge (tgt := 32) hx hb dX3_size_7 (by decide) (fun h9 => absurd h9 (by decide)) (fun _ => ?_)
  refine lv_iload_n hx hb dX3_size_10 rfl (lv_at hl 1 rfl) ?_
  refine lv_aload_n hx hb dX3_size_11 rfl (lv_at hl 2 rfl) ?_
  refine lv_iload_n hx hb dX3_size_12 rfl (lv_at hl 0 rfl) ?_
  refine gz_afti (va_runV (As := [.int 5]) (rest := [.int 0]) ⟨hx, hb, hml, hown, hts⟩ (c_X3_isThere l G cy H.size h0 a0 a1 a2 5 5 (by decide) (by first | decide | omega) (by first | decide | omega)) ⟨(gz_cb (n := 1) hts gm_733 gm_4 gm_350 ⟨by decide +kernel, by decide +kernel, by decide +kernel⟩ ⟨Nat.le_of_ble_eq_true rfl, Nat.le_of_ble_eq_true rfl⟩), hts _ gm_348, hts _ gm_349⟩ (gz_preV (ci := 3) (q0 := 0) hK hov hP hD [0, 1] (by decide) rfl rfl rfl) rfl rfl hl.1 rfl (lv_room (Nat.le_of_ble_eq_true rfl)) dX3_size_13 ⟨Nat.le_of_ble_eq_true rfl, Nat.le_of_ble_eq_true rfl⟩) hP hD hS hA [0, 1] [] rfl rfl (by decide) (by decide) (fun r_11 u_11 H locs hw_11 hP hD hS => ?_)
  have hP : va_P G vwCl [(h0, .inr (3, [.ref a0, .ref a1, .ref a2])), (a0, .inl (cy 0, 6, .inl (fun _ => 0)))] H := hP
  have hD : va_D A [(h0, .inr (3, [.ref a0, .ref a1, .ref a2])), (a0, .inl (cy 0, 6, .inl (fun _ => 0)))] := hD
  obtain rfl := hw_11
  refine lv_if_eq (tgt := 23) hx hb dX3_size_16 (by decide) (fun _ => ?_) (fun h9 => absurd (by decide) h9)
  refine lv_iconst (v := 0) hx hb dX3_size_23 (by decide) ?_
  refine lv_iadd hx hb dX3_size_24 ?_
  refine lv_topi (fun x_12 ex_12 => ?_)
  obtain rfl : x_12 = (0 : Int32) := ex_12.trans (by decide)
  refine lv_istore_n (lv' := [(1, .int 0), (2, .int 5), (0, .ref h0)]) hx hb dX3_size_25 rfl hl (by decide) rfl (fun ls hl => ?_)
  refine lv_iinc (v := (6)) (lv' := [(2, .int 6), (1, .int 0), (0, .ref h0)]) hx hb dX3_size_26 hl (k := 1) rfl (by decide) (by decide) rfl (fun ls hl => ?_)
  refine lv_goto (tgt := 4) hx hb dX3_size_29 (by decide) ?_
  refine lv_iload_n hx hb dX3_size_4 rfl (lv_at hl 0 rfl) ?_
  refine lv_bipush (v := 6) hx hb dX3_size_5 (by decide) ?_
  refine lv_icmp_ge (tgt := 32) hx hb dX3_size_7 (by decide) (fun _ => ?_) (fun h9 => absurd (by decide) h9)
  refine lv_iload_n hx hb dX3_size_32 rfl (lv_at hl 1 rfl) ?_
  exact gz_iret (cf := (fun (u : Unit) => [(h0, .inr (3, [.ref a0, .ref a1, .ref a2])), (a0, .inl (cy 0, 6, .inl (fun _ => 0)))])) (post := (fun (r : Int32) (u : Unit) => r = 0)) hx hb hr hlocks hK hP hD hS () [0, 1] rfl rfl (by decide) rfl (Nat.le_of_ble_eq_true rfl) (Nat.le_of_ble_eq_true rfl) dX3_size_33

set_option maxHeartbeats 4000000 in
set_option maxRecDepth 100000 in
/-- WellCourt$Flock.isThere -/
theorem c_X2_isThere (l : Launch) (G : va_G) (cy : Nat → ClassId) (sz : Nat) (h0 : Nat) (a0 : Nat) (a1 : Nat) (a2 : Nat) (a3 : Nat) (a4 : Nat) (x : Int32) (Xx : Int) (kx : x.toInt = Xx) (hx0 : 0 ≤ Xx) (hx1 : Xx < 4) : gMi l yX2_isThere cX2_isThere 2 (some .boolean) ({ frames := 0, cells := 0, slots := 0, locals := 0 }) G cy sz [.ref h0, .int x] [(h0, .inr (2, [.ref a0, .ref a1, .ref a2, .ref a3, .ref a4])), (a0, .inl (cy 0, 4, .inl (fun _ => (-1))))] (fun (r : Int32) (u : Unit) => r = 0) (fun (u : Unit) => [(h0, .inr (2, [.ref a0, .ref a1, .ref a2, .ref a3, .ref a4])), (a0, .inl (cy 0, 4, .inl (fun _ => (-1))))]) := by
  refine gz_start (fun A => gQi G cy _ _ A) (by decide) (Nat.le_of_ble_eq_true rfl) ?_
  intro p e s m below meth c A ls H hx hb hr hml hlocks hin hown hts hK hov hsz hP hD hS hA hl
  have hl : lv_has ls 2 [(0, .ref h0), (1, .int x)] := hl
  refine lv_aload_n hx hb dX2_isThere_0 rfl (lv_at hl 0 rfl) ?_
  refine va_get (ci := 2) (v := .ref a0) (C := RX2) (T := TX2) (N := 5) hx hb hts inX2 hown hK hP 0 rfl rfl 0 (by decide) (hts _ gm_157) (fun _ h9 => h9) rfl dX2_isThere_1 ?_
  refine lv_iload_n hx hb dX2_isThere_4 rfl (lv_at hl 1 rfl) ?_
  refine va_iald hx hb hK hP 1 0 rfl rfl (vp_in_iff.mpr ⟨by omega, by omega⟩) dX2_isThere_5 ?_
  refine lv_topi (fun x_1 ex_1 => ?_)
  obtain rfl : x_1 = (-1 : Int32) := ex_1
  refine lv_iconst (v := (-1)) hx hb dX2_isThere_6 (by decide) ?_
  refine lv_icmp_eq (tgt := 14) hx hb dX2_isThere_7 (by decide) (fun _ => ?_) (fun h9 => absurd (by decide) h9)
  refine lv_iconst (v := 0) hx hb dX2_isThere_14 (by decide) ?_
  exact gz_iret (cf := (fun (u : Unit) => [(h0, .inr (2, [.ref a0, .ref a1, .ref a2, .ref a3, .ref a4])), (a0, .inl (cy 0, 4, .inl (fun _ => (-1))))])) (post := (fun (r : Int32) (u : Unit) => r = 0)) hx hb hr hlocks hK hP hD hS () [0, 1] (by decide) rfl (by decide) rfl (Nat.le_of_ble_eq_true rfl) (Nat.le_of_ble_eq_true rfl) dX2_isThere_15

set_option maxHeartbeats 4000000 in
set_option maxRecDepth 100000 in
/-- WellCourt$Flock.size -/
theorem c_X2_size (l : Launch) (G : va_G) (cy : Nat → ClassId) (sz : Nat) (h0 : Nat) (a0 : Nat) (a1 : Nat) (a2 : Nat) (a3 : Nat) (a4 : Nat)   : gMi l yX2_size cX2_size 3 (some .int) ({ frames := 1, cells := 0, slots := 0, locals := 21 }) G cy sz [.ref h0] [(h0, .inr (2, [.ref a0, .ref a1, .ref a2, .ref a3, .ref a4])), (a0, .inl (cy 0, 4, .inl (fun _ => (-1))))] (fun (r : Int32) (u : Unit) => r = 0) (fun (u : Unit) => [(h0, .inr (2, [.ref a0, .ref a1, .ref a2, .ref a3, .ref a4])), (a0, .inl (cy 0, 4, .inl (fun _ => (-1))))]) := by
  refine gz_start (fun A => gQi G cy _ _ A) (by decide) (Nat.le_of_ble_eq_true rfl) ?_
  intro p e s m below meth c A ls H hx hb hr hml hlocks hin hown hts hK hov hsz hP hD hS hA hl
  have hl : lv_has ls 3 [(0, .ref h0)] := hl
  refine lv_iconst (v := 0) hx hb dX2_size_0 (by decide) ?_
  refine lv_istore_n (lv' := [(1, .int 0), (0, .ref h0)]) hx hb dX2_size_1 rfl hl (by decide) rfl (fun ls hl => ?_)
  refine lv_iconst (v := 0) hx hb dX2_size_2 (by decide) ?_
  refine lv_istore_n (lv' := [(2, .int 0), (1, .int 0), (0, .ref h0)]) hx hb dX2_size_3 rfl hl (by decide) rfl (fun ls hl => ?_)
  refine lv_iload_n hx hb dX2_size_4 rfl (lv_at hl 0 rfl) ?_
  refine lv_iconst (v := 4) hx hb dX2_size_5 (by decide) ?_
  refine lv_icmp_ge (tgt := 31) hx hb dX2_size_6 (by decide) (fun h9 => absurd h9 (by decide)) (fun _ => ?_)
  refine lv_iload_n hx hb dX2_size_9 rfl (lv_at hl 1 rfl) ?_
  refine lv_aload_n hx hb dX2_size_10 rfl (lv_at hl 2 rfl) ?_
  refine lv_iload_n hx hb dX2_size_11 rfl (lv_at hl 0 rfl) ?_
  refine gz_afti (va_runV (As := [.int 0]) (rest := [.int 0]) ⟨hx, hb, hml, hown, hts⟩ (c_X2_isThere l G cy H.size h0 a0 a1 a2 a3 a4 0 0 (by decide) (by first | decide | omega) (by first | decide | omega)) ⟨(gz_cb (n := 1) hts gm_738 gm_9 gm_707 ⟨by decide +kernel, by decide +kernel, by decide +kernel⟩ ⟨Nat.le_of_ble_eq_true rfl, Nat.le_of_ble_eq_true rfl⟩), hts _ gm_705, hts _ gm_706⟩ (gz_preV (ci := 2) (q0 := 0) hK hov hP hD [0, 1] (by decide) rfl rfl rfl) rfl rfl hl.1 rfl (lv_room (Nat.le_of_ble_eq_true rfl)) dX2_size_12 ⟨Nat.le_of_ble_eq_true rfl, Nat.le_of_ble_eq_true rfl⟩) hP hD hS hA [0, 1] [] rfl rfl (by decide) (by decide) (fun r_1 u_1 H locs hw_1 hP hD hS => ?_)
  have hP : va_P G vwCl [(h0, .inr (2, [.ref a0, .ref a1, .ref a2, .ref a3, .ref a4])), (a0, .inl (cy 0, 4, .inl (fun _ => (-1))))] H := hP
  have hD : va_D A [(h0, .inr (2, [.ref a0, .ref a1, .ref a2, .ref a3, .ref a4])), (a0, .inl (cy 0, 4, .inl (fun _ => (-1))))] := hD
  obtain rfl := hw_1
  refine lv_if_eq (tgt := 22) hx hb dX2_size_15 (by decide) (fun _ => ?_) (fun h9 => absurd (by decide) h9)
  refine lv_iconst (v := 0) hx hb dX2_size_22 (by decide) ?_
  refine lv_iadd hx hb dX2_size_23 ?_
  refine lv_topi (fun x_2 ex_2 => ?_)
  obtain rfl : x_2 = (0 : Int32) := ex_2.trans (by decide)
  refine lv_istore_n (lv' := [(1, .int 0), (2, .int 0), (0, .ref h0)]) hx hb dX2_size_24 rfl hl (by decide) rfl (fun ls hl => ?_)
  refine lv_iinc (v := (1)) (lv' := [(2, .int 1), (1, .int 0), (0, .ref h0)]) hx hb dX2_size_25 hl (k := 1) rfl (by decide) (by decide) rfl (fun ls hl => ?_)
  refine lv_goto (tgt := 4) hx hb dX2_size_28 (by decide) ?_
  refine lv_iload_n hx hb dX2_size_4 rfl (lv_at hl 0 rfl) ?_
  refine lv_iconst (v := 4) hx hb dX2_size_5 (by decide) ?_
  refine lv_icmp_ge (tgt := 31) hx hb dX2_size_6 (by decide) (fun h9 => absurd h9 (by decide)) (fun _ => ?_)
  refine lv_iload_n hx hb dX2_size_9 rfl (lv_at hl 1 rfl) ?_
  refine lv_aload_n hx hb dX2_size_10 rfl (lv_at hl 2 rfl) ?_
  refine lv_iload_n hx hb dX2_size_11 rfl (lv_at hl 0 rfl) ?_
  refine gz_afti (va_runV (As := [.int 1]) (rest := [.int 0]) ⟨hx, hb, hml, hown, hts⟩ (c_X2_isThere l G cy H.size h0 a0 a1 a2 a3 a4 1 1 (by decide) (by first | decide | omega) (by first | decide | omega)) ⟨(gz_cb (n := 1) hts gm_738 gm_9 gm_707 ⟨by decide +kernel, by decide +kernel, by decide +kernel⟩ ⟨Nat.le_of_ble_eq_true rfl, Nat.le_of_ble_eq_true rfl⟩), hts _ gm_705, hts _ gm_706⟩ (gz_preV (ci := 2) (q0 := 0) hK hov hP hD [0, 1] (by decide) rfl rfl rfl) rfl rfl hl.1 rfl (lv_room (Nat.le_of_ble_eq_true rfl)) dX2_size_12 ⟨Nat.le_of_ble_eq_true rfl, Nat.le_of_ble_eq_true rfl⟩) hP hD hS hA [0, 1] [] rfl rfl (by decide) (by decide) (fun r_3 u_3 H locs hw_3 hP hD hS => ?_)
  have hP : va_P G vwCl [(h0, .inr (2, [.ref a0, .ref a1, .ref a2, .ref a3, .ref a4])), (a0, .inl (cy 0, 4, .inl (fun _ => (-1))))] H := hP
  have hD : va_D A [(h0, .inr (2, [.ref a0, .ref a1, .ref a2, .ref a3, .ref a4])), (a0, .inl (cy 0, 4, .inl (fun _ => (-1))))] := hD
  obtain rfl := hw_3
  refine lv_if_eq (tgt := 22) hx hb dX2_size_15 (by decide) (fun _ => ?_) (fun h9 => absurd (by decide) h9)
  refine lv_iconst (v := 0) hx hb dX2_size_22 (by decide) ?_
  refine lv_iadd hx hb dX2_size_23 ?_
  refine lv_topi (fun x_4 ex_4 => ?_)
  obtain rfl : x_4 = (0 : Int32) := ex_4.trans (by decide)
  refine lv_istore_n (lv' := [(1, .int 0), (2, .int 1), (0, .ref h0)]) hx hb dX2_size_24 rfl hl (by decide) rfl (fun ls hl => ?_)
  refine lv_iinc (v := (2)) (lv' := [(2, .int 2), (1, .int 0), (0, .ref h0)]) hx hb dX2_size_25 hl (k := 1) rfl (by decide) (by decide) rfl (fun ls hl => ?_)
  refine lv_goto (tgt := 4) hx hb dX2_size_28 (by decide) ?_
  refine lv_iload_n hx hb dX2_size_4 rfl (lv_at hl 0 rfl) ?_
  refine lv_iconst (v := 4) hx hb dX2_size_5 (by decide) ?_
  refine lv_icmp_ge (tgt := 31) hx hb dX2_size_6 (by decide) (fun h9 => absurd h9 (by decide)) (fun _ => ?_)
  refine lv_iload_n hx hb dX2_size_9 rfl (lv_at hl 1 rfl) ?_
  refine lv_aload_n hx hb dX2_size_10 rfl (lv_at hl 2 rfl) ?_
  refine lv_iload_n hx hb dX2_size_11 rfl (lv_at hl 0 rfl) ?_
  refine gz_afti (va_runV (As := [.int 2]) (rest := [.int 0]) ⟨hx, hb, hml, hown, hts⟩ (c_X2_isThere l G cy H.size h0 a0 a1 a2 a3 a4 2 2 (by decide) (by first | decide | omega) (by first | decide | omega)) ⟨(gz_cb (n := 1) hts gm_738 gm_9 gm_707 ⟨by decide +kernel, by decide +kernel, by decide +kernel⟩ ⟨Nat.le_of_ble_eq_true rfl, Nat.le_of_ble_eq_true rfl⟩), hts _ gm_705, hts _ gm_706⟩ (gz_preV (ci := 2) (q0 := 0) hK hov hP hD [0, 1] (by decide) rfl rfl rfl) rfl rfl hl.1 rfl (lv_room (Nat.le_of_ble_eq_true rfl)) dX2_size_12 ⟨Nat.le_of_ble_eq_true rfl, Nat.le_of_ble_eq_true rfl⟩) hP hD hS hA [0, 1] [] rfl rfl (by decide) (by decide) (fun r_5 u_5 H locs hw_5 hP hD hS => ?_)
  have hP : va_P G vwCl [(h0, .inr (2, [.ref a0, .ref a1, .ref a2, .ref a3, .ref a4])), (a0, .inl (cy 0, 4, .inl (fun _ => (-1))))] H := hP
  have hD : va_D A [(h0, .inr (2, [.ref a0, .ref a1, .ref a2, .ref a3, .ref a4])), (a0, .inl (cy 0, 4, .inl (fun _ => (-1))))] := hD
  obtain rfl := hw_5
  refine lv_if_eq (tgt := 22) hx hb dX2_size_15 (by decide) (fun _ => ?_) (fun h9 => absurd (by decide) h9)
  refine lv_iconst (v := 0) hx hb dX2_size_22 (by decide) ?_
  refine lv_iadd hx hb dX2_size_23 ?_
  refine lv_topi (fun x_6 ex_6 => ?_)
  obtain rfl : x_6 = (0 : Int32) := ex_6.trans (by decide)
  refine lv_istore_n (lv' := [(1, .int 0), (2, .int 2), (0, .ref h0)]) hx hb dX2_size_24 rfl hl (by decide) rfl (fun ls hl => ?_)
  refine lv_iinc (v := (3)) (lv' := [(2, .int 3), (1, .int 0), (0, .ref h0)]) hx hb dX2_size_25 hl (k := 1) rfl (by decide) (by decide) rfl (fun ls hl => ?_)
  refine lv_goto (tgt := 4) hx hb dX2_size_28 (by decide) ?_
  refine lv_iload_n hx hb dX2_size_4 rfl (lv_at hl 0 rfl) ?_
  refine lv_iconst (v := 4) hx hb dX2_size_5 (by decide) ?_
  refine lv_icmp_ge (tgt := 31) hx hb dX2_size_6 (by decide) (fun h9 => absurd h9 (by decide)) (fun _ => ?_)
  refine lv_iload_n hx hb dX2_size_9 rfl (lv_at hl 1 rfl) ?_
  refine lv_aload_n hx hb dX2_size_10 rfl (lv_at hl 2 rfl) ?_
  refine lv_iload_n hx hb dX2_size_11 rfl (lv_at hl 0 rfl) ?_
  refine gz_afti (va_runV (As := [.int 3]) (rest := [.int 0]) ⟨hx, hb, hml, hown, hts⟩ (c_X2_isThere l G cy H.size h0 a0 a1 a2 a3 a4 3 3 (by decide) (by first | decide | omega) (by first | decide | omega)) ⟨(gz_cb (n := 1) hts gm_738 gm_9 gm_707 ⟨by decide +kernel, by decide +kernel, by decide +kernel⟩ ⟨Nat.le_of_ble_eq_true rfl, Nat.le_of_ble_eq_true rfl⟩), hts _ gm_705, hts _ gm_706⟩ (gz_preV (ci := 2) (q0 := 0) hK hov hP hD [0, 1] (by decide) rfl rfl rfl) rfl rfl hl.1 rfl (lv_room (Nat.le_of_ble_eq_true rfl)) dX2_size_12 ⟨Nat.le_of_ble_eq_true rfl, Nat.le_of_ble_eq_true rfl⟩) hP hD hS hA [0, 1] [] rfl rfl (by decide) (by decide) (fun r_7 u_7 H locs hw_7 hP hD hS => ?_)
  have hP : va_P G vwCl [(h0, .inr (2, [.ref a0, .ref a1, .ref a2, .ref a3, .ref a4])), (a0, .inl (cy 0, 4, .inl (fun _ => (-1))))] H := hP
  have hD : va_D A [(h0, .inr (2, [.ref a0, .ref a1, .ref a2, .ref a3, .ref a4])), (a0, .inl (cy 0, 4, .inl (fun _ => (-1))))] := hD
  obtain rfl := hw_7
  refine lv_if_eq (tgt := 22) hx hb dX2_size_15 (by decide) (fun _ => ?_) (fun h9 => absurd (by decide) h9)
  refine lv_iconst (v := 0) hx hb dX2_size_22 (by decide) ?_
  refine lv_iadd hx hb dX2_size_23 ?_
  refine lv_topi (fun x_8 ex_8 => ?_)
  obtain rfl : x_8 = (0 : Int32) := ex_8.trans (by decide)
  refine lv_istore_n (lv' := [(1, .int 0), (2, .int 3), (0, .ref h0)]) hx hb dX2_size_24 rfl hl (by decide) rfl (fun ls hl => ?_)
  refine lv_iinc (v := (4)) (lv' := [(2, .int 4), (1, .int 0), (0, .ref h0)]) hx hb dX2_size_25 hl (k := 1) rfl (by decide) (by decide) rfl (fun ls hl => ?_)
  refine lv_goto (tgt := 4) hx hb dX2_size_28 (by decide) ?_
  refine lv_iload_n hx hb dX2_size_4 rfl (lv_at hl 0 rfl) ?_
  refine lv_iconst (v := 4) hx hb dX2_size_5 (by decide) ?_
  refine lv_icmp_ge (tgt := 31) hx hb dX2_size_6 (by decide) (fun _ => ?_) (fun h9 => absurd (by decide) h9)
  refine lv_iload_n hx hb dX2_size_31 rfl (lv_at hl 1 rfl) ?_
  exact gz_iret (cf := (fun (u : Unit) => [(h0, .inr (2, [.ref a0, .ref a1, .ref a2, .ref a3, .ref a4])), (a0, .inl (cy 0, 4, .inl (fun _ => (-1))))])) (post := (fun (r : Int32) (u : Unit) => r = 0)) hx hb hr hlocks hK hP hD hS () [0, 1] rfl rfl (by decide) rfl (Nat.le_of_ble_eq_true rfl) (Nat.le_of_ble_eq_true rfl) dX2_size_32

set_option maxHeartbeats 4000000 in
set_option maxRecDepth 100000 in
/-- WellCourt.isWellThere -/
theorem c_isWellThere (l : Launch) (G : va_G) (cy : Nat → ClassId) (sz : Nat) (h0 : Nat) (g0 : Nat) (g1 : Nat) (g2 : Nat) (g3 : Nat) (g4 : Nat) (g5 : Nat) (g6 : Nat) (g7 : Nat) (g8 : Nat) (g9 : Nat) (g11 : Nat) (g12 : Nat) (g13 : Nat) (x : Int32) (Xx : Int) (kx : x.toInt = Xx)  : gMi l yX9_isWellThere cX9_isWellThere 2 (some .boolean) ({ frames := 1, cells := 0, slots := 0, locals := 21 }) G cy sz [.ref h0, .int x] [(h0, .inr (9, [.ref g0, .ref g1, .ref g2, .ref g3, .ref g4, .ref g5, .ref g6, .ref g7, .ref g8, .ref g9, .int 0, .int 0])), (g2, .inr (3, [.ref g11, .ref g12, .ref g13])), (g11, .inl (cy 0, 6, .inl (fun _ => 0)))] (fun (r : Int32) (u : Unit) => r = 0) (fun (u : Unit) => [(h0, .inr (9, [.ref g0, .ref g1, .ref g2, .ref g3, .ref g4, .ref g5, .ref g6, .ref g7, .ref g8, .ref g9, .int 0, .int 0])), (g2, .inr (3, [.ref g11, .ref g12, .ref g13])), (g11, .inl (cy 0, 6, .inl (fun _ => 0)))]) := by
  refine gz_start (fun A => gQi G cy _ _ A) (by decide) (Nat.le_of_ble_eq_true rfl) ?_
  intro p e s m below meth c A ls H hx hb hr hml hlocks hin hown hts hK hov hsz hP hD hS hA hl
  have hl : lv_has ls 2 [(0, .ref h0), (1, .int x)] := hl
  refine lv_iload_n hx hb dX9_isWellThere_0 rfl (lv_at hl 1 rfl) ?_
  refine gz_afti (va_runS (As := [.int x]) (rest := []) ⟨hx, hb, hml, hown, hts⟩ (c_isWell l G cy H.size x x.toInt rfl) ⟨(gz_cb (n := 1) hts gm_344 gm_1 gm_346 ⟨by decide +kernel, by decide +kernel, by decide +kernel⟩ ⟨Nat.le_of_ble_eq_true rfl, Nat.le_of_ble_eq_true rfl⟩), hts _ gm_345⟩ (gz_preS hK hov hP hD [] (by decide) rfl) rfl rfl hl.1 rfl (lv_room (Nat.le_of_ble_eq_true rfl)) dX9_isWellThere_1 ⟨Nat.le_of_ble_eq_true rfl, Nat.le_of_ble_eq_true rfl⟩) hP hD hS hA [] [0, 1, 2] rfl rfl (by decide) (by decide) (fun r_1 u_1 H locs hw_1 hP hD hS => ?_)
  have hP : va_P G vwCl [(h0, .inr (9, [.ref g0, .ref g1, .ref g2, .ref g3, .ref g4, .ref g5, .ref g6, .ref g7, .ref g8, .ref g9, .int 0, .int 0])), (g2, .inr (3, [.ref g11, .ref g12, .ref g13])), (g11, .inl (cy 0, 6, .inl (fun _ => 0)))] H := hP
  have hD : va_D A [(h0, .inr (9, [.ref g0, .ref g1, .ref g2, .ref g3, .ref g4, .ref g5, .ref g6, .ref g7, .ref g8, .ref g9, .int 0, .int 0])), (g2, .inr (3, [.ref g11, .ref g12, .ref g13])), (g11, .inl (cy 0, 6, .inl (fun _ => 0)))] := hD
  rcases hw_1 with ⟨rfl, hw_1_0, hw_1_1⟩ | ⟨rfl, hw_1_0⟩
  · skip
    refine lv_if_eq (tgt := 22) hx hb dX9_isWellThere_4 (by decide) (fun h9 => absurd h9 (by decide)) (fun _ => ?_)
    refine lv_aload_n hx hb dX9_isWellThere_7 rfl (lv_at hl 0 rfl) ?_
    refine va_get (ci := 9) (v := .ref g2) (C := RX9) (T := TX9) (N := 12) hx hb hts inX9 hown hK hP 0 rfl rfl 2 (by decide) (hts _ gm_293) (fun _ h9 => h9) rfl dX9_isWellThere_8 ?_
    refine lv_iload_n hx hb dX9_isWellThere_11 rfl (lv_at hl 1 rfl) ?_
    refine gz_afti (va_runV (As := [.int x]) (rest := []) ⟨hx, hb, hml, hown, hts⟩ (c_X3_isThere l G cy H.size g2 g11 g12 g13 x x.toInt rfl (by first | decide | omega) (by first | decide | omega)) ⟨(gz_cb (n := 1) hts gm_347 gm_4 gm_350 ⟨by decide +kernel, by decide +kernel, by decide +kernel⟩ ⟨Nat.le_of_ble_eq_true rfl, Nat.le_of_ble_eq_true rfl⟩), hts _ gm_348, hts _ gm_349⟩ (gz_preV (ci := 3) (q0 := 0) hK hov hP hD [1, 2] (by decide) rfl rfl rfl) rfl rfl hl.1 rfl (lv_room (Nat.le_of_ble_eq_true rfl)) dX9_isWellThere_12 ⟨Nat.le_of_ble_eq_true rfl, Nat.le_of_ble_eq_true rfl⟩) hP hD hS hA [1, 2] [0] rfl rfl (by decide) (by decide) (fun r_2 u_2 H locs hw_2 hP hD hS => ?_)
    have hP : va_P G vwCl [(h0, .inr (9, [.ref g0, .ref g1, .ref g2, .ref g3, .ref g4, .ref g5, .ref g6, .ref g7, .ref g8, .ref g9, .int 0, .int 0])), (g2, .inr (3, [.ref g11, .ref g12, .ref g13])), (g11, .inl (cy 0, 6, .inl (fun _ => 0)))] H := hP
    have hD : va_D A [(h0, .inr (9, [.ref g0, .ref g1, .ref g2, .ref g3, .ref g4, .ref g5, .ref g6, .ref g7, .ref g8, .ref g9, .int 0, .int 0])), (g2, .inr (3, [.ref g11, .ref g12, .ref g13])), (g11, .inl (cy 0, 6, .inl (fun _ => 0)))] := hD
    obtain rfl := hw_2
    refine lv_if_eq (tgt := 22) hx hb dX9_isWellThere_15 (by decide) (fun _ => ?_) (fun h9 => absurd (by decide) h9)
    refine lv_iconst (v := 0) hx hb dX9_isWellThere_22 (by decide) ?_
    exact gz_iret (cf := (fun (u : Unit) => [(h0, .inr (9, [.ref g0, .ref g1, .ref g2, .ref g3, .ref g4, .ref g5, .ref g6, .ref g7, .ref g8, .ref g9, .int 0, .int 0])), (g2, .inr (3, [.ref g11, .ref g12, .ref g13])), (g11, .inl (cy 0, 6, .inl (fun _ => 0)))])) (post := (fun (r : Int32) (u : Unit) => r = 0)) hx hb hr hlocks hK hP hD hS () [0, 1, 2] (by decide) rfl (by decide) rfl (Nat.le_of_ble_eq_true rfl) (Nat.le_of_ble_eq_true rfl) dX9_isWellThere_23
  · skip
    refine lv_if_eq (tgt := 22) hx hb dX9_isWellThere_4 (by decide) (fun _ => ?_) (fun h9 => absurd (by decide) h9)
    refine lv_iconst (v := 0) hx hb dX9_isWellThere_22 (by decide) ?_
    exact gz_iret (cf := (fun (u : Unit) => [(h0, .inr (9, [.ref g0, .ref g1, .ref g2, .ref g3, .ref g4, .ref g5, .ref g6, .ref g7, .ref g8, .ref g9, .int 0, .int 0])), (g2, .inr (3, [.ref g11, .ref g12, .ref g13])), (g11, .inl (cy 0, 6, .inl (fun _ => 0)))])) (post := (fun (r : Int32) (u : Unit) => r = 0)) hx hb hr hlocks hK hP hD hS () [0, 1, 2] (by decide) rfl (by decide) rfl (Nat.le_of_ble_eq_true rfl) (Nat.le_of_ble_eq_true rfl) dX9_isWellThere_23

set_option maxHeartbeats 4000000 in
set_option maxRecDepth 100000 in
/-- WellCourt$Tape.byteAt -/
theorem c_X8_byteAt (l : Launch) (G : va_G) (cy : Nat → ClassId) (sz : Nat) (h0 : Nat) (a0 : Nat) (x : Int32) (Xx : Int) (kx : x.toInt = Xx)  : gMi l yX8_byteAt cX8_byteAt 2 (some .int) ({ frames := 0, cells := 0, slots := 0, locals := 0 }) G cy sz [.ref h0, .int x] [(h0, .inr (8, [.ref a0, .int 0]))] (fun (r : Int32) (u : Unit) => r = (-1)) (fun (u : Unit) => [(h0, .inr (8, [.ref a0, .int 0]))]) := by
  refine gz_start (fun A => gQi G cy _ _ A) (by decide) (Nat.le_of_ble_eq_true rfl) ?_
  intro p e s m below meth c A ls H hx hb hr hml hlocks hin hown hts hK hov hsz hP hD hS hA hl
  have hl : lv_has ls 2 [(0, .ref h0), (1, .int x)] := hl
  refine lv_iload_n hx hb dX8_byteAt_0 rfl (lv_at hl 1 rfl) ?_
  refine lv_if_lt (tgt := 12) hx hb dX8_byteAt_1 (by decide) (fun c_1 => ?_) (fun c_1 => ?_)
  · have ic_1 := gz_lt (rfl : x.toInt = x.toInt) (by decide : (0 : Int32).toInt = 0) c_1
    refine lv_iconst (v := (-1)) hx hb dX8_byteAt_12 (by decide) ?_
    refine lv_goto (tgt := 26) hx hb dX8_byteAt_13 (by decide) ?_
    exact gz_iret (cf := (fun (u : Unit) => [(h0, .inr (8, [.ref a0, .int 0]))])) (post := (fun (r : Int32) (u : Unit) => r = (-1))) hx hb hr hlocks hK hP hD hS () [0] rfl rfl (by decide) rfl (Nat.le_of_ble_eq_true rfl) (Nat.le_of_ble_eq_true rfl) dX8_byteAt_26
  · have ic_1 := gz_nlt (rfl : x.toInt = x.toInt) (by decide : (0 : Int32).toInt = 0) c_1
    refine lv_iload_n hx hb dX8_byteAt_4 rfl (lv_at hl 1 rfl) ?_
    refine lv_aload_n hx hb dX8_byteAt_5 rfl (lv_at hl 0 rfl) ?_
    refine va_get (ci := 8) (v := .int 0) (C := RX8) (T := TX8) (N := 2) hx hb hts inX8 hown hK hP 0 rfl rfl 1 (by decide) (hts _ gm_39) (fun _ h9 => h9) rfl dX8_byteAt_6 ?_
    refine lv_icmp_lt (tgt := 16) hx hb dX8_byteAt_9 (by decide) (fun c_2 => ?_) (fun c_2 => ?_)
    · have ic_2 := gz_lt (rfl : x.toInt = x.toInt) (by decide : (0 : Int32).toInt = 0) c_2
      refine lv_aload_n hx hb dX8_byteAt_16 rfl (lv_at hl 0 rfl) ?_
      refine va_get (ci := 8) (v := .ref a0) (C := RX8) (T := TX8) (N := 2) hx hb hts inX8 hown hK hP 0 rfl rfl 0 (by decide) (hts _ gm_38) (fun _ h9 => h9) rfl dX8_byteAt_17 ?_
      refine lv_iload_n hx hb dX8_byteAt_20 rfl (lv_at hl 1 rfl) ?_
      exfalso; omega
    · have ic_2 := gz_nlt (rfl : x.toInt = x.toInt) (by decide : (0 : Int32).toInt = 0) c_2
      refine lv_iconst (v := (-1)) hx hb dX8_byteAt_12 (by decide) ?_
      refine lv_goto (tgt := 26) hx hb dX8_byteAt_13 (by decide) ?_
      exact gz_iret (cf := (fun (u : Unit) => [(h0, .inr (8, [.ref a0, .int 0]))])) (post := (fun (r : Int32) (u : Unit) => r = (-1))) hx hb hr hlocks hK hP hD hS () [0] rfl rfl (by decide) rfl (Nat.le_of_ble_eq_true rfl) (Nat.le_of_ble_eq_true rfl) dX8_byteAt_26

set_option maxHeartbeats 4000000 in
set_option maxRecDepth 100000 in
/-- WellCourt$Reader.isBlank -/
theorem c_X7_isBlank (l : Launch) (G : va_G) (cy : Nat → ClassId) (sz : Nat) (x : Int32) (Xx : Int) (kx : x.toInt = Xx)  : gMi l yX7_isBlank cX7_isBlank 1 (some .boolean) ({ frames := 0, cells := 0, slots := 0, locals := 0 }) G cy sz [.int x] [] (fun (r : Int32) (u : Unit) => (r = 1 ∧ (Xx = 32 ∨ Xx = 10)) ∨ (r = 0 ∧ (¬ Xx = 32) ∧ (¬ Xx = 10))) (fun (u : Unit) => []) := by
  refine gz_start (fun A => gQi G cy _ _ A) (by decide) (Nat.le_of_ble_eq_true rfl) ?_
  intro p e s m below meth c A ls H hx hb hr hml hlocks hin hown hts hK hov hsz hP hD hS hA hl
  have hl : lv_has ls 1 [(0, .int x)] := hl
  refine lv_iload_n hx hb dX7_isBlank_0 rfl (lv_at hl 0 rfl) ?_
  refine lv_bipush (v := 32) hx hb dX7_isBlank_1 (by decide) ?_
  refine lv_icmp_eq (tgt := 12) hx hb dX7_isBlank_3 (by decide) (fun c_1 => ?_) (fun c_1 => ?_)
  · have ic_1 := gz_eq (rfl : x.toInt = x.toInt) (by decide : (32 : Int32).toInt = 32) c_1
    refine lv_iconst (v := 1) hx hb dX7_isBlank_12 (by decide) ?_
    refine lv_goto (tgt := 17) hx hb dX7_isBlank_13 (by decide) ?_
    exact gz_iret (cf := (fun (u : Unit) => [])) (post := (fun (r : Int32) (u : Unit) => (r = 1 ∧ (Xx = 32 ∨ Xx = 10)) ∨ (r = 0 ∧ (¬ Xx = 32) ∧ (¬ Xx = 10)))) hx hb hr hlocks hK hP hD hS () [] (by decide) (Or.inl (⟨rfl, by omega⟩)) (by decide) rfl (Nat.le_of_ble_eq_true rfl) (Nat.le_of_ble_eq_true rfl) dX7_isBlank_17
  · have ic_1 := gz_ne (rfl : x.toInt = x.toInt) (by decide : (32 : Int32).toInt = 32) c_1
    refine lv_iload_n hx hb dX7_isBlank_6 rfl (lv_at hl 0 rfl) ?_
    refine lv_bipush (v := 10) hx hb dX7_isBlank_7 (by decide) ?_
    refine lv_icmp_ne (tgt := 16) hx hb dX7_isBlank_9 (by decide) (fun c_2 => ?_) (fun c_2 => ?_)
    · have ic_2 := gz_ne (rfl : x.toInt = x.toInt) (by decide : (10 : Int32).toInt = 10) c_2
      refine lv_iconst (v := 0) hx hb dX7_isBlank_16 (by decide) ?_
      exact gz_iret (cf := (fun (u : Unit) => [])) (post := (fun (r : Int32) (u : Unit) => (r = 1 ∧ (Xx = 32 ∨ Xx = 10)) ∨ (r = 0 ∧ (¬ Xx = 32) ∧ (¬ Xx = 10)))) hx hb hr hlocks hK hP hD hS () [] (by decide) (Or.inr (⟨rfl, by omega, by omega⟩)) (by decide) rfl (Nat.le_of_ble_eq_true rfl) (Nat.le_of_ble_eq_true rfl) dX7_isBlank_17
    · have ic_2 := gz_eqn (rfl : x.toInt = x.toInt) (by decide : (10 : Int32).toInt = 10) c_2
      refine lv_iconst (v := 1) hx hb dX7_isBlank_12 (by decide) ?_
      refine lv_goto (tgt := 17) hx hb dX7_isBlank_13 (by decide) ?_
      exact gz_iret (cf := (fun (u : Unit) => [])) (post := (fun (r : Int32) (u : Unit) => (r = 1 ∧ (Xx = 32 ∨ Xx = 10)) ∨ (r = 0 ∧ (¬ Xx = 32) ∧ (¬ Xx = 10)))) hx hb hr hlocks hK hP hD hS () [] (by decide) (Or.inl (⟨rfl, by omega⟩)) (by decide) rfl (Nat.le_of_ble_eq_true rfl) (Nat.le_of_ble_eq_true rfl) dX7_isBlank_17

set_option maxHeartbeats 4000000 in
set_option maxRecDepth 100000 in
/-- WellCourt$Ledger.has -/
theorem c_X5_has (l : Launch) (G : va_G) (cy : Nat → ClassId) (sz : Nat) (h0 : Nat) (a0 : Nat) (x : Int32) (Xx : Int) (kx : x.toInt = Xx)  : gMi l yX5_has cX5_has 2 (some .boolean) ({ frames := 0, cells := 0, slots := 0, locals := 0 }) G cy sz [.ref h0, .int x] [(h0, .inr (5, [.ref a0, .int 0]))] (fun (r : Int32) (u : Unit) => r = 0) (fun (u : Unit) => [(h0, .inr (5, [.ref a0, .int 0]))]) := by
  refine gz_start (fun A => gQi G cy _ _ A) (by decide) (Nat.le_of_ble_eq_true rfl) ?_
  intro p e s m below meth c A ls H hx hb hr hml hlocks hin hown hts hK hov hsz hP hD hS hA hl
  have hl : lv_has ls 2 [(0, .ref h0), (1, .int x)] := hl
  refine lv_iload_n hx hb dX5_has_0 rfl (lv_at hl 1 rfl) ?_
  refine lv_if_lt (tgt := 16) hx hb dX5_has_1 (by decide) (fun c_1 => ?_) (fun c_1 => ?_)
  · have ic_1 := gz_lt (rfl : x.toInt = x.toInt) (by decide : (0 : Int32).toInt = 0) c_1
    refine lv_iconst (v := 0) hx hb dX5_has_16 (by decide) ?_
    exact gz_iret (cf := (fun (u : Unit) => [(h0, .inr (5, [.ref a0, .int 0]))])) (post := (fun (r : Int32) (u : Unit) => r = 0)) hx hb hr hlocks hK hP hD hS () [0] (by decide) rfl (by decide) rfl (Nat.le_of_ble_eq_true rfl) (Nat.le_of_ble_eq_true rfl) dX5_has_17
  · have ic_1 := gz_nlt (rfl : x.toInt = x.toInt) (by decide : (0 : Int32).toInt = 0) c_1
    refine lv_iload_n hx hb dX5_has_4 rfl (lv_at hl 1 rfl) ?_
    refine lv_aload_n hx hb dX5_has_5 rfl (lv_at hl 0 rfl) ?_
    refine va_get (ci := 5) (v := .int 0) (C := RX5) (T := TX5) (N := 2) hx hb hts inX5 hown hK hP 0 rfl rfl 1 (by decide) (hts _ gm_143) (fun _ h9 => h9) rfl dX5_has_6 ?_
    refine lv_icmp_ge (tgt := 16) hx hb dX5_has_9 (by decide) (fun c_2 => ?_) (fun c_2 => ?_)
    · have ic_2 := gz_le (by decide : (0 : Int32).toInt = 0) (rfl : x.toInt = x.toInt) c_2
      refine lv_iconst (v := 0) hx hb dX5_has_16 (by decide) ?_
      exact gz_iret (cf := (fun (u : Unit) => [(h0, .inr (5, [.ref a0, .int 0]))])) (post := (fun (r : Int32) (u : Unit) => r = 0)) hx hb hr hlocks hK hP hD hS () [0] (by decide) rfl (by decide) rfl (Nat.le_of_ble_eq_true rfl) (Nat.le_of_ble_eq_true rfl) dX5_has_17
    · have ic_2 := gz_nle (by decide : (0 : Int32).toInt = 0) (rfl : x.toInt = x.toInt) c_2
      refine lv_iconst (v := 1) hx hb dX5_has_12 (by decide) ?_
      refine lv_goto (tgt := 17) hx hb dX5_has_13 (by decide) ?_
      exfalso; omega

set_option maxHeartbeats 4000000 in
set_option maxRecDepth 100000 in
/-- WellCourt$Law.turnOn -/
theorem c_X4_turnOn (l : Launch) (G : va_G) (cy : Nat → ClassId) (sz : Nat) (h0 : Nat) (a0 : Nat) (a1 : Nat) (a2 : Nat) (a3 : Nat) (a4 : Nat) (a5 : Nat) (a6 : Nat) (a7 : Nat) (a8 : Nat) (a9 : Nat) (a10 : Nat) (x : Int32) (y : Int32) (Xx : Int) (Xy : Int) (kx : x.toInt = Xx) (ky : y.toInt = Xy) (hx0 : 0 ≤ Xx) (hx1 : Xx < 6) : gMi l yX4_turnOn cX4_turnOn 4 (some .int) ({ frames := 0, cells := 0, slots := 0, locals := 0 }) G cy sz [.ref h0, .int x, .int y] [(h0, .inr (4, [.int 0, .ref a0, .ref a1, .ref a2, .ref a3, .int 0, .ref a4, .ref a5, .ref a6, .int 0, .ref a7, .ref a8, .ref a9, .ref a10])), (a1, .inl (cy 0, 6, .inl (fun _ => 0)))] (fun (r : Int32) (u : Unit) => r = (-1)) (fun (u : Unit) => [(h0, .inr (4, [.int 0, .ref a0, .ref a1, .ref a2, .ref a3, .int 0, .ref a4, .ref a5, .ref a6, .int 0, .ref a7, .ref a8, .ref a9, .ref a10])), (a1, .inl (cy 0, 6, .inl (fun _ => 0)))]) := by
  refine gz_start (fun A => gQi G cy _ _ A) (by decide) (Nat.le_of_ble_eq_true rfl) ?_
  intro p e s m below meth c A ls H hx hb hr hml hlocks hin hown hts hK hov hsz hP hD hS hA hl
  have hl : lv_has ls 4 [(0, .ref h0), (1, .int x), (2, .int y)] := hl
  refine lv_aload_n hx hb dX4_turnOn_0 rfl (lv_at hl 0 rfl) ?_
  refine va_get (ci := 4) (v := .ref a1) (C := RX4) (T := TX4) (N := 14) hx hb hts inX4 hown hK hP 0 rfl rfl 2 (by decide) (hts _ gm_192) (fun _ h9 => h9) rfl dX4_turnOn_1 ?_
  refine lv_iload_n hx hb dX4_turnOn_4 rfl (lv_at hl 1 rfl) ?_
  refine va_iald hx hb hK hP 1 0 rfl rfl (vp_in_iff.mpr ⟨by omega, by omega⟩) dX4_turnOn_5 ?_
  refine lv_topi (fun x_1 ex_1 => ?_)
  obtain rfl : x_1 = (0 : Int32) := ex_1
  refine lv_istore_n (lv' := [(3, .int 0), (0, .ref h0), (1, .int x), (2, .int y)]) hx hb dX4_turnOn_6 rfl hl (by decide) rfl (fun ls hl => ?_)
  refine lv_iload_n hx hb dX4_turnOn_7 rfl (lv_at hl 0 rfl) ?_
  refine lv_if_le (tgt := 24) hx hb dX4_turnOn_8 (by decide) (fun _ => ?_) (fun h9 => absurd (by decide) h9)
  refine lv_iconst (v := (-1)) hx hb dX4_turnOn_24 (by decide) ?_
  exact gz_iret (cf := (fun (u : Unit) => [(h0, .inr (4, [.int 0, .ref a0, .ref a1, .ref a2, .ref a3, .int 0, .ref a4, .ref a5, .ref a6, .int 0, .ref a7, .ref a8, .ref a9, .ref a10])), (a1, .inl (cy 0, 6, .inl (fun _ => 0)))])) (post := (fun (r : Int32) (u : Unit) => r = (-1))) hx hb hr hlocks hK hP hD hS () [0, 1] rfl rfl (by decide) rfl (Nat.le_of_ble_eq_true rfl) (Nat.le_of_ble_eq_true rfl) dX4_turnOn_25

set_option maxHeartbeats 4000000 in
set_option maxRecDepth 100000 in
/-- WellCourt$Law.droughtOwner -/
theorem c_X4_droughtOwner (l : Launch) (G : va_G) (cy : Nat → ClassId) (sz : Nat) (h0 : Nat) (a0 : Nat) (a1 : Nat) (a2 : Nat) (a3 : Nat) (a4 : Nat) (a5 : Nat) (a6 : Nat) (a7 : Nat) (a8 : Nat) (a9 : Nat) (a10 : Nat) (x : Int32) (y : Int32) (Xx : Int) (Xy : Int) (kx : x.toInt = Xx) (ky : y.toInt = Xy)  : gMi l yX4_droughtOwner cX4_droughtOwner 4 (some .int) ({ frames := 0, cells := 0, slots := 0, locals := 0 }) G cy sz [.ref h0, .int x, .int y] [(h0, .inr (4, [.int 0, .ref a0, .ref a1, .ref a2, .ref a3, .int 0, .ref a4, .ref a5, .ref a6, .int 0, .ref a7, .ref a8, .ref a9, .ref a10]))] (fun (r : Int32) (u : Unit) => r = (-1)) (fun (u : Unit) => [(h0, .inr (4, [.int 0, .ref a0, .ref a1, .ref a2, .ref a3, .int 0, .ref a4, .ref a5, .ref a6, .int 0, .ref a7, .ref a8, .ref a9, .ref a10]))]) := by
  refine gz_start (fun A => gQi G cy _ _ A) (by decide) (Nat.le_of_ble_eq_true rfl) ?_
  intro p e s m below meth c A ls H hx hb hr hml hlocks hin hown hts hK hov hsz hP hD hS hA hl
  have hl : lv_has ls 4 [(0, .ref h0), (1, .int x), (2, .int y)] := hl
  refine lv_iconst (v := 0) hx hb dX4_droughtOwner_0 (by decide) ?_
  refine lv_istore_n (lv' := [(3, .int 0), (0, .ref h0), (1, .int x), (2, .int y)]) hx hb dX4_droughtOwner_1 rfl hl (by decide) rfl (fun ls hl => ?_)
  refine lv_iload_n hx hb dX4_droughtOwner_2 rfl (lv_at hl 0 rfl) ?_
  refine lv_aload_n hx hb dX4_droughtOwner_3 rfl (lv_at hl 1 rfl) ?_
  refine va_get (ci := 4) (v := .int 0) (C := RX4) (T := TX4) (N := 14) hx hb hts inX4 hown hK hP 0 rfl rfl 5 (by decide) (hts _ gm_195) (fun _ h9 => h9) rfl dX4_droughtOwner_4 ?_
  refine lv_icmp_ge (tgt := 48) hx hb dX4_droughtOwner_7 (by decide) (fun _ => ?_) (fun h9 => absurd (by decide) h9)
  refine lv_iconst (v := (-1)) hx hb dX4_droughtOwner_48 (by decide) ?_
  exact gz_iret (cf := (fun (u : Unit) => [(h0, .inr (4, [.int 0, .ref a0, .ref a1, .ref a2, .ref a3, .int 0, .ref a4, .ref a5, .ref a6, .int 0, .ref a7, .ref a8, .ref a9, .ref a10]))])) (post := (fun (r : Int32) (u : Unit) => r = (-1))) hx hb hr hlocks hK hP hD hS () [0] rfl rfl (by decide) rfl (Nat.le_of_ble_eq_true rfl) (Nat.le_of_ble_eq_true rfl) dX4_droughtOwner_49

set_option maxHeartbeats 4000000 in
set_option maxRecDepth 100000 in
/-- WellCourt$Calendar.ownerOn -/
theorem c_X0_ownerOn (l : Launch) (G : va_G) (cy : Nat → ClassId) (sz : Nat) (h0 : Nat) (a0 : Nat) (rr : Nat → Nat) (x : Int32) (y : Int32) (Xx : Int) (Xy : Int) (kx : x.toInt = Xx) (ky : y.toInt = Xy) : gMi l yX0_ownerOn cX0_ownerOn 3 (some .int) ({ frames := 1, cells := 0, slots := 0, locals := 20 }) G cy sz [.ref h0, .int x, .int y] [(h0, .inr (0, [.ref a0])), (a0, .inl (cy 3, 6, .inr (.inr (.inr (.inr (fun i => if i < 6 then some (rr i) else none)))))), ((rr 0), .inl (cy 0, 200, .inl (fun _ => (-1)))), ((rr 1), .inl (cy 0, 200, .inl (fun _ => (-1)))), ((rr 2), .inl (cy 0, 200, .inl (fun _ => (-1)))), ((rr 3), .inl (cy 0, 200, .inl (fun _ => (-1)))), ((rr 4), .inl (cy 0, 200, .inl (fun _ => (-1)))), ((rr 5), .inl (cy 0, 200, .inl (fun _ => (-1))))] (fun (r : Int32) (u : Unit) => r = (-1)) (fun (u : Unit) => [(h0, .inr (0, [.ref a0])), (a0, .inl (cy 3, 6, .inr (.inr (.inr (.inr (fun i => if i < 6 then some (rr i) else none)))))), ((rr 0), .inl (cy 0, 200, .inl (fun _ => (-1)))), ((rr 1), .inl (cy 0, 200, .inl (fun _ => (-1)))), ((rr 2), .inl (cy 0, 200, .inl (fun _ => (-1)))), ((rr 3), .inl (cy 0, 200, .inl (fun _ => (-1)))), ((rr 4), .inl (cy 0, 200, .inl (fun _ => (-1)))), ((rr 5), .inl (cy 0, 200, .inl (fun _ => (-1))))]) := by
  refine gz_start (fun A => gQi G cy _ _ A) (by decide) (Nat.le_of_ble_eq_true rfl) ?_
  intro p e s m below meth c A ls H hx hb hr hml hlocks hin hown hts hK hov hsz hP hD hS hA hl
  have hl : lv_has ls 3 [(0, .ref h0), (1, .int x), (2, .int y)] := hl
  refine lv_iload_n hx hb dX0_ownerOn_0 rfl (lv_at hl 1 rfl) ?_
  refine gz_afti (va_runSN (As := [.int x]) (rest := []) ⟨hx, hb, hml, hown, hts⟩ (c_isWell l G cy H.size x x.toInt rfl) ⟨(va_cnB 1 hts (gz_good gm_346) rfl rfl rfl (hov.2.2 _ gn_559) (hts _ gm_1) ⟨by decide +kernel, by decide +kernel, by decide +kernel⟩ ⟨Nat.le_of_ble_eq_true rfl, Nat.le_of_ble_eq_true rfl⟩), hts _ gm_345, trivial⟩ (gz_preS hK hov hP hD [] (by decide) rfl) rfl rfl hl.1 rfl (lv_room (Nat.le_of_ble_eq_true rfl)) dX0_ownerOn_1 ⟨Nat.le_of_ble_eq_true rfl, Nat.le_of_ble_eq_true rfl⟩) hP hD hS hA [] [0, 1, 2, 3, 4, 5, 6, 7] rfl rfl (by decide) (by decide) (fun r_1 u_1 H locs hw_1 hP hD hS => ?_)
  have hP : va_P G vwCl [(h0, .inr (0, [.ref a0])), (a0, .inl (cy 3, 6, .inr (.inr (.inr (.inr (fun i => if i < 6 then some (rr i) else none)))))), ((rr 0), .inl (cy 0, 200, .inl (fun _ => (-1)))), ((rr 1), .inl (cy 0, 200, .inl (fun _ => (-1)))), ((rr 2), .inl (cy 0, 200, .inl (fun _ => (-1)))), ((rr 3), .inl (cy 0, 200, .inl (fun _ => (-1)))), ((rr 4), .inl (cy 0, 200, .inl (fun _ => (-1)))), ((rr 5), .inl (cy 0, 200, .inl (fun _ => (-1))))] H := hP
  have hD : va_D A [(h0, .inr (0, [.ref a0])), (a0, .inl (cy 3, 6, .inr (.inr (.inr (.inr (fun i => if i < 6 then some (rr i) else none)))))), ((rr 0), .inl (cy 0, 200, .inl (fun _ => (-1)))), ((rr 1), .inl (cy 0, 200, .inl (fun _ => (-1)))), ((rr 2), .inl (cy 0, 200, .inl (fun _ => (-1)))), ((rr 3), .inl (cy 0, 200, .inl (fun _ => (-1)))), ((rr 4), .inl (cy 0, 200, .inl (fun _ => (-1)))), ((rr 5), .inl (cy 0, 200, .inl (fun _ => (-1))))] := hD
  rcases hw_1 with ⟨rfl, hw_1_0, hw_1_1⟩ | ⟨rfl, hw_1_0⟩
  · skip
    refine lv_if_eq (tgt := 25) hx hb dX0_ownerOn_4 (by decide) (fun h9 => absurd h9 (by decide)) (fun _ => ?_)
    refine lv_iload_n hx hb dX0_ownerOn_7 rfl (lv_at hl 2 rfl) ?_
    refine gz_afti (va_runSN (As := [.int y]) (rest := []) ⟨hx, hb, hml, hown, hts⟩ (c_isDate l G cy H.size y y.toInt rfl) ⟨(va_cnB 1 hts (gz_good gm_562) rfl rfl rfl (hov.2.2 _ gn_560) (hts _ gm_1) ⟨by decide +kernel, by decide +kernel, by decide +kernel⟩ ⟨Nat.le_of_ble_eq_true rfl, Nat.le_of_ble_eq_true rfl⟩), hts _ gm_561, trivial⟩ (gz_preS hK hov hP hD [] (by decide) rfl) rfl rfl hl.1 rfl (lv_room (Nat.le_of_ble_eq_true rfl)) dX0_ownerOn_8 ⟨Nat.le_of_ble_eq_true rfl, Nat.le_of_ble_eq_true rfl⟩) hP hD hS hA [] [0, 1, 2, 3, 4, 5, 6, 7] rfl rfl (by decide) (by decide) (fun r_2 u_2 H locs hw_2 hP hD hS => ?_)
    have hP : va_P G vwCl [(h0, .inr (0, [.ref a0])), (a0, .inl (cy 3, 6, .inr (.inr (.inr (.inr (fun i => if i < 6 then some (rr i) else none)))))), ((rr 0), .inl (cy 0, 200, .inl (fun _ => (-1)))), ((rr 1), .inl (cy 0, 200, .inl (fun _ => (-1)))), ((rr 2), .inl (cy 0, 200, .inl (fun _ => (-1)))), ((rr 3), .inl (cy 0, 200, .inl (fun _ => (-1)))), ((rr 4), .inl (cy 0, 200, .inl (fun _ => (-1)))), ((rr 5), .inl (cy 0, 200, .inl (fun _ => (-1))))] H := hP
    have hD : va_D A [(h0, .inr (0, [.ref a0])), (a0, .inl (cy 3, 6, .inr (.inr (.inr (.inr (fun i => if i < 6 then some (rr i) else none)))))), ((rr 0), .inl (cy 0, 200, .inl (fun _ => (-1)))), ((rr 1), .inl (cy 0, 200, .inl (fun _ => (-1)))), ((rr 2), .inl (cy 0, 200, .inl (fun _ => (-1)))), ((rr 3), .inl (cy 0, 200, .inl (fun _ => (-1)))), ((rr 4), .inl (cy 0, 200, .inl (fun _ => (-1)))), ((rr 5), .inl (cy 0, 200, .inl (fun _ => (-1))))] := hD
    rcases hw_2 with ⟨rfl, hw_2_0, hw_2_1⟩ | ⟨rfl, hw_2_0⟩
    · skip
      refine lv_if_eq (tgt := 25) hx hb dX0_ownerOn_11 (by decide) (fun h9 => absurd h9 (by decide)) (fun _ => ?_)
      refine lv_aload_n hx hb dX0_ownerOn_14 rfl (lv_at hl 0 rfl) ?_
      refine va_get (ci := 0) (v := .ref a0) (C := RX0) (T := TX0) (N := 1) hx hb hts inX0 hown hK hP 0 rfl rfl 0 (by decide) (hts _ gm_109) (fun _ h9 => h9) rfl dX0_ownerOn_15 ?_
      refine lv_iload_n hx hb dX0_ownerOn_18 rfl (lv_at hl 1 rfl) ?_
      rcases gz_six (w := x) (by omega) (by omega) with rfl | rfl | rfl | rfl | rfl | rfl
      · skip
        refine gz_alda hx hb hK hP 1 rfl (vp_in_iff.mpr (by decide)) dX0_ownerOn_19 (v := .ref (rr 0)) rfl ?_
        refine lv_iload_n hx hb dX0_ownerOn_20 rfl (lv_at hl 2 rfl) ?_
        refine va_iald hx hb hK hP 2 0 rfl rfl (vp_in_iff.mpr ⟨by omega, by omega⟩) dX0_ownerOn_21 ?_
        refine lv_topi (fun x_3 ex_3 => ?_)
        obtain rfl : x_3 = (-1 : Int32) := ex_3
        refine lv_goto (tgt := 26) hx hb dX0_ownerOn_22 (by decide) ?_
        exact gz_iret (cf := (fun (u : Unit) => [(h0, .inr (0, [.ref a0])), (a0, .inl (cy 3, 6, .inr (.inr (.inr (.inr (fun i => if i < 6 then some (rr i) else none)))))), ((rr 0), .inl (cy 0, 200, .inl (fun _ => (-1)))), ((rr 1), .inl (cy 0, 200, .inl (fun _ => (-1)))), ((rr 2), .inl (cy 0, 200, .inl (fun _ => (-1)))), ((rr 3), .inl (cy 0, 200, .inl (fun _ => (-1)))), ((rr 4), .inl (cy 0, 200, .inl (fun _ => (-1)))), ((rr 5), .inl (cy 0, 200, .inl (fun _ => (-1))))])) (post := (fun (r : Int32) (u : Unit) => r = (-1))) hx hb hr hlocks hK hP hD hS () [0, 1, 2, 3, 4, 5, 6, 7] rfl rfl (by decide) rfl (Nat.le_of_ble_eq_true rfl) (Nat.le_of_ble_eq_true rfl) dX0_ownerOn_26
      · skip
        refine gz_alda hx hb hK hP 1 rfl (vp_in_iff.mpr (by decide)) dX0_ownerOn_19 (v := .ref (rr 1)) rfl ?_
        refine lv_iload_n hx hb dX0_ownerOn_20 rfl (lv_at hl 2 rfl) ?_
        refine va_iald hx hb hK hP 3 0 rfl rfl (vp_in_iff.mpr ⟨by omega, by omega⟩) dX0_ownerOn_21 ?_
        refine lv_topi (fun x_4 ex_4 => ?_)
        obtain rfl : x_4 = (-1 : Int32) := ex_4
        refine lv_goto (tgt := 26) hx hb dX0_ownerOn_22 (by decide) ?_
        exact gz_iret (cf := (fun (u : Unit) => [(h0, .inr (0, [.ref a0])), (a0, .inl (cy 3, 6, .inr (.inr (.inr (.inr (fun i => if i < 6 then some (rr i) else none)))))), ((rr 0), .inl (cy 0, 200, .inl (fun _ => (-1)))), ((rr 1), .inl (cy 0, 200, .inl (fun _ => (-1)))), ((rr 2), .inl (cy 0, 200, .inl (fun _ => (-1)))), ((rr 3), .inl (cy 0, 200, .inl (fun _ => (-1)))), ((rr 4), .inl (cy 0, 200, .inl (fun _ => (-1)))), ((rr 5), .inl (cy 0, 200, .inl (fun _ => (-1))))])) (post := (fun (r : Int32) (u : Unit) => r = (-1))) hx hb hr hlocks hK hP hD hS () [0, 1, 2, 3, 4, 5, 6, 7] rfl rfl (by decide) rfl (Nat.le_of_ble_eq_true rfl) (Nat.le_of_ble_eq_true rfl) dX0_ownerOn_26
      · skip
        refine gz_alda hx hb hK hP 1 rfl (vp_in_iff.mpr (by decide)) dX0_ownerOn_19 (v := .ref (rr 2)) rfl ?_
        refine lv_iload_n hx hb dX0_ownerOn_20 rfl (lv_at hl 2 rfl) ?_
        refine va_iald hx hb hK hP 4 0 rfl rfl (vp_in_iff.mpr ⟨by omega, by omega⟩) dX0_ownerOn_21 ?_
        refine lv_topi (fun x_5 ex_5 => ?_)
        obtain rfl : x_5 = (-1 : Int32) := ex_5
        refine lv_goto (tgt := 26) hx hb dX0_ownerOn_22 (by decide) ?_
        exact gz_iret (cf := (fun (u : Unit) => [(h0, .inr (0, [.ref a0])), (a0, .inl (cy 3, 6, .inr (.inr (.inr (.inr (fun i => if i < 6 then some (rr i) else none)))))), ((rr 0), .inl (cy 0, 200, .inl (fun _ => (-1)))), ((rr 1), .inl (cy 0, 200, .inl (fun _ => (-1)))), ((rr 2), .inl (cy 0, 200, .inl (fun _ => (-1)))), ((rr 3), .inl (cy 0, 200, .inl (fun _ => (-1)))), ((rr 4), .inl (cy 0, 200, .inl (fun _ => (-1)))), ((rr 5), .inl (cy 0, 200, .inl (fun _ => (-1))))])) (post := (fun (r : Int32) (u : Unit) => r = (-1))) hx hb hr hlocks hK hP hD hS () [0, 1, 2, 3, 4, 5, 6, 7] rfl rfl (by decide) rfl (Nat.le_of_ble_eq_true rfl) (Nat.le_of_ble_eq_true rfl) dX0_ownerOn_26
      · skip
        refine gz_alda hx hb hK hP 1 rfl (vp_in_iff.mpr (by decide)) dX0_ownerOn_19 (v := .ref (rr 3)) rfl ?_
        refine lv_iload_n hx hb dX0_ownerOn_20 rfl (lv_at hl 2 rfl) ?_
        refine va_iald hx hb hK hP 5 0 rfl rfl (vp_in_iff.mpr ⟨by omega, by omega⟩) dX0_ownerOn_21 ?_
        refine lv_topi (fun x_6 ex_6 => ?_)
        obtain rfl : x_6 = (-1 : Int32) := ex_6
        refine lv_goto (tgt := 26) hx hb dX0_ownerOn_22 (by decide) ?_
        exact gz_iret (cf := (fun (u : Unit) => [(h0, .inr (0, [.ref a0])), (a0, .inl (cy 3, 6, .inr (.inr (.inr (.inr (fun i => if i < 6 then some (rr i) else none)))))), ((rr 0), .inl (cy 0, 200, .inl (fun _ => (-1)))), ((rr 1), .inl (cy 0, 200, .inl (fun _ => (-1)))), ((rr 2), .inl (cy 0, 200, .inl (fun _ => (-1)))), ((rr 3), .inl (cy 0, 200, .inl (fun _ => (-1)))), ((rr 4), .inl (cy 0, 200, .inl (fun _ => (-1)))), ((rr 5), .inl (cy 0, 200, .inl (fun _ => (-1))))])) (post := (fun (r : Int32) (u : Unit) => r = (-1))) hx hb hr hlocks hK hP hD hS () [0, 1, 2, 3, 4, 5, 6, 7] rfl rfl (by decide) rfl (Nat.le_of_ble_eq_true rfl) (Nat.le_of_ble_eq_true rfl) dX0_ownerOn_26
      · skip
        refine gz_alda hx hb hK hP 1 rfl (vp_in_iff.mpr (by decide)) dX0_ownerOn_19 (v := .ref (rr 4)) rfl ?_
        refine lv_iload_n hx hb dX0_ownerOn_20 rfl (lv_at hl 2 rfl) ?_
        refine va_iald hx hb hK hP 6 0 rfl rfl (vp_in_iff.mpr ⟨by omega, by omega⟩) dX0_ownerOn_21 ?_
        refine lv_topi (fun x_7 ex_7 => ?_)
        obtain rfl : x_7 = (-1 : Int32) := ex_7
        refine lv_goto (tgt := 26) hx hb dX0_ownerOn_22 (by decide) ?_
        exact gz_iret (cf := (fun (u : Unit) => [(h0, .inr (0, [.ref a0])), (a0, .inl (cy 3, 6, .inr (.inr (.inr (.inr (fun i => if i < 6 then some (rr i) else none)))))), ((rr 0), .inl (cy 0, 200, .inl (fun _ => (-1)))), ((rr 1), .inl (cy 0, 200, .inl (fun _ => (-1)))), ((rr 2), .inl (cy 0, 200, .inl (fun _ => (-1)))), ((rr 3), .inl (cy 0, 200, .inl (fun _ => (-1)))), ((rr 4), .inl (cy 0, 200, .inl (fun _ => (-1)))), ((rr 5), .inl (cy 0, 200, .inl (fun _ => (-1))))])) (post := (fun (r : Int32) (u : Unit) => r = (-1))) hx hb hr hlocks hK hP hD hS () [0, 1, 2, 3, 4, 5, 6, 7] rfl rfl (by decide) rfl (Nat.le_of_ble_eq_true rfl) (Nat.le_of_ble_eq_true rfl) dX0_ownerOn_26
      · skip
        refine gz_alda hx hb hK hP 1 rfl (vp_in_iff.mpr (by decide)) dX0_ownerOn_19 (v := .ref (rr 5)) rfl ?_
        refine lv_iload_n hx hb dX0_ownerOn_20 rfl (lv_at hl 2 rfl) ?_
        refine va_iald hx hb hK hP 7 0 rfl rfl (vp_in_iff.mpr ⟨by omega, by omega⟩) dX0_ownerOn_21 ?_
        refine lv_topi (fun x_8 ex_8 => ?_)
        obtain rfl : x_8 = (-1 : Int32) := ex_8
        refine lv_goto (tgt := 26) hx hb dX0_ownerOn_22 (by decide) ?_
        exact gz_iret (cf := (fun (u : Unit) => [(h0, .inr (0, [.ref a0])), (a0, .inl (cy 3, 6, .inr (.inr (.inr (.inr (fun i => if i < 6 then some (rr i) else none)))))), ((rr 0), .inl (cy 0, 200, .inl (fun _ => (-1)))), ((rr 1), .inl (cy 0, 200, .inl (fun _ => (-1)))), ((rr 2), .inl (cy 0, 200, .inl (fun _ => (-1)))), ((rr 3), .inl (cy 0, 200, .inl (fun _ => (-1)))), ((rr 4), .inl (cy 0, 200, .inl (fun _ => (-1)))), ((rr 5), .inl (cy 0, 200, .inl (fun _ => (-1))))])) (post := (fun (r : Int32) (u : Unit) => r = (-1))) hx hb hr hlocks hK hP hD hS () [0, 1, 2, 3, 4, 5, 6, 7] rfl rfl (by decide) rfl (Nat.le_of_ble_eq_true rfl) (Nat.le_of_ble_eq_true rfl) dX0_ownerOn_26
    · skip
      refine lv_if_eq (tgt := 25) hx hb dX0_ownerOn_11 (by decide) (fun _ => ?_) (fun h9 => absurd (by decide) h9)
      refine lv_iconst (v := (-1)) hx hb dX0_ownerOn_25 (by decide) ?_
      exact gz_iret (cf := (fun (u : Unit) => [(h0, .inr (0, [.ref a0])), (a0, .inl (cy 3, 6, .inr (.inr (.inr (.inr (fun i => if i < 6 then some (rr i) else none)))))), ((rr 0), .inl (cy 0, 200, .inl (fun _ => (-1)))), ((rr 1), .inl (cy 0, 200, .inl (fun _ => (-1)))), ((rr 2), .inl (cy 0, 200, .inl (fun _ => (-1)))), ((rr 3), .inl (cy 0, 200, .inl (fun _ => (-1)))), ((rr 4), .inl (cy 0, 200, .inl (fun _ => (-1)))), ((rr 5), .inl (cy 0, 200, .inl (fun _ => (-1))))])) (post := (fun (r : Int32) (u : Unit) => r = (-1))) hx hb hr hlocks hK hP hD hS () [0, 1, 2, 3, 4, 5, 6, 7] rfl rfl (by decide) rfl (Nat.le_of_ble_eq_true rfl) (Nat.le_of_ble_eq_true rfl) dX0_ownerOn_26
  · skip
    refine lv_if_eq (tgt := 25) hx hb dX0_ownerOn_4 (by decide) (fun _ => ?_) (fun h9 => absurd (by decide) h9)
    refine lv_iconst (v := (-1)) hx hb dX0_ownerOn_25 (by decide) ?_
    exact gz_iret (cf := (fun (u : Unit) => [(h0, .inr (0, [.ref a0])), (a0, .inl (cy 3, 6, .inr (.inr (.inr (.inr (fun i => if i < 6 then some (rr i) else none)))))), ((rr 0), .inl (cy 0, 200, .inl (fun _ => (-1)))), ((rr 1), .inl (cy 0, 200, .inl (fun _ => (-1)))), ((rr 2), .inl (cy 0, 200, .inl (fun _ => (-1)))), ((rr 3), .inl (cy 0, 200, .inl (fun _ => (-1)))), ((rr 4), .inl (cy 0, 200, .inl (fun _ => (-1)))), ((rr 5), .inl (cy 0, 200, .inl (fun _ => (-1))))])) (post := (fun (r : Int32) (u : Unit) => r = (-1))) hx hb hr hlocks hK hP hD hS () [0, 1, 2, 3, 4, 5, 6, 7] rfl rfl (by decide) rfl (Nat.le_of_ble_eq_true rfl) (Nat.le_of_ble_eq_true rfl) dX0_ownerOn_26
