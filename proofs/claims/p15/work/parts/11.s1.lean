theorem gm_1 : (Jvm.Cond.initialized "WellCourt") ∈ gz_T := gz_at 1 (by decide +kernel) rfl
theorem gm_2 : (Jvm.Cond.initialized "WellCourt$Tape") ∈ gz_T := gz_at 2 (by decide +kernel) rfl
theorem gm_3 : (Jvm.Cond.initialized "WellCourt$Reader") ∈ gz_T := gz_at 3 (by decide +kernel) rfl
theorem gm_4 : (Jvm.Cond.initialized "WellCourt$Land") ∈ gz_T := gz_at 4 (by decide +kernel) rfl
theorem gm_9 : (Jvm.Cond.initialized "WellCourt$Flock") ∈ gz_T := gz_at 9 (by decide +kernel) rfl
theorem gm_38 : (Jvm.Cond.fieldLink "WellCourt$Tape" (9 : Nat) "WellCourt$Tape" "bytes" "[B") ∈ gz_T := gz_at 38 (by decide +kernel) rfl
theorem gm_39 : (Jvm.Cond.fieldLink "WellCourt$Tape" (15 : Nat) "WellCourt$Tape" "size" "I") ∈ gz_T := gz_at 39 (by decide +kernel) rfl
theorem gm_53 : (Jvm.Cond.fieldLink "WellCourt$Reader" (27 : Nat) "WellCourt$Reader" "tape" "LWellCourt$Tape;") ∈ gz_T := gz_at 53 (by decide +kernel) rfl
theorem gm_54 : (Jvm.Cond.fieldLink "WellCourt$Reader" (11 : Nat) "WellCourt$Reader" "kind" "I") ∈ gz_T := gz_at 54 (by decide +kernel) rfl
theorem gm_55 : (Jvm.Cond.fieldLink "WellCourt$Reader" (15 : Nat) "WellCourt$Reader" "start" "I") ∈ gz_T := gz_at 55 (by decide +kernel) rfl
theorem gm_56 : (Jvm.Cond.fieldLink "WellCourt$Reader" (18 : Nat) "WellCourt$Reader" "stop" "I") ∈ gz_T := gz_at 56 (by decide +kernel) rfl
theorem gm_57 : (Jvm.Cond.fieldLink "WellCourt$Reader" (21 : Nat) "WellCourt$Reader" "faultKind" "I") ∈ gz_T := gz_at 57 (by decide +kernel) rfl
theorem gm_59 : (Jvm.Cond.fieldLink "WellCourt$Reader" (24 : Nat) "WellCourt$Reader" "faultPlace" "I") ∈ gz_T := gz_at 59 (by decide +kernel) rfl
theorem gm_82 : (Jvm.Cond.fieldLink "WellCourt$Land" (9 : Nat) "WellCourt$Land" "cap" "[I") ∈ gz_T := gz_at 82 (by decide +kernel) rfl
theorem gm_143 : (Jvm.Cond.fieldLink "WellCourt$Ledger" (16 : Nat) "WellCourt$Ledger" "size" "I") ∈ gz_T := gz_at 143 (by decide +kernel) rfl
theorem gm_157 : (Jvm.Cond.fieldLink "WellCourt$Flock" (9 : Nat) "WellCourt$Flock" "clan" "[I") ∈ gz_T := gz_at 157 (by decide +kernel) rfl
theorem gm_293 : (Jvm.Cond.fieldLink "WellCourt" (28 : Nat) "WellCourt" "land" "LWellCourt$Land;") ∈ gz_T := gz_at 293 (by decide +kernel) rfl
theorem gm_344 : (Jvm.Cond.methodLink "WellCourt" (93 : Nat) ({ cls := "WellCourt", name := "isWell", desc := "(I)Z" } : Jvm.MethodName)) ∈ gz_T := gz_at 344 (by decide +kernel) rfl
theorem gm_345 : (Jvm.Cond.static ({ cls := "WellCourt", name := "isWell", desc := "(I)Z" } : Jvm.MethodName)) ∈ gz_T := gz_at 345 (by decide +kernel) rfl
theorem gm_346 : (Jvm.Cond.code ({ cls := "WellCourt", name := "isWell", desc := "(I)Z" } : Jvm.MethodName) prog_1_method_30_code (1 : Nat) (Option.some Jvm.ClassFile.FieldType.boolean)) ∈ gz_T := gz_at 346 (by decide +kernel) rfl
theorem gm_347 : (Jvm.Cond.methodLink "WellCourt" (97 : Nat) ({ cls := "WellCourt$Land", name := "isThere", desc := "(I)Z" } : Jvm.MethodName)) ∈ gz_T := gz_at 347 (by decide +kernel) rfl
theorem gm_348 : (Jvm.Cond.instanceMethod ({ cls := "WellCourt$Land", name := "isThere", desc := "(I)Z" } : Jvm.MethodName)) ∈ gz_T := gz_at 348 (by decide +kernel) rfl
theorem gm_349 : (Jvm.Cond.selects "WellCourt$Land" ({ cls := "WellCourt$Land", name := "isThere", desc := "(I)Z" } : Jvm.MethodName) ({ cls := "WellCourt$Land", name := "isThere", desc := "(I)Z" } : Jvm.MethodName)) ∈ gz_T := gz_at 349 (by decide +kernel) rfl
theorem gm_350 : (Jvm.Cond.code ({ cls := "WellCourt$Land", name := "isThere", desc := "(I)Z" } : Jvm.MethodName) prog_5_method_2_code (2 : Nat) (Option.some Jvm.ClassFile.FieldType.boolean)) ∈ gz_T := gz_at 350 (by decide +kernel) rfl
theorem gm_371 : (Jvm.Cond.methodLink "WellCourt$Reader" (127 : Nat) ({ cls := "WellCourt$Tape", name := "byteAt", desc := "(I)I" } : Jvm.MethodName)) ∈ gz_T := gz_at 371 (by decide +kernel) rfl
theorem gm_372 : (Jvm.Cond.instanceMethod ({ cls := "WellCourt$Tape", name := "byteAt", desc := "(I)I" } : Jvm.MethodName)) ∈ gz_T := gz_at 372 (by decide +kernel) rfl
theorem gm_373 : (Jvm.Cond.selects "WellCourt$Tape" ({ cls := "WellCourt$Tape", name := "byteAt", desc := "(I)I" } : Jvm.MethodName) ({ cls := "WellCourt$Tape", name := "byteAt", desc := "(I)I" } : Jvm.MethodName)) ∈ gz_T := gz_at 373 (by decide +kernel) rfl
theorem gm_374 : (Jvm.Cond.code ({ cls := "WellCourt$Tape", name := "byteAt", desc := "(I)I" } : Jvm.MethodName) prog_10_method_3_code (2 : Nat) (Option.some Jvm.ClassFile.FieldType.int)) ∈ gz_T := gz_at 374 (by decide +kernel) rfl
theorem gm_375 : (Jvm.Cond.methodLink "WellCourt$Reader" (149 : Nat) ({ cls := "WellCourt$Reader", name := "isBlank", desc := "(I)Z" } : Jvm.MethodName)) ∈ gz_T := gz_at 375 (by decide +kernel) rfl
theorem gm_376 : (Jvm.Cond.static ({ cls := "WellCourt$Reader", name := "isBlank", desc := "(I)Z" } : Jvm.MethodName)) ∈ gz_T := gz_at 376 (by decide +kernel) rfl
theorem gm_377 : (Jvm.Cond.code ({ cls := "WellCourt$Reader", name := "isBlank", desc := "(I)Z" } : Jvm.MethodName) prog_9_method_19_code (1 : Nat) (Option.some Jvm.ClassFile.FieldType.boolean)) ∈ gz_T := gz_at 377 (by decide +kernel) rfl
theorem gm_378 : (Jvm.Cond.methodLink "WellCourt$Reader" (152 : Nat) ({ cls := "WellCourt$Reader", name := "isDigit", desc := "(I)Z" } : Jvm.MethodName)) ∈ gz_T := gz_at 378 (by decide +kernel) rfl
theorem gm_379 : (Jvm.Cond.static ({ cls := "WellCourt$Reader", name := "isDigit", desc := "(I)Z" } : Jvm.MethodName)) ∈ gz_T := gz_at 379 (by decide +kernel) rfl
theorem gm_380 : (Jvm.Cond.code ({ cls := "WellCourt$Reader", name := "isDigit", desc := "(I)Z" } : Jvm.MethodName) prog_9_method_20_code (1 : Nat) (Option.some Jvm.ClassFile.FieldType.boolean)) ∈ gz_T := gz_at 380 (by decide +kernel) rfl
theorem gm_381 : (Jvm.Cond.methodLink "WellCourt$Reader" (155 : Nat) ({ cls := "WellCourt$Reader", name := "isLetter", desc := "(I)Z" } : Jvm.MethodName)) ∈ gz_T := gz_at 381 (by decide +kernel) rfl
theorem gm_382 : (Jvm.Cond.static ({ cls := "WellCourt$Reader", name := "isLetter", desc := "(I)Z" } : Jvm.MethodName)) ∈ gz_T := gz_at 382 (by decide +kernel) rfl
theorem gm_383 : (Jvm.Cond.code ({ cls := "WellCourt$Reader", name := "isLetter", desc := "(I)Z" } : Jvm.MethodName) prog_9_method_22_code (1 : Nat) (Option.some Jvm.ClassFile.FieldType.boolean)) ∈ gz_T := gz_at 383 (by decide +kernel) rfl
theorem gm_384 : (Jvm.Cond.methodLink "WellCourt$Reader" (158 : Nat) ({ cls := "WellCourt$Reader", name := "readRun", desc := "()V" } : Jvm.MethodName)) ∈ gz_T := gz_at 384 (by decide +kernel) rfl
theorem gm_386 : (Jvm.Cond.instanceMethod ({ cls := "WellCourt$Reader", name := "readRun", desc := "()V" } : Jvm.MethodName)) ∈ gz_T := gz_at 386 (by decide +kernel) rfl
theorem gm_387 : (Jvm.Cond.code ({ cls := "WellCourt$Reader", name := "readRun", desc := "()V" } : Jvm.MethodName) prog_9_method_18_code (4 : Nat) (Option.none : Option Jvm.ClassFile.FieldType)) ∈ gz_T := gz_at 387 (by decide +kernel) rfl
theorem gm_388 : (Jvm.Cond.methodLink "WellCourt$Reader" (161 : Nat) ({ cls := "WellCourt$Reader", name := "isSmall", desc := "(I)Z" } : Jvm.MethodName)) ∈ gz_T := gz_at 388 (by decide +kernel) rfl
theorem gm_389 : (Jvm.Cond.static ({ cls := "WellCourt$Reader", name := "isSmall", desc := "(I)Z" } : Jvm.MethodName)) ∈ gz_T := gz_at 389 (by decide +kernel) rfl
theorem gm_390 : (Jvm.Cond.code ({ cls := "WellCourt$Reader", name := "isSmall", desc := "(I)Z" } : Jvm.MethodName) prog_9_method_21_code (1 : Nat) (Option.some Jvm.ClassFile.FieldType.boolean)) ∈ gz_T := gz_at 390 (by decide +kernel) rfl
theorem gm_456 : (Jvm.Cond.methodLink "WellCourt$Reader" (46 : Nat) ({ cls := "WellCourt$Reader", name := "fail", desc := "(I)Z" } : Jvm.MethodName)) ∈ gz_T := gz_at 456 (by decide +kernel) rfl
theorem gm_458 : (Jvm.Cond.instanceMethod ({ cls := "WellCourt$Reader", name := "fail", desc := "(I)Z" } : Jvm.MethodName)) ∈ gz_T := gz_at 458 (by decide +kernel) rfl
theorem gm_459 : (Jvm.Cond.code ({ cls := "WellCourt$Reader", name := "fail", desc := "(I)Z" } : Jvm.MethodName) prog_9_method_14_code (2 : Nat) (Option.some Jvm.ClassFile.FieldType.boolean)) ∈ gz_T := gz_at 459 (by decide +kernel) rfl
theorem gm_705 : (Jvm.Cond.instanceMethod ({ cls := "WellCourt$Flock", name := "isThere", desc := "(I)Z" } : Jvm.MethodName)) ∈ gz_T := gz_at 705 (by decide +kernel) rfl
theorem gm_706 : (Jvm.Cond.selects "WellCourt$Flock" ({ cls := "WellCourt$Flock", name := "isThere", desc := "(I)Z" } : Jvm.MethodName) ({ cls := "WellCourt$Flock", name := "isThere", desc := "(I)Z" } : Jvm.MethodName)) ∈ gz_T := gz_at 706 (by decide +kernel) rfl
theorem gm_707 : (Jvm.Cond.code ({ cls := "WellCourt$Flock", name := "isThere", desc := "(I)Z" } : Jvm.MethodName) prog_4_method_3_code (2 : Nat) (Option.some Jvm.ClassFile.FieldType.boolean)) ∈ gz_T := gz_at 707 (by decide +kernel) rfl
theorem gm_733 : (Jvm.Cond.methodLink "WellCourt$Land" (23 : Nat) ({ cls := "WellCourt$Land", name := "isThere", desc := "(I)Z" } : Jvm.MethodName)) ∈ gz_T := gz_at 733 (by decide +kernel) rfl
theorem gm_738 : (Jvm.Cond.methodLink "WellCourt$Flock" (33 : Nat) ({ cls := "WellCourt$Flock", name := "isThere", desc := "(I)Z" } : Jvm.MethodName)) ∈ gz_T := gz_at 738 (by decide +kernel) rfl
theorem gs_1 : (Jvm.Cond.selects "WellCourt$Reader" ({ cls := "WellCourt$Reader", name := "readRun", desc := "()V" } : Jvm.MethodName) ({ cls := "WellCourt$Reader", name := "readRun", desc := "()V" } : Jvm.MethodName)) ∈ gz_T := gz_sel 1 (by decide +kernel) rfl
theorem gs_5 : (Jvm.Cond.selects "WellCourt$Reader" ({ cls := "WellCourt$Reader", name := "fail", desc := "(I)Z" } : Jvm.MethodName) ({ cls := "WellCourt$Reader", name := "fail", desc := "(I)Z" } : Jvm.MethodName)) ∈ gz_T := gz_sel 5 (by decide +kernel) rfl
theorem inX2 : ∀ w ∈ u_ws RX2 TX2 5, w ∈ gz_T := gz_inX [170, 172, 174, 176, 178] (by decide +kernel) (by decide +kernel)
theorem inX3 : ∀ w ∈ u_ws RX3 TX3 3, w ∈ gz_T := gz_inX [91, 93, 95] (by decide +kernel) (by decide +kernel)
theorem inX5 : ∀ w ∈ u_ws RX5 TX5 2, w ∈ gz_T := gz_inX [145, 147] (by decide +kernel) (by decide +kernel)
theorem inX7 : ∀ w ∈ u_ws RX7 TX7 6, w ∈ gz_T := gz_inX [61, 63, 65, 67, 69, 71] (by decide +kernel) (by decide +kernel)
theorem inX8 : ∀ w ∈ u_ws RX8 TX8 2, w ∈ gz_T := gz_inX [41, 43] (by decide +kernel) (by decide +kernel)
theorem inX9 : ∀ w ∈ u_ws RX9 TX9 12, w ∈ gz_T := gz_inX [303, 305, 307, 309, 311, 313, 315, 317, 319, 321, 323, 325] (by decide +kernel) (by decide +kernel)
theorem dX2_isThere_0 : decode cX2_isThere 0 = .ok (.aload_n 0, 1) := by decide +kernel
theorem dX2_isThere_1 : decode cX2_isThere 1 = .ok (.getfield 9, 3) := by decide +kernel
theorem dX2_isThere_4 : decode cX2_isThere 4 = .ok (.iload_n 1, 1) := by decide +kernel
theorem dX2_isThere_5 : decode cX2_isThere 5 = .ok (.iaload, 1) := by decide +kernel
theorem dX2_isThere_6 : decode cX2_isThere 6 = .ok (.iconst (-1), 1) := by decide +kernel
theorem dX2_isThere_7 : decode cX2_isThere 7 = .ok (.if_icmp .eq 7, 3) := by decide +kernel
theorem dX2_isThere_10 : decode cX2_isThere 10 = .ok (.iconst 1, 1) := by decide +kernel
theorem dX2_isThere_11 : decode cX2_isThere 11 = .ok (.goto 4, 3) := by decide +kernel
theorem dX2_isThere_14 : decode cX2_isThere 14 = .ok (.iconst 0, 1) := by decide +kernel
theorem dX2_isThere_15 : decode cX2_isThere 15 = .ok (.ireturn, 1) := by decide +kernel
theorem dX2_size_0 : decode cX2_size 0 = .ok (.iconst 0, 1) := by decide +kernel
theorem dX2_size_1 : decode cX2_size 1 = .ok (.istore_n 1, 1) := by decide +kernel
theorem dX2_size_2 : decode cX2_size 2 = .ok (.iconst 0, 1) := by decide +kernel
theorem dX2_size_3 : decode cX2_size 3 = .ok (.istore_n 2, 1) := by decide +kernel
theorem dX2_size_4 : decode cX2_size 4 = .ok (.iload_n 2, 1) := by decide +kernel
theorem dX2_size_5 : decode cX2_size 5 = .ok (.iconst 4, 1) := by decide +kernel
theorem dX2_size_6 : decode cX2_size 6 = .ok (.if_icmp .ge 25, 3) := by decide +kernel
theorem dX2_size_9 : decode cX2_size 9 = .ok (.iload_n 1, 1) := by decide +kernel
theorem dX2_size_10 : decode cX2_size 10 = .ok (.aload_n 0, 1) := by decide +kernel
theorem dX2_size_11 : decode cX2_size 11 = .ok (.iload_n 2, 1) := by decide +kernel
theorem dX2_size_12 : decode cX2_size 12 = .ok (.invokevirtual 33, 3) := by decide +kernel
theorem dX2_size_15 : decode cX2_size 15 = .ok (.ifCond .eq 7, 3) := by decide +kernel
theorem dX2_size_18 : decode cX2_size 18 = .ok (.iconst 1, 1) := by decide +kernel
theorem dX2_size_19 : decode cX2_size 19 = .ok (.goto 4, 3) := by decide +kernel
theorem dX2_size_22 : decode cX2_size 22 = .ok (.iconst 0, 1) := by decide +kernel
theorem dX2_size_23 : decode cX2_size 23 = .ok (.iadd, 1) := by decide +kernel
theorem dX2_size_24 : decode cX2_size 24 = .ok (.istore_n 1, 1) := by decide +kernel
theorem dX2_size_25 : decode cX2_size 25 = .ok (.iinc 2 1, 3) := by decide +kernel
theorem dX2_size_28 : decode cX2_size 28 = .ok (.goto (-24), 3) := by decide +kernel
theorem dX2_size_31 : decode cX2_size 31 = .ok (.iload_n 1, 1) := by decide +kernel
theorem dX2_size_32 : decode cX2_size 32 = .ok (.ireturn, 1) := by decide +kernel
theorem dX3_isThere_0 : decode cX3_isThere 0 = .ok (.aload_n 0, 1) := by decide +kernel
theorem dX3_isThere_1 : decode cX3_isThere 1 = .ok (.getfield 9, 3) := by decide +kernel
theorem dX3_isThere_4 : decode cX3_isThere 4 = .ok (.iload_n 1, 1) := by decide +kernel
theorem dX3_isThere_5 : decode cX3_isThere 5 = .ok (.iaload, 1) := by decide +kernel
theorem dX3_isThere_6 : decode cX3_isThere 6 = .ok (.ifCond .le 7, 3) := by decide +kernel
theorem dX3_isThere_9 : decode cX3_isThere 9 = .ok (.iconst 1, 1) := by decide +kernel
theorem dX3_isThere_10 : decode cX3_isThere 10 = .ok (.goto 4, 3) := by decide +kernel
theorem dX3_isThere_13 : decode cX3_isThere 13 = .ok (.iconst 0, 1) := by decide +kernel
theorem dX3_isThere_14 : decode cX3_isThere 14 = .ok (.ireturn, 1) := by decide +kernel
theorem dX3_size_0 : decode cX3_size 0 = .ok (.iconst 0, 1) := by decide +kernel
theorem dX3_size_1 : decode cX3_size 1 = .ok (.istore_n 1, 1) := by decide +kernel
theorem dX3_size_2 : decode cX3_size 2 = .ok (.iconst 0, 1) := by decide +kernel
theorem dX3_size_3 : decode cX3_size 3 = .ok (.istore_n 2, 1) := by decide +kernel
theorem dX3_size_4 : decode cX3_size 4 = .ok (.iload_n 2, 1) := by decide +kernel
theorem dX3_size_5 : decode cX3_size 5 = .ok (.bipush 6, 2) := by decide +kernel
theorem dX3_size_7 : decode cX3_size 7 = .ok (.if_icmp .ge 25, 3) := by decide +kernel
theorem dX3_size_10 : decode cX3_size 10 = .ok (.iload_n 1, 1) := by decide +kernel
theorem dX3_size_11 : decode cX3_size 11 = .ok (.aload_n 0, 1) := by decide +kernel
theorem dX3_size_12 : decode cX3_size 12 = .ok (.iload_n 2, 1) := by decide +kernel
theorem dX3_size_13 : decode cX3_size 13 = .ok (.invokevirtual 23, 3) := by decide +kernel
theorem dX3_size_16 : decode cX3_size 16 = .ok (.ifCond .eq 7, 3) := by decide +kernel
theorem dX3_size_19 : decode cX3_size 19 = .ok (.iconst 1, 1) := by decide +kernel
theorem dX3_size_20 : decode cX3_size 20 = .ok (.goto 4, 3) := by decide +kernel
theorem dX3_size_23 : decode cX3_size 23 = .ok (.iconst 0, 1) := by decide +kernel
theorem dX3_size_24 : decode cX3_size 24 = .ok (.iadd, 1) := by decide +kernel
theorem dX3_size_25 : decode cX3_size 25 = .ok (.istore_n 1, 1) := by decide +kernel
theorem dX3_size_26 : decode cX3_size 26 = .ok (.iinc 2 1, 3) := by decide +kernel
theorem dX3_size_29 : decode cX3_size 29 = .ok (.goto (-25), 3) := by decide +kernel
theorem dX3_size_32 : decode cX3_size 32 = .ok (.iload_n 1, 1) := by decide +kernel
theorem dX3_size_33 : decode cX3_size 33 = .ok (.ireturn, 1) := by decide +kernel
theorem dX5_has_0 : decode cX5_has 0 = .ok (.iload_n 1, 1) := by decide +kernel
theorem dX5_has_1 : decode cX5_has 1 = .ok (.ifCond .lt 15, 3) := by decide +kernel
theorem dX5_has_4 : decode cX5_has 4 = .ok (.iload_n 1, 1) := by decide +kernel
theorem dX5_has_5 : decode cX5_has 5 = .ok (.aload_n 0, 1) := by decide +kernel
theorem dX5_has_6 : decode cX5_has 6 = .ok (.getfield 16, 3) := by decide +kernel
theorem dX5_has_9 : decode cX5_has 9 = .ok (.if_icmp .ge 7, 3) := by decide +kernel
theorem dX5_has_12 : decode cX5_has 12 = .ok (.iconst 1, 1) := by decide +kernel
theorem dX5_has_13 : decode cX5_has 13 = .ok (.goto 4, 3) := by decide +kernel
theorem dX5_has_16 : decode cX5_has 16 = .ok (.iconst 0, 1) := by decide +kernel
theorem dX5_has_17 : decode cX5_has 17 = .ok (.ireturn, 1) := by decide +kernel
theorem dX7_advance_0 : decode cX7_advance 0 = .ok (.aload_n 0, 1) := by decide +kernel
theorem dX7_advance_1 : decode cX7_advance 1 = .ok (.aload_n 0, 1) := by decide +kernel
theorem dX7_advance_2 : decode cX7_advance 2 = .ok (.getfield 18, 3) := by decide +kernel
theorem dX7_advance_5 : decode cX7_advance 5 = .ok (.putfield 15, 3) := by decide +kernel
theorem dX7_advance_8 : decode cX7_advance 8 = .ok (.aload_n 0, 1) := by decide +kernel
theorem dX7_advance_9 : decode cX7_advance 9 = .ok (.getfield 15, 3) := by decide +kernel
theorem dX7_advance_12 : decode cX7_advance 12 = .ok (.sipush 800, 3) := by decide +kernel
theorem dX7_advance_15 : decode cX7_advance 15 = .ok (.if_icmp .ge 33, 3) := by decide +kernel
theorem dX7_advance_18 : decode cX7_advance 18 = .ok (.aload_n 0, 1) := by decide +kernel
theorem dX7_advance_19 : decode cX7_advance 19 = .ok (.getfield 27, 3) := by decide +kernel
theorem dX7_advance_22 : decode cX7_advance 22 = .ok (.aload_n 0, 1) := by decide +kernel
theorem dX7_advance_23 : decode cX7_advance 23 = .ok (.getfield 15, 3) := by decide +kernel
theorem dX7_advance_26 : decode cX7_advance 26 = .ok (.invokevirtual 127, 3) := by decide +kernel
theorem dX7_advance_29 : decode cX7_advance 29 = .ok (.invokestatic 149, 3) := by decide +kernel
theorem dX7_advance_32 : decode cX7_advance 32 = .ok (.ifCond .eq 16, 3) := by decide +kernel
theorem dX7_advance_35 : decode cX7_advance 35 = .ok (.aload_n 0, 1) := by decide +kernel
theorem dX7_advance_36 : decode cX7_advance 36 = .ok (.dup, 1) := by decide +kernel
theorem dX7_advance_37 : decode cX7_advance 37 = .ok (.getfield 15, 3) := by decide +kernel
theorem dX7_advance_40 : decode cX7_advance 40 = .ok (.iconst 1, 1) := by decide +kernel
theorem dX7_advance_41 : decode cX7_advance 41 = .ok (.iadd, 1) := by decide +kernel
theorem dX7_advance_42 : decode cX7_advance 42 = .ok (.putfield 15, 3) := by decide +kernel
theorem dX7_advance_45 : decode cX7_advance 45 = .ok (.goto (-37), 3) := by decide +kernel
theorem dX7_advance_48 : decode cX7_advance 48 = .ok (.aload_n 0, 1) := by decide +kernel
theorem dX7_advance_49 : decode cX7_advance 49 = .ok (.getfield 27, 3) := by decide +kernel
theorem dX7_advance_52 : decode cX7_advance 52 = .ok (.aload_n 0, 1) := by decide +kernel
theorem dX7_advance_53 : decode cX7_advance 53 = .ok (.getfield 15, 3) := by decide +kernel
theorem dX7_advance_56 : decode cX7_advance 56 = .ok (.invokevirtual 127, 3) := by decide +kernel
theorem dX7_advance_59 : decode cX7_advance 59 = .ok (.istore_n 1, 1) := by decide +kernel
theorem dX7_advance_60 : decode cX7_advance 60 = .ok (.aload_n 0, 1) := by decide +kernel
theorem dX7_advance_61 : decode cX7_advance 61 = .ok (.aload_n 0, 1) := by decide +kernel
theorem dX7_advance_62 : decode cX7_advance 62 = .ok (.getfield 15, 3) := by decide +kernel
theorem dX7_advance_65 : decode cX7_advance 65 = .ok (.iconst 1, 1) := by decide +kernel
theorem dX7_advance_66 : decode cX7_advance 66 = .ok (.iadd, 1) := by decide +kernel
theorem dX7_advance_67 : decode cX7_advance 67 = .ok (.putfield 18, 3) := by decide +kernel
theorem dX7_advance_70 : decode cX7_advance 70 = .ok (.iload_n 1, 1) := by decide +kernel
theorem dX7_advance_71 : decode cX7_advance 71 = .ok (.iconst (-1), 1) := by decide +kernel
theorem dX7_advance_72 : decode cX7_advance 72 = .ok (.if_icmp .ne 19, 3) := by decide +kernel
theorem dX7_advance_75 : decode cX7_advance 75 = .ok (.aload_n 0, 1) := by decide +kernel
theorem dX7_advance_76 : decode cX7_advance 76 = .ok (.iconst 0, 1) := by decide +kernel
theorem dX7_advance_77 : decode cX7_advance 77 = .ok (.putfield 11, 3) := by decide +kernel
theorem dX7_advance_80 : decode cX7_advance 80 = .ok (.aload_n 0, 1) := by decide +kernel
theorem dX7_advance_81 : decode cX7_advance 81 = .ok (.aload_n 0, 1) := by decide +kernel
theorem dX7_advance_82 : decode cX7_advance 82 = .ok (.getfield 15, 3) := by decide +kernel
theorem dX7_advance_85 : decode cX7_advance 85 = .ok (.putfield 18, 3) := by decide +kernel
theorem dX7_advance_88 : decode cX7_advance 88 = .ok (.goto 55, 3) := by decide +kernel
theorem dX7_advance_91 : decode cX7_advance 91 = .ok (.iload_n 1, 1) := by decide +kernel
theorem dX7_advance_92 : decode cX7_advance 92 = .ok (.bipush 58, 2) := by decide +kernel
theorem dX7_advance_94 : decode cX7_advance 94 = .ok (.if_icmp .eq 15, 3) := by decide +kernel
theorem dX7_advance_97 : decode cX7_advance 97 = .ok (.iload_n 1, 1) := by decide +kernel
theorem dX7_advance_98 : decode cX7_advance 98 = .ok (.bipush 44, 2) := by decide +kernel
theorem dX7_advance_100 : decode cX7_advance 100 = .ok (.if_icmp .eq 9, 3) := by decide +kernel
theorem dX7_advance_103 : decode cX7_advance 103 = .ok (.iload_n 1, 1) := by decide +kernel
theorem dX7_advance_104 : decode cX7_advance 104 = .ok (.bipush 59, 2) := by decide +kernel
theorem dX7_advance_106 : decode cX7_advance 106 = .ok (.if_icmp .ne 11, 3) := by decide +kernel
theorem dX7_advance_109 : decode cX7_advance 109 = .ok (.aload_n 0, 1) := by decide +kernel
theorem dX7_advance_110 : decode cX7_advance 110 = .ok (.iconst 4, 1) := by decide +kernel
theorem dX7_advance_111 : decode cX7_advance 111 = .ok (.putfield 11, 3) := by decide +kernel
theorem dX7_advance_114 : decode cX7_advance 114 = .ok (.goto 29, 3) := by decide +kernel
theorem dX7_advance_117 : decode cX7_advance 117 = .ok (.iload_n 1, 1) := by decide +kernel
theorem dX7_advance_118 : decode cX7_advance 118 = .ok (.invokestatic 152, 3) := by decide +kernel
theorem dX7_advance_121 : decode cX7_advance 121 = .ok (.ifCond .ne 10, 3) := by decide +kernel
theorem dX7_advance_124 : decode cX7_advance 124 = .ok (.iload_n 1, 1) := by decide +kernel
theorem dX7_advance_125 : decode cX7_advance 125 = .ok (.invokestatic 155, 3) := by decide +kernel
theorem dX7_advance_128 : decode cX7_advance 128 = .ok (.ifCond .eq 10, 3) := by decide +kernel
theorem dX7_advance_131 : decode cX7_advance 131 = .ok (.aload_n 0, 1) := by decide +kernel
theorem dX7_advance_132 : decode cX7_advance 132 = .ok (.invokevirtual 158, 3) := by decide +kernel
theorem dX7_advance_135 : decode cX7_advance 135 = .ok (.goto 8, 3) := by decide +kernel
theorem dX7_advance_138 : decode cX7_advance 138 = .ok (.aload_n 0, 1) := by decide +kernel
theorem dX7_advance_139 : decode cX7_advance 139 = .ok (.iconst 1, 1) := by decide +kernel
theorem dX7_advance_140 : decode cX7_advance 140 = .ok (.putfield 11, 3) := by decide +kernel
theorem dX7_advance_143 : decode cX7_advance 143 = .ok (.return_, 1) := by decide +kernel
theorem dX7_cannotCome_0 : decode cX7_cannotCome 0 = .ok (.aload_n 0, 1) := by decide +kernel
theorem dX7_cannotCome_1 : decode cX7_cannotCome 1 = .ok (.aload_n 0, 1) := by decide +kernel
theorem dX7_cannotCome_2 : decode cX7_cannotCome 2 = .ok (.getfield 11, 3) := by decide +kernel
theorem dX7_cannotCome_5 : decode cX7_cannotCome 5 = .ok (.iconst 1, 1) := by decide +kernel
theorem dX7_cannotCome_6 : decode cX7_cannotCome 6 = .ok (.if_icmp .ne 7, 3) := by decide +kernel
theorem dX7_cannotCome_9 : decode cX7_cannotCome 9 = .ok (.iconst 1, 1) := by decide +kernel
theorem dX7_cannotCome_10 : decode cX7_cannotCome 10 = .ok (.goto 4, 3) := by decide +kernel
theorem dX7_cannotCome_13 : decode cX7_cannotCome 13 = .ok (.iconst 2, 1) := by decide +kernel
theorem dX7_cannotCome_14 : decode cX7_cannotCome 14 = .ok (.invokevirtual 46, 3) := by decide +kernel
theorem dX7_cannotCome_17 : decode cX7_cannotCome 17 = .ok (.ireturn, 1) := by decide +kernel
theorem dX7_fail_0 : decode cX7_fail 0 = .ok (.aload_n 0, 1) := by decide +kernel
theorem dX7_fail_1 : decode cX7_fail 1 = .ok (.iload_n 1, 1) := by decide +kernel
theorem dX7_fail_2 : decode cX7_fail 2 = .ok (.putfield 21, 3) := by decide +kernel
theorem dX7_fail_5 : decode cX7_fail 5 = .ok (.aload_n 0, 1) := by decide +kernel
theorem dX7_fail_6 : decode cX7_fail 6 = .ok (.aload_n 0, 1) := by decide +kernel
theorem dX7_fail_7 : decode cX7_fail 7 = .ok (.getfield 15, 3) := by decide +kernel
theorem dX7_fail_10 : decode cX7_fail 10 = .ok (.putfield 24, 3) := by decide +kernel
theorem dX7_fail_13 : decode cX7_fail 13 = .ok (.iconst 0, 1) := by decide +kernel
theorem dX7_fail_14 : decode cX7_fail 14 = .ok (.ireturn, 1) := by decide +kernel
theorem dX7_isBlank_0 : decode cX7_isBlank 0 = .ok (.iload_n 0, 1) := by decide +kernel
theorem dX7_isBlank_1 : decode cX7_isBlank 1 = .ok (.bipush 32, 2) := by decide +kernel
theorem dX7_isBlank_3 : decode cX7_isBlank 3 = .ok (.if_icmp .eq 9, 3) := by decide +kernel
theorem dX7_isBlank_6 : decode cX7_isBlank 6 = .ok (.iload_n 0, 1) := by decide +kernel
theorem dX7_isBlank_7 : decode cX7_isBlank 7 = .ok (.bipush 10, 2) := by decide +kernel
theorem dX7_isBlank_9 : decode cX7_isBlank 9 = .ok (.if_icmp .ne 7, 3) := by decide +kernel
theorem dX7_isBlank_12 : decode cX7_isBlank 12 = .ok (.iconst 1, 1) := by decide +kernel
theorem dX7_isBlank_13 : decode cX7_isBlank 13 = .ok (.goto 4, 3) := by decide +kernel
theorem dX7_isBlank_16 : decode cX7_isBlank 16 = .ok (.iconst 0, 1) := by decide +kernel
theorem dX7_isBlank_17 : decode cX7_isBlank 17 = .ok (.ireturn, 1) := by decide +kernel
theorem dX7_isDigit_0 : decode cX7_isDigit 0 = .ok (.iload_n 0, 1) := by decide +kernel
theorem dX7_isDigit_1 : decode cX7_isDigit 1 = .ok (.bipush 48, 2) := by decide +kernel
theorem dX7_isDigit_3 : decode cX7_isDigit 3 = .ok (.if_icmp .lt 13, 3) := by decide +kernel
theorem dX7_isDigit_6 : decode cX7_isDigit 6 = .ok (.iload_n 0, 1) := by decide +kernel
theorem dX7_isDigit_7 : decode cX7_isDigit 7 = .ok (.bipush 57, 2) := by decide +kernel
theorem dX7_isDigit_9 : decode cX7_isDigit 9 = .ok (.if_icmp .gt 7, 3) := by decide +kernel
theorem dX7_isDigit_12 : decode cX7_isDigit 12 = .ok (.iconst 1, 1) := by decide +kernel
theorem dX7_isDigit_13 : decode cX7_isDigit 13 = .ok (.goto 4, 3) := by decide +kernel
theorem dX7_isDigit_16 : decode cX7_isDigit 16 = .ok (.iconst 0, 1) := by decide +kernel
theorem dX7_isDigit_17 : decode cX7_isDigit 17 = .ok (.ireturn, 1) := by decide +kernel
theorem dX7_isLetter_0 : decode cX7_isLetter 0 = .ok (.iload_n 0, 1) := by decide +kernel
theorem dX7_isLetter_1 : decode cX7_isLetter 1 = .ok (.bipush 97, 2) := by decide +kernel
theorem dX7_isLetter_3 : decode cX7_isLetter 3 = .ok (.if_icmp .lt 9, 3) := by decide +kernel
theorem dX7_isLetter_6 : decode cX7_isLetter 6 = .ok (.iload_n 0, 1) := by decide +kernel
theorem dX7_isLetter_7 : decode cX7_isLetter 7 = .ok (.bipush 122, 2) := by decide +kernel
theorem dX7_isLetter_9 : decode cX7_isLetter 9 = .ok (.if_icmp .le 15, 3) := by decide +kernel
theorem dX7_isLetter_12 : decode cX7_isLetter 12 = .ok (.iload_n 0, 1) := by decide +kernel
theorem dX7_isLetter_13 : decode cX7_isLetter 13 = .ok (.bipush 65, 2) := by decide +kernel
theorem dX7_isLetter_15 : decode cX7_isLetter 15 = .ok (.if_icmp .lt 13, 3) := by decide +kernel
theorem dX7_isLetter_18 : decode cX7_isLetter 18 = .ok (.iload_n 0, 1) := by decide +kernel
theorem dX7_isLetter_19 : decode cX7_isLetter 19 = .ok (.bipush 90, 2) := by decide +kernel
theorem dX7_isLetter_21 : decode cX7_isLetter 21 = .ok (.if_icmp .gt 7, 3) := by decide +kernel
theorem dX7_isLetter_24 : decode cX7_isLetter 24 = .ok (.iconst 1, 1) := by decide +kernel
theorem dX7_isLetter_25 : decode cX7_isLetter 25 = .ok (.goto 4, 3) := by decide +kernel
theorem dX7_isLetter_28 : decode cX7_isLetter 28 = .ok (.iconst 0, 1) := by decide +kernel
theorem dX7_isLetter_29 : decode cX7_isLetter 29 = .ok (.ireturn, 1) := by decide +kernel
theorem dX7_isSign_0 : decode cX7_isSign 0 = .ok (.aload_n 0, 1) := by decide +kernel
theorem dX7_isSign_1 : decode cX7_isSign 1 = .ok (.getfield 11, 3) := by decide +kernel
theorem dX7_isSign_4 : decode cX7_isSign 4 = .ok (.iconst 4, 1) := by decide +kernel
theorem dX7_isSign_5 : decode cX7_isSign 5 = .ok (.if_icmp .ne 22, 3) := by decide +kernel
theorem dX7_isSign_8 : decode cX7_isSign 8 = .ok (.aload_n 0, 1) := by decide +kernel
theorem dX7_isSign_9 : decode cX7_isSign 9 = .ok (.getfield 27, 3) := by decide +kernel
theorem dX7_isSign_12 : decode cX7_isSign 12 = .ok (.aload_n 0, 1) := by decide +kernel
theorem dX7_isSign_13 : decode cX7_isSign 13 = .ok (.getfield 15, 3) := by decide +kernel
theorem dX7_isSign_16 : decode cX7_isSign 16 = .ok (.invokevirtual 127, 3) := by decide +kernel
theorem dX7_isSign_19 : decode cX7_isSign 19 = .ok (.iload_n 1, 1) := by decide +kernel
theorem dX7_isSign_20 : decode cX7_isSign 20 = .ok (.if_icmp .ne 7, 3) := by decide +kernel
theorem dX7_isSign_23 : decode cX7_isSign 23 = .ok (.iconst 1, 1) := by decide +kernel
theorem dX7_isSign_24 : decode cX7_isSign 24 = .ok (.goto 4, 3) := by decide +kernel
theorem dX7_isSign_27 : decode cX7_isSign 27 = .ok (.iconst 0, 1) := by decide +kernel
theorem dX7_isSign_28 : decode cX7_isSign 28 = .ok (.ireturn, 1) := by decide +kernel
theorem dX7_isSmall_0 : decode cX7_isSmall 0 = .ok (.iload_n 0, 1) := by decide +kernel
theorem dX7_isSmall_1 : decode cX7_isSmall 1 = .ok (.bipush 97, 2) := by decide +kernel
theorem dX7_isSmall_3 : decode cX7_isSmall 3 = .ok (.if_icmp .lt 13, 3) := by decide +kernel
theorem dX7_isSmall_6 : decode cX7_isSmall 6 = .ok (.iload_n 0, 1) := by decide +kernel
theorem dX7_isSmall_7 : decode cX7_isSmall 7 = .ok (.bipush 122, 2) := by decide +kernel
theorem dX7_isSmall_9 : decode cX7_isSmall 9 = .ok (.if_icmp .gt 7, 3) := by decide +kernel
theorem dX7_isSmall_12 : decode cX7_isSmall 12 = .ok (.iconst 1, 1) := by decide +kernel
theorem dX7_isSmall_13 : decode cX7_isSmall 13 = .ok (.goto 4, 3) := by decide +kernel
theorem dX7_isSmall_16 : decode cX7_isSmall 16 = .ok (.iconst 0, 1) := by decide +kernel
theorem dX7_isSmall_17 : decode cX7_isSmall 17 = .ok (.ireturn, 1) := by decide +kernel
theorem dX7_readRun_0 : decode cX7_readRun 0 = .ok (.iconst 0, 1) := by decide +kernel
theorem dX7_readRun_1 : decode cX7_readRun 1 = .ok (.istore_n 1, 1) := by decide +kernel
theorem dX7_readRun_2 : decode cX7_readRun 2 = .ok (.iconst 0, 1) := by decide +kernel
theorem dX7_readRun_3 : decode cX7_readRun 3 = .ok (.istore_n 2, 1) := by decide +kernel
theorem dX7_readRun_4 : decode cX7_readRun 4 = .ok (.aload_n 0, 1) := by decide +kernel
theorem dX7_readRun_5 : decode cX7_readRun 5 = .ok (.aload_n 0, 1) := by decide +kernel
theorem dX7_readRun_6 : decode cX7_readRun 6 = .ok (.getfield 15, 3) := by decide +kernel
theorem dX7_readRun_9 : decode cX7_readRun 9 = .ok (.putfield 18, 3) := by decide +kernel
theorem dX7_readRun_12 : decode cX7_readRun 12 = .ok (.aload_n 0, 1) := by decide +kernel
theorem dX7_readRun_13 : decode cX7_readRun 13 = .ok (.getfield 18, 3) := by decide +kernel
theorem dX7_readRun_16 : decode cX7_readRun 16 = .ok (.sipush 800, 3) := by decide +kernel
theorem dX7_readRun_19 : decode cX7_readRun 19 = .ok (.if_icmp .ge 75, 3) := by decide +kernel
theorem dX7_readRun_22 : decode cX7_readRun 22 = .ok (.aload_n 0, 1) := by decide +kernel
theorem dX7_readRun_23 : decode cX7_readRun 23 = .ok (.getfield 27, 3) := by decide +kernel
theorem dX7_readRun_26 : decode cX7_readRun 26 = .ok (.aload_n 0, 1) := by decide +kernel
theorem dX7_readRun_27 : decode cX7_readRun 27 = .ok (.getfield 18, 3) := by decide +kernel
theorem dX7_readRun_30 : decode cX7_readRun 30 = .ok (.invokevirtual 127, 3) := by decide +kernel
theorem dX7_readRun_33 : decode cX7_readRun 33 = .ok (.istore_n 3, 1) := by decide +kernel
theorem dX7_readRun_34 : decode cX7_readRun 34 = .ok (.iload_n 3, 1) := by decide +kernel
theorem dX7_readRun_35 : decode cX7_readRun 35 = .ok (.invokestatic 152, 3) := by decide +kernel
theorem dX7_readRun_38 : decode cX7_readRun 38 = .ok (.ifCond .ne 13, 3) := by decide +kernel
theorem dX7_readRun_41 : decode cX7_readRun 41 = .ok (.iload_n 3, 1) := by decide +kernel
theorem dX7_readRun_42 : decode cX7_readRun 42 = .ok (.invokestatic 155, 3) := by decide +kernel
theorem dX7_readRun_45 : decode cX7_readRun 45 = .ok (.ifCond .ne 6, 3) := by decide +kernel
theorem dX7_readRun_48 : decode cX7_readRun 48 = .ok (.goto 46, 3) := by decide +kernel
theorem dX7_readRun_51 : decode cX7_readRun 51 = .ok (.iload_n 1, 1) := by decide +kernel
theorem dX7_readRun_52 : decode cX7_readRun 52 = .ok (.iload_n 3, 1) := by decide +kernel
theorem dX7_readRun_53 : decode cX7_readRun 53 = .ok (.invokestatic 152, 3) := by decide +kernel
theorem dX7_readRun_56 : decode cX7_readRun 56 = .ok (.ifCond .eq 7, 3) := by decide +kernel
theorem dX7_readRun_59 : decode cX7_readRun 59 = .ok (.iconst 1, 1) := by decide +kernel
theorem dX7_readRun_60 : decode cX7_readRun 60 = .ok (.goto 4, 3) := by decide +kernel
theorem dX7_readRun_63 : decode cX7_readRun 63 = .ok (.iconst 0, 1) := by decide +kernel
theorem dX7_readRun_64 : decode cX7_readRun 64 = .ok (.iadd, 1) := by decide +kernel
theorem dX7_readRun_65 : decode cX7_readRun 65 = .ok (.istore_n 1, 1) := by decide +kernel
theorem dX7_readRun_66 : decode cX7_readRun 66 = .ok (.iload_n 2, 1) := by decide +kernel
theorem dX7_readRun_67 : decode cX7_readRun 67 = .ok (.iload_n 3, 1) := by decide +kernel
theorem dX7_readRun_68 : decode cX7_readRun 68 = .ok (.invokestatic 161, 3) := by decide +kernel
theorem dX7_readRun_71 : decode cX7_readRun 71 = .ok (.ifCond .eq 7, 3) := by decide +kernel
theorem dX7_readRun_74 : decode cX7_readRun 74 = .ok (.iconst 1, 1) := by decide +kernel
theorem dX7_readRun_75 : decode cX7_readRun 75 = .ok (.goto 4, 3) := by decide +kernel
theorem dX7_readRun_78 : decode cX7_readRun 78 = .ok (.iconst 0, 1) := by decide +kernel
theorem dX7_readRun_79 : decode cX7_readRun 79 = .ok (.iadd, 1) := by decide +kernel
theorem dX7_readRun_80 : decode cX7_readRun 80 = .ok (.istore_n 2, 1) := by decide +kernel
theorem dX7_readRun_81 : decode cX7_readRun 81 = .ok (.aload_n 0, 1) := by decide +kernel
theorem dX7_readRun_82 : decode cX7_readRun 82 = .ok (.dup, 1) := by decide +kernel
theorem dX7_readRun_83 : decode cX7_readRun 83 = .ok (.getfield 18, 3) := by decide +kernel
theorem dX7_readRun_86 : decode cX7_readRun 86 = .ok (.iconst 1, 1) := by decide +kernel
theorem dX7_readRun_87 : decode cX7_readRun 87 = .ok (.iadd, 1) := by decide +kernel
theorem dX7_readRun_88 : decode cX7_readRun 88 = .ok (.putfield 18, 3) := by decide +kernel
theorem dX7_readRun_91 : decode cX7_readRun 91 = .ok (.goto (-79), 3) := by decide +kernel
theorem dX7_readRun_94 : decode cX7_readRun 94 = .ok (.aload_n 0, 1) := by decide +kernel
theorem dX7_readRun_95 : decode cX7_readRun 95 = .ok (.getfield 18, 3) := by decide +kernel
theorem dX7_readRun_98 : decode cX7_readRun 98 = .ok (.aload_n 0, 1) := by decide +kernel
theorem dX7_readRun_99 : decode cX7_readRun 99 = .ok (.getfield 15, 3) := by decide +kernel
theorem dX7_readRun_102 : decode cX7_readRun 102 = .ok (.isub, 1) := by decide +kernel
theorem dX7_readRun_103 : decode cX7_readRun 103 = .ok (.istore_n 3, 1) := by decide +kernel
theorem dX7_readRun_104 : decode cX7_readRun 104 = .ok (.iload_n 2, 1) := by decide +kernel
theorem dX7_readRun_105 : decode cX7_readRun 105 = .ok (.iload_n 3, 1) := by decide +kernel
theorem dX7_readRun_106 : decode cX7_readRun 106 = .ok (.if_icmp .ne 11, 3) := by decide +kernel
theorem dX7_readRun_109 : decode cX7_readRun 109 = .ok (.aload_n 0, 1) := by decide +kernel
theorem dX7_readRun_110 : decode cX7_readRun 110 = .ok (.iconst 2, 1) := by decide +kernel
theorem dX7_readRun_111 : decode cX7_readRun 111 = .ok (.putfield 11, 3) := by decide +kernel
theorem dX7_readRun_114 : decode cX7_readRun 114 = .ok (.goto 22, 3) := by decide +kernel
theorem dX7_readRun_117 : decode cX7_readRun 117 = .ok (.aload_n 0, 1) := by decide +kernel
theorem dX7_readRun_118 : decode cX7_readRun 118 = .ok (.iload_n 1, 1) := by decide +kernel
theorem dX7_readRun_119 : decode cX7_readRun 119 = .ok (.iload_n 3, 1) := by decide +kernel
theorem dX7_readRun_120 : decode cX7_readRun 120 = .ok (.if_icmp .ne 12, 3) := by decide +kernel
theorem dX7_readRun_123 : decode cX7_readRun 123 = .ok (.iload_n 3, 1) := by decide +kernel
theorem dX7_readRun_124 : decode cX7_readRun 124 = .ok (.iconst 4, 1) := by decide +kernel
theorem dX7_readRun_125 : decode cX7_readRun 125 = .ok (.if_icmp .gt 7, 3) := by decide +kernel
theorem dX7_readRun_128 : decode cX7_readRun 128 = .ok (.iconst 3, 1) := by decide +kernel
theorem dX7_readRun_129 : decode cX7_readRun 129 = .ok (.goto 4, 3) := by decide +kernel
theorem dX7_readRun_132 : decode cX7_readRun 132 = .ok (.iconst 1, 1) := by decide +kernel
theorem dX7_readRun_133 : decode cX7_readRun 133 = .ok (.putfield 11, 3) := by decide +kernel
theorem dX7_readRun_136 : decode cX7_readRun 136 = .ok (.return_, 1) := by decide +kernel
theorem dX8_append_0 : decode cX8_append 0 = .ok (.bipush 24, 2) := by decide +kernel
theorem dX8_append_2 : decode cX8_append 2 = .ok (.istore_n 2, 1) := by decide +kernel
theorem dX8_append_3 : decode cX8_append 3 = .ok (.iload_n 2, 1) := by decide +kernel
theorem dX8_append_4 : decode cX8_append 4 = .ok (.ifCond .lt 42, 3) := by decide +kernel
theorem dX8_append_7 : decode cX8_append 7 = .ok (.aload_n 0, 1) := by decide +kernel
theorem dX8_append_8 : decode cX8_append 8 = .ok (.getfield 15, 3) := by decide +kernel
theorem dX8_append_11 : decode cX8_append 11 = .ok (.sipush 800, 3) := by decide +kernel
theorem dX8_append_14 : decode cX8_append 14 = .ok (.if_icmp .ge 32, 3) := by decide +kernel
theorem dX8_append_17 : decode cX8_append 17 = .ok (.aload_n 0, 1) := by decide +kernel
theorem dX8_append_18 : decode cX8_append 18 = .ok (.getfield 9, 3) := by decide +kernel
theorem dX8_append_21 : decode cX8_append 21 = .ok (.aload_n 0, 1) := by decide +kernel
theorem dX8_append_22 : decode cX8_append 22 = .ok (.getfield 15, 3) := by decide +kernel
theorem dX8_append_25 : decode cX8_append 25 = .ok (.iload_n 1, 1) := by decide +kernel
theorem dX8_append_26 : decode cX8_append 26 = .ok (.iload_n 2, 1) := by decide +kernel
theorem dX8_append_27 : decode cX8_append 27 = .ok (.ishr, 1) := by decide +kernel
theorem dX8_append_28 : decode cX8_append 28 = .ok (.i2b, 1) := by decide +kernel
theorem dX8_append_29 : decode cX8_append 29 = .ok (.bastore, 1) := by decide +kernel
theorem dX8_append_30 : decode cX8_append 30 = .ok (.aload_n 0, 1) := by decide +kernel
theorem dX8_append_31 : decode cX8_append 31 = .ok (.dup, 1) := by decide +kernel
theorem dX8_append_32 : decode cX8_append 32 = .ok (.getfield 15, 3) := by decide +kernel
theorem dX8_append_35 : decode cX8_append 35 = .ok (.iconst 1, 1) := by decide +kernel
theorem dX8_append_36 : decode cX8_append 36 = .ok (.iadd, 1) := by decide +kernel
theorem dX8_append_37 : decode cX8_append 37 = .ok (.putfield 15, 3) := by decide +kernel
theorem dX8_append_40 : decode cX8_append 40 = .ok (.iinc 2 (-8), 3) := by decide +kernel
theorem dX8_append_43 : decode cX8_append 43 = .ok (.goto (-40), 3) := by decide +kernel
theorem dX8_append_46 : decode cX8_append 46 = .ok (.return_, 1) := by decide +kernel
theorem dX8_byteAt_0 : decode cX8_byteAt 0 = .ok (.iload_n 1, 1) := by decide +kernel
theorem dX8_byteAt_1 : decode cX8_byteAt 1 = .ok (.ifCond .lt 11, 3) := by decide +kernel
theorem dX8_byteAt_4 : decode cX8_byteAt 4 = .ok (.iload_n 1, 1) := by decide +kernel
theorem dX8_byteAt_5 : decode cX8_byteAt 5 = .ok (.aload_n 0, 1) := by decide +kernel
theorem dX8_byteAt_6 : decode cX8_byteAt 6 = .ok (.getfield 15, 3) := by decide +kernel
theorem dX8_byteAt_9 : decode cX8_byteAt 9 = .ok (.if_icmp .lt 7, 3) := by decide +kernel
theorem dX8_byteAt_12 : decode cX8_byteAt 12 = .ok (.iconst (-1), 1) := by decide +kernel
theorem dX8_byteAt_13 : decode cX8_byteAt 13 = .ok (.goto 13, 3) := by decide +kernel
theorem dX8_byteAt_16 : decode cX8_byteAt 16 = .ok (.aload_n 0, 1) := by decide +kernel
theorem dX8_byteAt_17 : decode cX8_byteAt 17 = .ok (.getfield 9, 3) := by decide +kernel
theorem dX8_byteAt_20 : decode cX8_byteAt 20 = .ok (.iload_n 1, 1) := by decide +kernel
theorem dX8_byteAt_21 : decode cX8_byteAt 21 = .ok (.baload, 1) := by decide +kernel
theorem dX8_byteAt_22 : decode cX8_byteAt 22 = .ok (.sipush 255, 3) := by decide +kernel
theorem dX8_byteAt_25 : decode cX8_byteAt 25 = .ok (.iand, 1) := by decide +kernel
theorem dX8_byteAt_26 : decode cX8_byteAt 26 = .ok (.ireturn, 1) := by decide +kernel
theorem dX9_isClan_0 : decode cX9_isClan 0 = .ok (.iload_n 0, 1) := by decide +kernel
theorem dX9_isClan_1 : decode cX9_isClan 1 = .ok (.ifCond .lt 13, 3) := by decide +kernel
theorem dX9_isClan_4 : decode cX9_isClan 4 = .ok (.iload_n 0, 1) := by decide +kernel
theorem dX9_isClan_5 : decode cX9_isClan 5 = .ok (.bipush 6, 2) := by decide +kernel
theorem dX9_isClan_7 : decode cX9_isClan 7 = .ok (.if_icmp .ge 7, 3) := by decide +kernel
theorem dX9_isClan_10 : decode cX9_isClan 10 = .ok (.iconst 1, 1) := by decide +kernel
theorem dX9_isClan_11 : decode cX9_isClan 11 = .ok (.goto 4, 3) := by decide +kernel
theorem dX9_isClan_14 : decode cX9_isClan 14 = .ok (.iconst 0, 1) := by decide +kernel
theorem dX9_isClan_15 : decode cX9_isClan 15 = .ok (.ireturn, 1) := by decide +kernel
theorem dX9_isDate_0 : decode cX9_isDate 0 = .ok (.iload_n 0, 1) := by decide +kernel
theorem dX9_isDate_1 : decode cX9_isDate 1 = .ok (.ifCond .lt 14, 3) := by decide +kernel
theorem dX9_isDate_4 : decode cX9_isDate 4 = .ok (.iload_n 0, 1) := by decide +kernel
theorem dX9_isDate_5 : decode cX9_isDate 5 = .ok (.sipush 199, 3) := by decide +kernel
theorem dX9_isDate_8 : decode cX9_isDate 8 = .ok (.if_icmp .gt 7, 3) := by decide +kernel
theorem dX9_isDate_11 : decode cX9_isDate 11 = .ok (.iconst 1, 1) := by decide +kernel
theorem dX9_isDate_12 : decode cX9_isDate 12 = .ok (.goto 4, 3) := by decide +kernel
theorem dX9_isDate_15 : decode cX9_isDate 15 = .ok (.iconst 0, 1) := by decide +kernel
theorem dX9_isDate_16 : decode cX9_isDate 16 = .ok (.ireturn, 1) := by decide +kernel
theorem dX9_isHerd_0 : decode cX9_isHerd 0 = .ok (.iload_n 0, 1) := by decide +kernel
theorem dX9_isHerd_1 : decode cX9_isHerd 1 = .ok (.ifCond .lt 12, 3) := by decide +kernel
theorem dX9_isHerd_4 : decode cX9_isHerd 4 = .ok (.iload_n 0, 1) := by decide +kernel
theorem dX9_isHerd_5 : decode cX9_isHerd 5 = .ok (.iconst 4, 1) := by decide +kernel
theorem dX9_isHerd_6 : decode cX9_isHerd 6 = .ok (.if_icmp .ge 7, 3) := by decide +kernel
theorem dX9_isHerd_9 : decode cX9_isHerd 9 = .ok (.iconst 1, 1) := by decide +kernel
theorem dX9_isHerd_10 : decode cX9_isHerd 10 = .ok (.goto 4, 3) := by decide +kernel
theorem dX9_isHerd_13 : decode cX9_isHerd 13 = .ok (.iconst 0, 1) := by decide +kernel
theorem dX9_isHerd_14 : decode cX9_isHerd 14 = .ok (.ireturn, 1) := by decide +kernel
theorem dX9_isWell_0 : decode cX9_isWell 0 = .ok (.iload_n 0, 1) := by decide +kernel
theorem dX9_isWell_1 : decode cX9_isWell 1 = .ok (.ifCond .lt 13, 3) := by decide +kernel
theorem dX9_isWell_4 : decode cX9_isWell 4 = .ok (.iload_n 0, 1) := by decide +kernel
theorem dX9_isWell_5 : decode cX9_isWell 5 = .ok (.bipush 6, 2) := by decide +kernel
theorem dX9_isWell_7 : decode cX9_isWell 7 = .ok (.if_icmp .ge 7, 3) := by decide +kernel
theorem dX9_isWell_10 : decode cX9_isWell 10 = .ok (.iconst 1, 1) := by decide +kernel
theorem dX9_isWell_11 : decode cX9_isWell 11 = .ok (.goto 4, 3) := by decide +kernel
theorem dX9_isWell_14 : decode cX9_isWell 14 = .ok (.iconst 0, 1) := by decide +kernel
theorem dX9_isWell_15 : decode cX9_isWell 15 = .ok (.ireturn, 1) := by decide +kernel
theorem dX9_isWellThere_0 : decode cX9_isWellThere 0 = .ok (.iload_n 1, 1) := by decide +kernel
theorem dX9_isWellThere_1 : decode cX9_isWellThere 1 = .ok (.invokestatic 93, 3) := by decide +kernel
theorem dX9_isWellThere_4 : decode cX9_isWellThere 4 = .ok (.ifCond .eq 18, 3) := by decide +kernel
theorem dX9_isWellThere_7 : decode cX9_isWellThere 7 = .ok (.aload_n 0, 1) := by decide +kernel
theorem dX9_isWellThere_8 : decode cX9_isWellThere 8 = .ok (.getfield 28, 3) := by decide +kernel
theorem dX9_isWellThere_11 : decode cX9_isWellThere 11 = .ok (.iload_n 1, 1) := by decide +kernel
theorem dX9_isWellThere_12 : decode cX9_isWellThere 12 = .ok (.invokevirtual 97, 3) := by decide +kernel
theorem dX9_isWellThere_15 : decode cX9_isWellThere 15 = .ok (.ifCond .eq 7, 3) := by decide +kernel
theorem dX9_isWellThere_18 : decode cX9_isWellThere 18 = .ok (.iconst 1, 1) := by decide +kernel
theorem dX9_isWellThere_19 : decode cX9_isWellThere 19 = .ok (.goto 4, 3) := by decide +kernel
theorem dX9_isWellThere_22 : decode cX9_isWellThere 22 = .ok (.iconst 0, 1) := by decide +kernel
theorem dX9_isWellThere_23 : decode cX9_isWellThere 23 = .ok (.ireturn, 1) := by decide +kernel
theorem dX9_isWithin_0 : decode cX9_isWithin 0 = .ok (.iload_n 0, 1) := by decide +kernel
theorem dX9_isWithin_1 : decode cX9_isWithin 1 = .ok (.iload_n 1, 1) := by decide +kernel
theorem dX9_isWithin_2 : decode cX9_isWithin 2 = .ok (.if_icmp .lt 12, 3) := by decide +kernel
theorem dX9_isWithin_5 : decode cX9_isWithin 5 = .ok (.iload_n 0, 1) := by decide +kernel
theorem dX9_isWithin_6 : decode cX9_isWithin 6 = .ok (.iload_n 2, 1) := by decide +kernel
theorem dX9_isWithin_7 : decode cX9_isWithin 7 = .ok (.if_icmp .gt 7, 3) := by decide +kernel
theorem dX9_isWithin_10 : decode cX9_isWithin 10 = .ok (.iconst 1, 1) := by decide +kernel
theorem dX9_isWithin_11 : decode cX9_isWithin 11 = .ok (.goto 4, 3) := by decide +kernel
theorem dX9_isWithin_14 : decode cX9_isWithin 14 = .ok (.iconst 0, 1) := by decide +kernel
theorem dX9_isWithin_15 : decode cX9_isWithin 15 = .ok (.ireturn, 1) := by decide +kernel
set_option maxHeartbeats 4000000 in
set_option maxRecDepth 100000 in
/-- WellCourt.isWithin -/
theorem s_isWithin (l : Launch) (G : va_G) (cy : Nat → ClassId) (sK sV : Nat → Nat) (ad : Nat → Nat → Nat) (sz : Nat) (st : gS) (hB : gBd bX st) (x : Int32) (y : Int32) (z : Int32) (Xx : Int) (Xy : Int) (Xz : Int) (kx : x.toInt = Xx) (ky : y.toInt = Xy) (kz : z.toInt = Xz) : gsMi l yX9_isWithin cX9_isWithin 3 (some .boolean) ({ frames := 0, cells := 0, slots := 0, locals := 0 } : Room) G cy sK sV (shX cy ad) cnX ad sz [.int x, .int y, .int z] st (fun (r : Int32) (u : gS) => gBN bX kX [] st u ∧ ((r = 1 ∧ (Xy ≤ Xx) ∧ (Xx ≤ Xz)) ∨ (r = 0 ∧ (Xx < Xy ∨ Xz < Xx)))) := by
  refine gs_start (fun A => gsQi G (shX cy ad) cnX ad _ A) (by decide) (Nat.le_of_ble_eq_true rfl) ?_
  intro p e s m below meth c A ls H hx hb hr hml hlocks hown hts hK hov hE hI hM hm hS hA hl
  have hl : lv_has ls 3 [(0, .int x), (1, .int y), (2, .int z)] := hl
  have hB_st : gBN bX kX [] st st := gBN.rf hB
  refine lv_iload_n hx hb dX9_isWithin_0 rfl (lv_at hl 0 rfl) ?_
  refine lv_iload_n hx hb dX9_isWithin_1 rfl (lv_at hl 1 rfl) ?_
  refine lv_icmp_lt (tgt := 14) hx hb dX9_isWithin_2 (by decide) (fun c_1 => ?_) (fun c_1 => ?_)
  · have ic_1 := gz_lt (rfl : x.toInt = x.toInt) (rfl : y.toInt = y.toInt) c_1
    have lc_1 := gi_hi y
    refine lv_iconst (v := 0) hx hb dX9_isWithin_14 (by decide) ?_
    exact gs_iret hx hb hr hlocks hM hS (by decide) ⟨hB_st, (Or.inr (⟨rfl, (by have hl0 : (0 : Int32).toInt = 0 := (by decide); omega)⟩))⟩ (by exact Nat.le_refl _) (by exact Nat.le_refl _) dX9_isWithin_15
  · have ic_1 := gz_nlt (rfl : x.toInt = x.toInt) (rfl : y.toInt = y.toInt) c_1
    refine lv_iload_n hx hb dX9_isWithin_5 rfl (lv_at hl 0 rfl) ?_
    refine lv_iload_n hx hb dX9_isWithin_6 rfl (lv_at hl 2 rfl) ?_
    refine lv_icmp_gt (tgt := 14) hx hb dX9_isWithin_7 (by decide) (fun c_2 => ?_) (fun c_2 => ?_)
    · have ic_2 := gz_lt (rfl : z.toInt = z.toInt) (rfl : x.toInt = x.toInt) c_2
      have lc_2 := gi_hi x
      refine lv_iconst (v := 0) hx hb dX9_isWithin_14 (by decide) ?_
      exact gs_iret hx hb hr hlocks hM hS (by decide) ⟨hB_st, (Or.inr (⟨rfl, (by have hl0 : (0 : Int32).toInt = 0 := (by decide); omega)⟩))⟩ (by exact Nat.le_refl _) (by exact Nat.le_refl _) dX9_isWithin_15
    · have ic_2 := gz_nlt (rfl : z.toInt = z.toInt) (rfl : x.toInt = x.toInt) c_2
      refine lv_iconst (v := 1) hx hb dX9_isWithin_10 (by decide) ?_
      refine lv_goto (tgt := 15) hx hb dX9_isWithin_11 (by decide) ?_
      exact gs_iret hx hb hr hlocks hM hS (by decide) ⟨hB_st, (Or.inl (⟨rfl, (by have hl0 : (1 : Int32).toInt = 1 := (by decide); omega), (by have hl0 : (1 : Int32).toInt = 1 := (by decide); omega)⟩))⟩ (by exact Nat.le_refl _) (by exact Nat.le_refl _) dX9_isWithin_15

set_option maxHeartbeats 4000000 in
set_option maxRecDepth 100000 in
/-- WellCourt.isWell -/
theorem s_isWell (l : Launch) (G : va_G) (cy : Nat → ClassId) (sK sV : Nat → Nat) (ad : Nat → Nat → Nat) (sz : Nat) (st : gS) (hB : gBd bX st) (x : Int32) (Xx : Int) (kx : x.toInt = Xx) : gsMi l yX9_isWell cX9_isWell 1 (some .boolean) ({ frames := 0, cells := 0, slots := 0, locals := 0 } : Room) G cy sK sV (shX cy ad) cnX ad sz [.int x] st (fun (r : Int32) (u : gS) => gBN bX kX [] st u ∧ ((r = 1 ∧ (0 ≤ Xx) ∧ (Xx ≤ 5)) ∨ (r = 0 ∧ (Xx < 0 ∨ 5 < Xx)))) := by
  refine gs_start (fun A => gsQi G (shX cy ad) cnX ad _ A) (by decide) (Nat.le_of_ble_eq_true rfl) ?_
  intro p e s m below meth c A ls H hx hb hr hml hlocks hown hts hK hov hE hI hM hm hS hA hl
  have hl : lv_has ls 1 [(0, .int x)] := hl
  have hB_st : gBN bX kX [] st st := gBN.rf hB
  refine lv_iload_n hx hb dX9_isWell_0 rfl (lv_at hl 0 rfl) ?_
  refine lv_if_lt (tgt := 14) hx hb dX9_isWell_1 (by decide) (fun c_1 => ?_) (fun c_1 => ?_)
  · have ic_1 := gz_lt (rfl : x.toInt = x.toInt) (by decide : (0 : Int32).toInt = 0) c_1
    refine lv_iconst (v := 0) hx hb dX9_isWell_14 (by decide) ?_
    exact gs_iret hx hb hr hlocks hM hS (by decide) ⟨hB_st, (Or.inr (⟨rfl, (by have hl0 : (0 : Int32).toInt = 0 := (by decide); omega)⟩))⟩ (by exact Nat.le_refl _) (by exact Nat.le_refl _) dX9_isWell_15
  · have ic_1 := gz_nlt (rfl : x.toInt = x.toInt) (by decide : (0 : Int32).toInt = 0) c_1
    refine lv_iload_n hx hb dX9_isWell_4 rfl (lv_at hl 0 rfl) ?_
    refine lv_bipush (v := 6) hx hb dX9_isWell_5 (by decide) ?_
    refine lv_icmp_ge (tgt := 14) hx hb dX9_isWell_7 (by decide) (fun c_2 => ?_) (fun c_2 => ?_)
    · have ic_2 := gz_le (by decide : (6 : Int32).toInt = 6) (rfl : x.toInt = x.toInt) c_2
      refine lv_iconst (v := 0) hx hb dX9_isWell_14 (by decide) ?_
      exact gs_iret hx hb hr hlocks hM hS (by decide) ⟨hB_st, (Or.inr (⟨rfl, (by have hl0 : (0 : Int32).toInt = 0 := (by decide); omega)⟩))⟩ (by exact Nat.le_refl _) (by exact Nat.le_refl _) dX9_isWell_15
    · have ic_2 := gz_nle (by decide : (6 : Int32).toInt = 6) (rfl : x.toInt = x.toInt) c_2
      refine lv_iconst (v := 1) hx hb dX9_isWell_10 (by decide) ?_
      refine lv_goto (tgt := 15) hx hb dX9_isWell_11 (by decide) ?_
      exact gs_iret hx hb hr hlocks hM hS (by decide) ⟨hB_st, (Or.inl (⟨rfl, (by have hl0 : (1 : Int32).toInt = 1 := (by decide); omega), (by have hl0 : (1 : Int32).toInt = 1 := (by decide); omega)⟩))⟩ (by exact Nat.le_refl _) (by exact Nat.le_refl _) dX9_isWell_15

set_option maxHeartbeats 4000000 in
set_option maxRecDepth 100000 in
/-- WellCourt.isClan -/
theorem s_isClan (l : Launch) (G : va_G) (cy : Nat → ClassId) (sK sV : Nat → Nat) (ad : Nat → Nat → Nat) (sz : Nat) (st : gS) (hB : gBd bX st) (x : Int32) (Xx : Int) (kx : x.toInt = Xx) : gsMi l yX9_isClan cX9_isClan 1 (some .boolean) ({ frames := 0, cells := 0, slots := 0, locals := 0 } : Room) G cy sK sV (shX cy ad) cnX ad sz [.int x] st (fun (r : Int32) (u : gS) => gBN bX kX [] st u ∧ ((r = 1 ∧ (0 ≤ Xx) ∧ (Xx ≤ 5)) ∨ (r = 0 ∧ (Xx < 0 ∨ 5 < Xx)))) := by
  refine gs_start (fun A => gsQi G (shX cy ad) cnX ad _ A) (by decide) (Nat.le_of_ble_eq_true rfl) ?_
  intro p e s m below meth c A ls H hx hb hr hml hlocks hown hts hK hov hE hI hM hm hS hA hl
  have hl : lv_has ls 1 [(0, .int x)] := hl
  have hB_st : gBN bX kX [] st st := gBN.rf hB
  refine lv_iload_n hx hb dX9_isClan_0 rfl (lv_at hl 0 rfl) ?_
  refine lv_if_lt (tgt := 14) hx hb dX9_isClan_1 (by decide) (fun c_1 => ?_) (fun c_1 => ?_)
  · have ic_1 := gz_lt (rfl : x.toInt = x.toInt) (by decide : (0 : Int32).toInt = 0) c_1
    refine lv_iconst (v := 0) hx hb dX9_isClan_14 (by decide) ?_
    exact gs_iret hx hb hr hlocks hM hS (by decide) ⟨hB_st, (Or.inr (⟨rfl, (by have hl0 : (0 : Int32).toInt = 0 := (by decide); omega)⟩))⟩ (by exact Nat.le_refl _) (by exact Nat.le_refl _) dX9_isClan_15
  · have ic_1 := gz_nlt (rfl : x.toInt = x.toInt) (by decide : (0 : Int32).toInt = 0) c_1
    refine lv_iload_n hx hb dX9_isClan_4 rfl (lv_at hl 0 rfl) ?_
    refine lv_bipush (v := 6) hx hb dX9_isClan_5 (by decide) ?_
    refine lv_icmp_ge (tgt := 14) hx hb dX9_isClan_7 (by decide) (fun c_2 => ?_) (fun c_2 => ?_)
    · have ic_2 := gz_le (by decide : (6 : Int32).toInt = 6) (rfl : x.toInt = x.toInt) c_2
      refine lv_iconst (v := 0) hx hb dX9_isClan_14 (by decide) ?_
      exact gs_iret hx hb hr hlocks hM hS (by decide) ⟨hB_st, (Or.inr (⟨rfl, (by have hl0 : (0 : Int32).toInt = 0 := (by decide); omega)⟩))⟩ (by exact Nat.le_refl _) (by exact Nat.le_refl _) dX9_isClan_15
    · have ic_2 := gz_nle (by decide : (6 : Int32).toInt = 6) (rfl : x.toInt = x.toInt) c_2
      refine lv_iconst (v := 1) hx hb dX9_isClan_10 (by decide) ?_
      refine lv_goto (tgt := 15) hx hb dX9_isClan_11 (by decide) ?_
      exact gs_iret hx hb hr hlocks hM hS (by decide) ⟨hB_st, (Or.inl (⟨rfl, (by have hl0 : (1 : Int32).toInt = 1 := (by decide); omega), (by have hl0 : (1 : Int32).toInt = 1 := (by decide); omega)⟩))⟩ (by exact Nat.le_refl _) (by exact Nat.le_refl _) dX9_isClan_15

set_option maxHeartbeats 4000000 in
set_option maxRecDepth 100000 in
/-- WellCourt.isHerd -/
theorem s_isHerd (l : Launch) (G : va_G) (cy : Nat → ClassId) (sK sV : Nat → Nat) (ad : Nat → Nat → Nat) (sz : Nat) (st : gS) (hB : gBd bX st) (x : Int32) (Xx : Int) (kx : x.toInt = Xx) : gsMi l yX9_isHerd cX9_isHerd 1 (some .boolean) ({ frames := 0, cells := 0, slots := 0, locals := 0 } : Room) G cy sK sV (shX cy ad) cnX ad sz [.int x] st (fun (r : Int32) (u : gS) => gBN bX kX [] st u ∧ ((r = 1 ∧ (0 ≤ Xx) ∧ (Xx ≤ 3)) ∨ (r = 0 ∧ (Xx < 0 ∨ 3 < Xx)))) := by
  refine gs_start (fun A => gsQi G (shX cy ad) cnX ad _ A) (by decide) (Nat.le_of_ble_eq_true rfl) ?_
  intro p e s m below meth c A ls H hx hb hr hml hlocks hown hts hK hov hE hI hM hm hS hA hl
  have hl : lv_has ls 1 [(0, .int x)] := hl
  have hB_st : gBN bX kX [] st st := gBN.rf hB
  refine lv_iload_n hx hb dX9_isHerd_0 rfl (lv_at hl 0 rfl) ?_
  refine lv_if_lt (tgt := 13) hx hb dX9_isHerd_1 (by decide) (fun c_1 => ?_) (fun c_1 => ?_)
  · have ic_1 := gz_lt (rfl : x.toInt = x.toInt) (by decide : (0 : Int32).toInt = 0) c_1
    refine lv_iconst (v := 0) hx hb dX9_isHerd_13 (by decide) ?_
    exact gs_iret hx hb hr hlocks hM hS (by decide) ⟨hB_st, (Or.inr (⟨rfl, (by have hl0 : (0 : Int32).toInt = 0 := (by decide); omega)⟩))⟩ (by exact Nat.le_refl _) (by exact Nat.le_refl _) dX9_isHerd_14
  · have ic_1 := gz_nlt (rfl : x.toInt = x.toInt) (by decide : (0 : Int32).toInt = 0) c_1
    refine lv_iload_n hx hb dX9_isHerd_4 rfl (lv_at hl 0 rfl) ?_
    refine lv_iconst (v := 4) hx hb dX9_isHerd_5 (by decide) ?_
    refine lv_icmp_ge (tgt := 13) hx hb dX9_isHerd_6 (by decide) (fun c_2 => ?_) (fun c_2 => ?_)
    · have ic_2 := gz_le (by decide : (4 : Int32).toInt = 4) (rfl : x.toInt = x.toInt) c_2
      refine lv_iconst (v := 0) hx hb dX9_isHerd_13 (by decide) ?_
      exact gs_iret hx hb hr hlocks hM hS (by decide) ⟨hB_st, (Or.inr (⟨rfl, (by have hl0 : (0 : Int32).toInt = 0 := (by decide); omega)⟩))⟩ (by exact Nat.le_refl _) (by exact Nat.le_refl _) dX9_isHerd_14
    · have ic_2 := gz_nle (by decide : (4 : Int32).toInt = 4) (rfl : x.toInt = x.toInt) c_2
      refine lv_iconst (v := 1) hx hb dX9_isHerd_9 (by decide) ?_
      refine lv_goto (tgt := 14) hx hb dX9_isHerd_10 (by decide) ?_
      exact gs_iret hx hb hr hlocks hM hS (by decide) ⟨hB_st, (Or.inl (⟨rfl, (by have hl0 : (1 : Int32).toInt = 1 := (by decide); omega), (by have hl0 : (1 : Int32).toInt = 1 := (by decide); omega)⟩))⟩ (by exact Nat.le_refl _) (by exact Nat.le_refl _) dX9_isHerd_14

set_option maxHeartbeats 4000000 in
set_option maxRecDepth 100000 in
/-- WellCourt.isDate -/
theorem s_isDate (l : Launch) (G : va_G) (cy : Nat → ClassId) (sK sV : Nat → Nat) (ad : Nat → Nat → Nat) (sz : Nat) (st : gS) (hB : gBd bX st) (x : Int32) (Xx : Int) (kx : x.toInt = Xx) : gsMi l yX9_isDate cX9_isDate 1 (some .boolean) ({ frames := 0, cells := 0, slots := 0, locals := 0 } : Room) G cy sK sV (shX cy ad) cnX ad sz [.int x] st (fun (r : Int32) (u : gS) => gBN bX kX [] st u ∧ ((r = 1 ∧ (0 ≤ Xx) ∧ (Xx ≤ 199)) ∨ (r = 0 ∧ (Xx < 0 ∨ 199 < Xx)))) := by
  refine gs_start (fun A => gsQi G (shX cy ad) cnX ad _ A) (by decide) (Nat.le_of_ble_eq_true rfl) ?_
  intro p e s m below meth c A ls H hx hb hr hml hlocks hown hts hK hov hE hI hM hm hS hA hl
  have hl : lv_has ls 1 [(0, .int x)] := hl
  have hB_st : gBN bX kX [] st st := gBN.rf hB
  refine lv_iload_n hx hb dX9_isDate_0 rfl (lv_at hl 0 rfl) ?_
  refine lv_if_lt (tgt := 15) hx hb dX9_isDate_1 (by decide) (fun c_1 => ?_) (fun c_1 => ?_)
  · have ic_1 := gz_lt (rfl : x.toInt = x.toInt) (by decide : (0 : Int32).toInt = 0) c_1
    refine lv_iconst (v := 0) hx hb dX9_isDate_15 (by decide) ?_
    exact gs_iret hx hb hr hlocks hM hS (by decide) ⟨hB_st, (Or.inr (⟨rfl, (by have hl0 : (0 : Int32).toInt = 0 := (by decide); omega)⟩))⟩ (by exact Nat.le_refl _) (by exact Nat.le_refl _) dX9_isDate_16
  · have ic_1 := gz_nlt (rfl : x.toInt = x.toInt) (by decide : (0 : Int32).toInt = 0) c_1
    refine lv_iload_n hx hb dX9_isDate_4 rfl (lv_at hl 0 rfl) ?_
    refine lv_sipush (v := 199) hx hb dX9_isDate_5 (by decide) ?_
    refine lv_icmp_gt (tgt := 15) hx hb dX9_isDate_8 (by decide) (fun c_2 => ?_) (fun c_2 => ?_)
    · have ic_2 := gz_lt (by decide : (199 : Int32).toInt = 199) (rfl : x.toInt = x.toInt) c_2
      refine lv_iconst (v := 0) hx hb dX9_isDate_15 (by decide) ?_
      exact gs_iret hx hb hr hlocks hM hS (by decide) ⟨hB_st, (Or.inr (⟨rfl, (by have hl0 : (0 : Int32).toInt = 0 := (by decide); omega)⟩))⟩ (by exact Nat.le_refl _) (by exact Nat.le_refl _) dX9_isDate_16
    · have ic_2 := gz_nlt (by decide : (199 : Int32).toInt = 199) (rfl : x.toInt = x.toInt) c_2
      refine lv_iconst (v := 1) hx hb dX9_isDate_11 (by decide) ?_
      refine lv_goto (tgt := 16) hx hb dX9_isDate_12 (by decide) ?_
      exact gs_iret hx hb hr hlocks hM hS (by decide) ⟨hB_st, (Or.inl (⟨rfl, (by have hl0 : (1 : Int32).toInt = 1 := (by decide); omega), (by have hl0 : (1 : Int32).toInt = 1 := (by decide); omega)⟩))⟩ (by exact Nat.le_refl _) (by exact Nat.le_refl _) dX9_isDate_16

set_option maxHeartbeats 4000000 in
set_option maxRecDepth 100000 in
/-- WellCourt$Land.isThere -/
theorem s_X3_isThere (l : Launch) (G : va_G) (cy : Nat → ClassId) (sK sV : Nat → Nat) (ad : Nat → Nat → Nat) (sz : Nat) (st : gS) (hB : gBd bX st) (x : Int32) (Xx : Int) (kx : x.toInt = Xx) (hx0 : 0 ≤ Xx) (hx1 : Xx < 6) : gsMi l yX3_isThere cX3_isThere 2 (some .boolean) ({ frames := 0, cells := 0, slots := 0, locals := 0 } : Room) G cy sK sV (shX cy ad) cnX ad sz [.ref (ad 4 0), .int x] st (fun (r : Int32) (u : gS) => gBN bX kX [] st u ∧ ((r = 1 ∧ (0 < (st 5 0 x.toNatClampNeg).toInt)) ∨ (r = 0 ∧ ((st 5 0 x.toNatClampNeg).toInt ≤ 0)))) := by
  refine gs_start (fun A => gsQi G (shX cy ad) cnX ad _ A) (by decide) (Nat.le_of_ble_eq_true rfl) ?_
  intro p e s m below meth c A ls H hx hb hr hml hlocks hown hts hK hov hE hI hM hm hS hA hl
  have hl : lv_has ls 2 [(0, .ref (ad 4 0)), (1, .int x)] := hl
  have hB_st : gBN bX kX [] st st := gBN.rf hB
  refine lv_aload_n hx hb dX3_isThere_0 rfl (lv_at hl 0 rfl) ?_
  refine gs_get (C := RX3) (T := TX3) (N := 3) hx hb hts inX3 hown hK hM 4 0 0 (by decide) rfl rfl (by decide) (hts _ gm_82) (fun _ h9 => h9) rfl dX3_isThere_1 ?_
  refine lv_iload_n hx hb dX3_isThere_4 rfl (lv_at hl 1 rfl) ?_
  refine gs_iald hx hb hK hM 5 0 (by decide) rfl (vp_in_iff.mpr ⟨by omega, by omega⟩) dX3_isThere_5 ?_
  refine lv_topi (fun x_1 ex_1 => ?_)
  have qx_1 : x_1.toInt = (st 5 0 (x.toNatClampNeg)).toInt := congrArg Int32.toInt ex_1
  refine lv_if_le (tgt := 13) hx hb dX3_isThere_6 (by decide) (fun c_2 => ?_) (fun c_2 => ?_)
  · have ic_2 := gz_le (rfl : x_1.toInt = x_1.toInt) (by decide : (0 : Int32).toInt = 0) c_2
    refine lv_iconst (v := 0) hx hb dX3_isThere_13 (by decide) ?_
    exact gs_iret hx hb hr hlocks hM hS (by decide) ⟨hB_st, (Or.inr (⟨rfl, (by have hl0 : (0 : Int32).toInt = 0 := (by decide); omega)⟩))⟩ (by exact Nat.le_refl _) (by exact Nat.le_refl _) dX3_isThere_14
  · have ic_2 := gz_nle (rfl : x_1.toInt = x_1.toInt) (by decide : (0 : Int32).toInt = 0) c_2
    refine lv_iconst (v := 1) hx hb dX3_isThere_9 (by decide) ?_
    refine lv_goto (tgt := 14) hx hb dX3_isThere_10 (by decide) ?_
    exact gs_iret hx hb hr hlocks hM hS (by decide) ⟨hB_st, (Or.inl (⟨rfl, (by have hl0 : (1 : Int32).toInt = 1 := (by decide); omega)⟩))⟩ (by exact Nat.le_refl _) (by exact Nat.le_refl _) dX3_isThere_14

set_option maxHeartbeats 4000000 in
set_option maxRecDepth 100000 in
/-- WellCourt$Flock.isThere -/
theorem s_X2_isThere (l : Launch) (G : va_G) (cy : Nat → ClassId) (sK sV : Nat → Nat) (ad : Nat → Nat → Nat) (sz : Nat) (st : gS) (hB : gBd bX st) (x : Int32) (Xx : Int) (kx : x.toInt = Xx) (hx0 : 0 ≤ Xx) (hx1 : Xx < 4) : gsMi l yX2_isThere cX2_isThere 2 (some .boolean) ({ frames := 0, cells := 0, slots := 0, locals := 0 } : Room) G cy sK sV (shX cy ad) cnX ad sz [.ref (ad 19 0), .int x] st (fun (r : Int32) (u : gS) => gBN bX kX [] st u ∧ ((r = 1 ∧ (¬ (st 20 0 x.toNatClampNeg).toInt = -1)) ∨ (r = 0 ∧ ((st 20 0 x.toNatClampNeg).toInt = -1)))) := by
  refine gs_start (fun A => gsQi G (shX cy ad) cnX ad _ A) (by decide) (Nat.le_of_ble_eq_true rfl) ?_
  intro p e s m below meth c A ls H hx hb hr hml hlocks hown hts hK hov hE hI hM hm hS hA hl
  have hl : lv_has ls 2 [(0, .ref (ad 19 0)), (1, .int x)] := hl
  have hB_st : gBN bX kX [] st st := gBN.rf hB
  refine lv_aload_n hx hb dX2_isThere_0 rfl (lv_at hl 0 rfl) ?_
  refine gs_get (C := RX2) (T := TX2) (N := 5) hx hb hts inX2 hown hK hM 19 0 0 (by decide) rfl rfl (by decide) (hts _ gm_157) (fun _ h9 => h9) rfl dX2_isThere_1 ?_
  refine lv_iload_n hx hb dX2_isThere_4 rfl (lv_at hl 1 rfl) ?_
  refine gs_iald hx hb hK hM 20 0 (by decide) rfl (vp_in_iff.mpr ⟨by omega, by omega⟩) dX2_isThere_5 ?_
  refine lv_topi (fun x_1 ex_1 => ?_)
  have qx_1 : x_1.toInt = (st 20 0 (x.toNatClampNeg)).toInt := congrArg Int32.toInt ex_1
  refine lv_iconst (v := (-1)) hx hb dX2_isThere_6 (by decide) ?_
  refine lv_icmp_eq (tgt := 14) hx hb dX2_isThere_7 (by decide) (fun c_2 => ?_) (fun c_2 => ?_)
  · have ic_2 := gz_eq (rfl : x_1.toInt = x_1.toInt) (by decide : ((-1) : Int32).toInt = -1) c_2
    refine lv_iconst (v := 0) hx hb dX2_isThere_14 (by decide) ?_
    exact gs_iret hx hb hr hlocks hM hS (by decide) ⟨hB_st, (Or.inr (⟨rfl, (by have hl0 : (0 : Int32).toInt = 0 := (by decide); omega)⟩))⟩ (by exact Nat.le_refl _) (by exact Nat.le_refl _) dX2_isThere_15
  · have ic_2 := gz_ne (rfl : x_1.toInt = x_1.toInt) (by decide : ((-1) : Int32).toInt = -1) c_2
    refine lv_iconst (v := 1) hx hb dX2_isThere_10 (by decide) ?_
    refine lv_goto (tgt := 15) hx hb dX2_isThere_11 (by decide) ?_
    exact gs_iret hx hb hr hlocks hM hS (by decide) ⟨hB_st, (Or.inl (⟨rfl, (by have hl0 : (1 : Int32).toInt = 1 := (by decide); omega)⟩))⟩ (by exact Nat.le_refl _) (by exact Nat.le_refl _) dX2_isThere_15

set_option maxHeartbeats 4000000 in
set_option maxRecDepth 100000 in
/-- WellCourt.isWellThere -/
theorem s_isWellThere (l : Launch) (G : va_G) (cy : Nat → ClassId) (sK sV : Nat → Nat) (ad : Nat → Nat → Nat) (sz : Nat) (st : gS) (hB : gBd bX st) (x : Int32) (Xx : Int) (kx : x.toInt = Xx) : gsMi l yX9_isWellThere cX9_isWellThere 2 (some .boolean) ({ frames := 1, cells := 0, slots := 0, locals := 21 } : Room) G cy sK sV (shX cy ad) cnX ad sz [.ref (ad 0 0), .int x] st (fun (r : Int32) (u : gS) => gBN bX kX [] st u ∧ ((r = 1 ∧ (0 ≤ Xx) ∧ (Xx < 6) ∧ (0 < (st 5 0 x.toNatClampNeg).toInt)) ∨ (r = 0 ∧ (Xx < 0 ∨ 5 < Xx ∨ (st 5 0 x.toNatClampNeg).toInt ≤ 0)))) := by
  refine gs_start (fun A => gsQi G (shX cy ad) cnX ad _ A) (by decide) (Nat.le_of_ble_eq_true rfl) ?_
  intro p e s m below meth c A ls H hx hb hr hml hlocks hown hts hK hov hE hI hM hm hS hA hl
  have hl : lv_has ls 2 [(0, .ref (ad 0 0)), (1, .int x)] := hl
  have hB_st : gBN bX kX [] st st := gBN.rf hB
  refine lv_iload_n hx hb dX9_isWellThere_0 rfl (lv_at hl 1 rfl) ?_
  refine gs_calli (va_runS (As := [.int x]) (rest := []) ⟨hx, hb, hml, hown, hts⟩ (s_isWell l G cy sK sV ad H.size st hB_st.1 x x.toInt rfl ) ⟨(gz_cb (n := 1) hts gm_344 gm_1 gm_346 ⟨by decide +kernel, by decide +kernel, by decide +kernel⟩ ⟨Nat.le_of_ble_eq_true rfl, Nat.le_of_ble_eq_true rfl⟩), hts _ gm_345⟩ (gs_preS hK hov hE hI hM hm hS hA) rfl rfl hl.1 rfl (lv_room (Nat.le_of_ble_eq_true rfl)) dX9_isWellThere_1 ⟨Nat.le_of_ble_eq_true rfl, Nat.le_of_ble_eq_true rfl⟩) hm hS hA (fun r_1 st_1 H locs hw_1 hM hS => ?_)
  obtain ⟨n_1, hw_1⟩ := hw_1
  have n_1 := gBN.nil n_1
  subst n_1
  rcases hw_1 with ⟨rfl, hw_1_0, hw_1_1⟩ | ⟨rfl, hw_1_0⟩
  · skip
    refine lv_if_eq (tgt := 22) hx hb dX9_isWellThere_4 (by decide) (fun h9 => absurd h9 (by decide)) (fun _ => ?_)
    refine lv_aload_n hx hb dX9_isWellThere_7 rfl (lv_at hl 0 rfl) ?_
    refine gs_get (C := RX9) (T := TX9) (N := 12) hx hb hts inX9 hown hK hM 0 0 2 (by decide) rfl rfl (by decide) (hts _ gm_293) (fun _ h9 => h9) rfl dX9_isWellThere_8 ?_
    refine lv_iload_n hx hb dX9_isWellThere_11 rfl (lv_at hl 1 rfl) ?_
    refine gs_calli (va_runV (As := [.int x]) (rest := []) ⟨hx, hb, hml, hown, hts⟩ (s_X3_isThere l G cy sK sV ad H.size st hB_st.1 x x.toInt rfl (by first | decide | omega) (by first | decide | omega)) ⟨(gz_cb (n := 1) hts gm_347 gm_4 gm_350 ⟨by decide +kernel, by decide +kernel, by decide +kernel⟩ ⟨Nat.le_of_ble_eq_true rfl, Nat.le_of_ble_eq_true rfl⟩), hts _ gm_348, hts _ gm_349⟩ (gs_preV hK hov hE hI hM hm hS hA 4 0 (by decide) rfl rfl) rfl rfl hl.1 rfl (lv_room (Nat.le_of_ble_eq_true rfl)) dX9_isWellThere_12 ⟨Nat.le_of_ble_eq_true rfl, Nat.le_of_ble_eq_true rfl⟩) hm hS hA (fun r_2 st_2 H locs hw_2 hM hS => ?_)
    obtain ⟨n_2, hw_2⟩ := hw_2
    have n_2 := gBN.nil n_2
    subst n_2
    rcases hw_2 with ⟨rfl, hw_2_0⟩ | ⟨rfl, hw_2_0⟩
    · skip
      refine lv_if_eq (tgt := 22) hx hb dX9_isWellThere_15 (by decide) (fun h9 => absurd h9 (by decide)) (fun _ => ?_)
      refine lv_iconst (v := 1) hx hb dX9_isWellThere_18 (by decide) ?_
      refine lv_goto (tgt := 23) hx hb dX9_isWellThere_19 (by decide) ?_
      exact gs_iret hx hb hr hlocks hM hS (by decide) ⟨hB_st, (Or.inl (⟨rfl, (by have hl0 : (1 : Int32).toInt = 1 := (by decide); omega), (by have hl0 : (1 : Int32).toInt = 1 := (by decide); omega), (by have hl0 : (1 : Int32).toInt = 1 := (by decide); omega)⟩))⟩ (by exact Nat.le_refl _) (by exact Nat.le_refl _) dX9_isWellThere_23
    · skip
      refine lv_if_eq (tgt := 22) hx hb dX9_isWellThere_15 (by decide) (fun _ => ?_) (fun h9 => absurd (by decide) h9)
      refine lv_iconst (v := 0) hx hb dX9_isWellThere_22 (by decide) ?_
      exact gs_iret hx hb hr hlocks hM hS (by decide) ⟨hB_st, (Or.inr (⟨rfl, (by have hl0 : (0 : Int32).toInt = 0 := (by decide); omega)⟩))⟩ (by exact Nat.le_refl _) (by exact Nat.le_refl _) dX9_isWellThere_23
  · skip
    refine lv_if_eq (tgt := 22) hx hb dX9_isWellThere_4 (by decide) (fun _ => ?_) (fun h9 => absurd (by decide) h9)
    refine lv_iconst (v := 0) hx hb dX9_isWellThere_22 (by decide) ?_
    exact gs_iret hx hb hr hlocks hM hS (by decide) ⟨hB_st, (Or.inr (⟨rfl, (by have hl0 : (0 : Int32).toInt = 0 := (by decide); omega)⟩))⟩ (by exact Nat.le_refl _) (by exact Nat.le_refl _) dX9_isWellThere_23

set_option maxHeartbeats 4000000 in
set_option maxRecDepth 100000 in
/-- WellCourt$Ledger.has -/
theorem s_X5_has (l : Launch) (G : va_G) (cy : Nat → ClassId) (sK sV : Nat → Nat) (ad : Nat → Nat → Nat) (sz : Nat) (st : gS) (hB : gBd bX st) (x : Int32) (Xx : Int) (kx : x.toInt = Xx) : gsMi l yX5_has cX5_has 2 (some .boolean) ({ frames := 0, cells := 0, slots := 0, locals := 0 } : Room) G cy sK sV (shX cy ad) cnX ad sz [.ref (ad 16 0), .int x] st (fun (r : Int32) (u : gS) => gBN bX kX [] st u ∧ ((r = 1 ∧ (0 ≤ Xx) ∧ (Xx < (st 16 0 1).toInt)) ∨ (r = 0 ∧ (Xx < 0 ∨ (st 16 0 1).toInt ≤ Xx)))) := by
  refine gs_start (fun A => gsQi G (shX cy ad) cnX ad _ A) (by decide) (Nat.le_of_ble_eq_true rfl) ?_
  intro p e s m below meth c A ls H hx hb hr hml hlocks hown hts hK hov hE hI hM hm hS hA hl
  have hl : lv_has ls 2 [(0, .ref (ad 16 0)), (1, .int x)] := hl
  have hB_st : gBN bX kX [] st st := gBN.rf hB
  refine lv_iload_n hx hb dX5_has_0 rfl (lv_at hl 1 rfl) ?_
  refine lv_if_lt (tgt := 16) hx hb dX5_has_1 (by decide) (fun c_1 => ?_) (fun c_1 => ?_)
  · have ic_1 := gz_lt (rfl : x.toInt = x.toInt) (by decide : (0 : Int32).toInt = 0) c_1
    refine lv_iconst (v := 0) hx hb dX5_has_16 (by decide) ?_
    exact gs_iret hx hb hr hlocks hM hS (by decide) ⟨hB_st, (Or.inr (⟨rfl, (by have hl0 : (0 : Int32).toInt = 0 := (by decide); have hb1 : (0 : Int) ≤ (st 16 0 1).toInt ∧ (st 16 0 1).toInt ≤ (300 : Int) := hB_st.1 16 0 1; omega)⟩))⟩ (by exact Nat.le_refl _) (by exact Nat.le_refl _) dX5_has_17
  · have ic_1 := gz_nlt (rfl : x.toInt = x.toInt) (by decide : (0 : Int32).toInt = 0) c_1
    refine lv_iload_n hx hb dX5_has_4 rfl (lv_at hl 1 rfl) ?_
    refine lv_aload_n hx hb dX5_has_5 rfl (lv_at hl 0 rfl) ?_
    refine gs_get (C := RX5) (T := TX5) (N := 2) hx hb hts inX5 hown hK hM 16 0 1 (by decide) rfl rfl (by decide) (hts _ gm_143) (fun _ h9 => h9) rfl dX5_has_6 ?_
    have bf_2 : (0 : Int) ≤ (st 16 0 1).toInt ∧ (st 16 0 1).toInt ≤ (300 : Int) := hB_st.1 16 0 1
    refine lv_icmp_ge (tgt := 16) hx hb dX5_has_9 (by decide) (fun c_3 => ?_) (fun c_3 => ?_)
    · have ic_3 := gz_le (rfl : (st 16 0 1).toInt = (st 16 0 1).toInt) (rfl : x.toInt = x.toInt) c_3
      refine lv_iconst (v := 0) hx hb dX5_has_16 (by decide) ?_
      exact gs_iret hx hb hr hlocks hM hS (by decide) ⟨hB_st, (Or.inr (⟨rfl, (by have hl0 : (0 : Int32).toInt = 0 := (by decide); have hb1 : (0 : Int) ≤ (st 16 0 1).toInt ∧ (st 16 0 1).toInt ≤ (300 : Int) := hB_st.1 16 0 1; omega)⟩))⟩ (by exact Nat.le_refl _) (by exact Nat.le_refl _) dX5_has_17
    · have ic_3 := gz_nle (rfl : (st 16 0 1).toInt = (st 16 0 1).toInt) (rfl : x.toInt = x.toInt) c_3
      have lc_3 := gi_hi (st 16 0 1)
      refine lv_iconst (v := 1) hx hb dX5_has_12 (by decide) ?_
      refine lv_goto (tgt := 17) hx hb dX5_has_13 (by decide) ?_
      exact gs_iret hx hb hr hlocks hM hS (by decide) ⟨hB_st, (Or.inl (⟨rfl, (by have hl0 : (1 : Int32).toInt = 1 := (by decide); omega), (by have hl0 : (1 : Int32).toInt = 1 := (by decide); have hb1 : (0 : Int) ≤ (st 16 0 1).toInt ∧ (st 16 0 1).toInt ≤ (300 : Int) := hB_st.1 16 0 1; omega)⟩))⟩ (by exact Nat.le_refl _) (by exact Nat.le_refl _) dX5_has_17

set_option maxHeartbeats 4000000 in
set_option maxRecDepth 100000 in
/-- WellCourt$Land.size -/
theorem s_X3_size (l : Launch) (G : va_G) (cy : Nat → ClassId) (sK sV : Nat → Nat) (ad : Nat → Nat → Nat) (sz : Nat) (st : gS) (hB : gBd bX st) : gsMi l yX3_size cX3_size 3 (some .int) ({ frames := 1, cells := 0, slots := 0, locals := 21 } : Room) G cy sK sV (shX cy ad) cnX ad sz [.ref (ad 4 0)] st (fun (r : Int32) (u : gS) => gBN bX kX [] st u ∧ (True)) := by
  refine gs_start (fun A => gsQi G (shX cy ad) cnX ad _ A) (by decide) (Nat.le_of_ble_eq_true rfl) ?_
  intro p e s m below meth c A ls H hx hb hr hml hlocks hown hts hK hov hE hI hM hm hS hA hl
  have hl : lv_has ls 3 [(0, .ref (ad 4 0))] := hl
  have hB_st : gBN bX kX [] st st := gBN.rf hB
  generalize hQe : MQ below _ _ s _ _ A = Q
  refine lv_iconst (v := 0) hx hb dX3_size_0 (by decide) ?_
  refine lv_istore_n (lv' := [(1, .int 0), (0, .ref (ad 4 0))]) hx hb dX3_size_1 rfl hl (by decide) rfl (fun ls hl => ?_)
  refine lv_iconst (v := 0) hx hb dX3_size_2 (by decide) ?_
  refine lv_istore_n (lv' := [(2, .int 0), (1, .int 0), (0, .ref (ad 4 0))]) hx hb dX3_size_3 rfl hl (by decide) rfl (fun ls hl => ?_)
  have lp1 : ∀ (n1 : Nat) (sv1 : gS) (y1_0 : Int32) (y1_1 : Int32) (H : Heap) (locs : List Loc) (ls : Array Slot), (6 - y1_1.toInt).toNat < n1 → gBN bX kX [] st sv1 → (0 ≤ y1_1.toInt) → gM G (shX cy ad) cnX ad sv1 H → va_S A s.heap H locs → lv_has ls 3 [(2, .int y1_1), (1, .int y1_0), (0, .ref (ad 4 0))] → W p l e ({ frames := 1, cells := 0, slots := 0, locals := 21 } : Room) s m [.ref (ad 4 0)].toArray below meth c H locs 0 0 Q (F0 m 4 ls []) := by
    intro n1
    induction n1 with
    | zero => intro sv1 y1_0 y1_1 H locs ls h9; exact absurd h9 (Nat.not_lt_zero _)
    | succ n1 ih_1 =>
      intro sv1 y1_0 y1_1 H locs ls hme1 hB_sv1 hv1_0 hM hS hl
      refine lv_iload_n hx hb dX3_size_4 rfl (lv_at hl 0 rfl) ?_
      refine lv_bipush (v := 6) hx hb dX3_size_5 (by decide) ?_
      refine lv_icmp_ge (tgt := 32) hx hb dX3_size_7 (by decide) (fun c_2 => ?_) (fun c_2 => ?_)
      · have ic_2 := gz_le (by decide : (6 : Int32).toInt = 6) (rfl : y1_1.toInt = y1_1.toInt) c_2
        refine lv_iload_n hx hb dX3_size_32 rfl (lv_at hl 1 rfl) ?_
        rw [← hQe]
        exact gs_iret hx hb hr hlocks hM hS rfl ⟨hB_sv1, trivial⟩ (by exact Nat.le_refl _) (by exact Nat.le_refl _) dX3_size_33
      · have ic_2 := gz_nle (by decide : (6 : Int32).toInt = 6) (rfl : y1_1.toInt = y1_1.toInt) c_2
        refine lv_iload_n hx hb dX3_size_10 rfl (lv_at hl 1 rfl) ?_
        refine lv_aload_n hx hb dX3_size_11 rfl (lv_at hl 2 rfl) ?_
        refine lv_iload_n hx hb dX3_size_12 rfl (lv_at hl 0 rfl) ?_
        refine gs_calli (va_runV (As := [.int y1_1]) (rest := [.int y1_0]) ⟨hx, hb, hml, hown, hts⟩ (s_X3_isThere l G cy sK sV ad H.size sv1 hB_sv1.1 y1_1 y1_1.toInt rfl (by first | decide | omega) (by first | decide | omega)) ⟨(gz_cb (n := 1) hts gm_733 gm_4 gm_350 ⟨by decide +kernel, by decide +kernel, by decide +kernel⟩ ⟨Nat.le_of_ble_eq_true rfl, Nat.le_of_ble_eq_true rfl⟩), hts _ gm_348, hts _ gm_349⟩ (gs_preV hK hov hE hI hM hm hS hA 4 0 (by decide) rfl rfl) rfl rfl hl.1 rfl (lv_room (Nat.le_of_ble_eq_true rfl)) dX3_size_13 ⟨Nat.le_of_ble_eq_true rfl, Nat.le_of_ble_eq_true rfl⟩) hm hS hA (fun r_3 st_3 H locs hw_3 hM hS => ?_)
        obtain ⟨n_3, hw_3⟩ := hw_3
        have n_3 := gBN.nil n_3
        subst n_3
        rcases hw_3 with ⟨rfl, hw_3_0⟩ | ⟨rfl, hw_3_0⟩
        · skip
          refine lv_if_eq (tgt := 23) hx hb dX3_size_16 (by decide) (fun h9 => absurd h9 (by decide)) (fun _ => ?_)
          refine lv_iconst (v := 1) hx hb dX3_size_19 (by decide) ?_
          refine lv_goto (tgt := 24) hx hb dX3_size_20 (by decide) ?_
          refine lv_iadd hx hb dX3_size_24 ?_
          refine lv_topi (fun x_4 ex_4 => ?_)
          try have tx_4 : x_4.toInt = y1_0.toInt + 1 := by rw [ex_4]; exact gz_addP (x := y1_0.toInt) (y := 1) rfl (by decide) (by omega) (by omega)
          refine lv_istore_n (lv' := [(1, .int x_4), (2, .int y1_1), (0, .ref (ad 4 0))]) hx hb dX3_size_25 rfl hl (by decide) rfl (fun ls hl => ?_)
          obtain ⟨x_5, ex_5⟩ : ∃ y : Int32, y = y1_1 + 1 := ⟨_, rfl⟩
          try have tx_5 : x_5.toInt = y1_1.toInt + 1 := by rw [ex_5]; exact gz_addP (x := y1_1.toInt) (y := 1) rfl (by decide) (by omega) (by omega)
          refine lv_iinc (v := (x_5)) (lv' := [(2, .int x_5), (1, .int x_4), (0, .ref (ad 4 0))]) hx hb dX3_size_26 hl (k := 1) rfl (by rw [ex_5]; rfl) (by decide) rfl (fun ls hl => ?_)
          refine lv_goto (tgt := 4) hx hb dX3_size_29 (by decide) ?_
          exact ih_1 sv1 (x_4 : Int32) (x_5 : Int32) H _ ls (by omega) hB_sv1 (by omega) hM hS (lv_sub hl [0, 1, 2] rfl)
        · skip
          refine lv_if_eq (tgt := 23) hx hb dX3_size_16 (by decide) (fun _ => ?_) (fun h9 => absurd (by decide) h9)
          refine lv_iconst (v := 0) hx hb dX3_size_23 (by decide) ?_
          refine lv_iadd hx hb dX3_size_24 ?_
          refine lv_topi (fun x_6 ex_6 => ?_)
          try have tx_6 : x_6.toInt = y1_0.toInt + 0 := by rw [ex_6]; exact gz_addP (x := y1_0.toInt) (y := 0) rfl (by decide) (by omega) (by omega)
          refine lv_istore_n (lv' := [(1, .int x_6), (2, .int y1_1), (0, .ref (ad 4 0))]) hx hb dX3_size_25 rfl hl (by decide) rfl (fun ls hl => ?_)
          obtain ⟨x_7, ex_7⟩ : ∃ y : Int32, y = y1_1 + 1 := ⟨_, rfl⟩
          try have tx_7 : x_7.toInt = y1_1.toInt + 1 := by rw [ex_7]; exact gz_addP (x := y1_1.toInt) (y := 1) rfl (by decide) (by omega) (by omega)
          refine lv_iinc (v := (x_7)) (lv' := [(2, .int x_7), (1, .int x_6), (0, .ref (ad 4 0))]) hx hb dX3_size_26 hl (k := 1) rfl (by rw [ex_7]; rfl) (by decide) rfl (fun ls hl => ?_)
          refine lv_goto (tgt := 4) hx hb dX3_size_29 (by decide) ?_
          exact ih_1 sv1 (x_6 : Int32) (x_7 : Int32) H _ ls (by omega) hB_sv1 (by omega) hM hS (lv_sub hl [0, 1, 2] rfl)
  exact lp1 ((6 - ((0 : Int32) : Int32).toInt).toNat + 1) st ((0 : Int32) : Int32) ((0 : Int32) : Int32) H _ ls (Nat.lt_succ_self _) hB_st (by have hl0 : (0 : Int32).toInt = 0 := (by decide); have hl1 : (0 : Int32).toInt = 0 := (by decide); omega) hM hS (lv_sub hl [0, 1, 2] rfl)

set_option maxHeartbeats 4000000 in
set_option maxRecDepth 100000 in
/-- WellCourt$Flock.size -/
theorem s_X2_size (l : Launch) (G : va_G) (cy : Nat → ClassId) (sK sV : Nat → Nat) (ad : Nat → Nat → Nat) (sz : Nat) (st : gS) (hB : gBd bX st) : gsMi l yX2_size cX2_size 3 (some .int) ({ frames := 1, cells := 0, slots := 0, locals := 21 } : Room) G cy sK sV (shX cy ad) cnX ad sz [.ref (ad 19 0)] st (fun (r : Int32) (u : gS) => gBN bX kX [] st u ∧ (True)) := by
  refine gs_start (fun A => gsQi G (shX cy ad) cnX ad _ A) (by decide) (Nat.le_of_ble_eq_true rfl) ?_
  intro p e s m below meth c A ls H hx hb hr hml hlocks hown hts hK hov hE hI hM hm hS hA hl
  have hl : lv_has ls 3 [(0, .ref (ad 19 0))] := hl
  have hB_st : gBN bX kX [] st st := gBN.rf hB
  generalize hQe : MQ below _ _ s _ _ A = Q
  refine lv_iconst (v := 0) hx hb dX2_size_0 (by decide) ?_
  refine lv_istore_n (lv' := [(1, .int 0), (0, .ref (ad 19 0))]) hx hb dX2_size_1 rfl hl (by decide) rfl (fun ls hl => ?_)
  refine lv_iconst (v := 0) hx hb dX2_size_2 (by decide) ?_
  refine lv_istore_n (lv' := [(2, .int 0), (1, .int 0), (0, .ref (ad 19 0))]) hx hb dX2_size_3 rfl hl (by decide) rfl (fun ls hl => ?_)
  have lp1 : ∀ (n1 : Nat) (sv1 : gS) (y1_0 : Int32) (y1_1 : Int32) (H : Heap) (locs : List Loc) (ls : Array Slot), (4 - y1_1.toInt).toNat < n1 → gBN bX kX [] st sv1 → (0 ≤ y1_1.toInt) → gM G (shX cy ad) cnX ad sv1 H → va_S A s.heap H locs → lv_has ls 3 [(2, .int y1_1), (1, .int y1_0), (0, .ref (ad 19 0))] → W p l e ({ frames := 1, cells := 0, slots := 0, locals := 21 } : Room) s m [.ref (ad 19 0)].toArray below meth c H locs 0 0 Q (F0 m 4 ls []) := by
    intro n1
    induction n1 with
    | zero => intro sv1 y1_0 y1_1 H locs ls h9; exact absurd h9 (Nat.not_lt_zero _)
    | succ n1 ih_1 =>
      intro sv1 y1_0 y1_1 H locs ls hme1 hB_sv1 hv1_0 hM hS hl
      refine lv_iload_n hx hb dX2_size_4 rfl (lv_at hl 0 rfl) ?_
      refine lv_iconst (v := 4) hx hb dX2_size_5 (by decide) ?_
      refine lv_icmp_ge (tgt := 31) hx hb dX2_size_6 (by decide) (fun c_2 => ?_) (fun c_2 => ?_)
      · have ic_2 := gz_le (by decide : (4 : Int32).toInt = 4) (rfl : y1_1.toInt = y1_1.toInt) c_2
        refine lv_iload_n hx hb dX2_size_31 rfl (lv_at hl 1 rfl) ?_
        rw [← hQe]
        exact gs_iret hx hb hr hlocks hM hS rfl ⟨hB_sv1, trivial⟩ (by exact Nat.le_refl _) (by exact Nat.le_refl _) dX2_size_32
      · have ic_2 := gz_nle (by decide : (4 : Int32).toInt = 4) (rfl : y1_1.toInt = y1_1.toInt) c_2
        refine lv_iload_n hx hb dX2_size_9 rfl (lv_at hl 1 rfl) ?_
        refine lv_aload_n hx hb dX2_size_10 rfl (lv_at hl 2 rfl) ?_
        refine lv_iload_n hx hb dX2_size_11 rfl (lv_at hl 0 rfl) ?_
        refine gs_calli (va_runV (As := [.int y1_1]) (rest := [.int y1_0]) ⟨hx, hb, hml, hown, hts⟩ (s_X2_isThere l G cy sK sV ad H.size sv1 hB_sv1.1 y1_1 y1_1.toInt rfl (by first | decide | omega) (by first | decide | omega)) ⟨(gz_cb (n := 1) hts gm_738 gm_9 gm_707 ⟨by decide +kernel, by decide +kernel, by decide +kernel⟩ ⟨Nat.le_of_ble_eq_true rfl, Nat.le_of_ble_eq_true rfl⟩), hts _ gm_705, hts _ gm_706⟩ (gs_preV hK hov hE hI hM hm hS hA 19 0 (by decide) rfl rfl) rfl rfl hl.1 rfl (lv_room (Nat.le_of_ble_eq_true rfl)) dX2_size_12 ⟨Nat.le_of_ble_eq_true rfl, Nat.le_of_ble_eq_true rfl⟩) hm hS hA (fun r_3 st_3 H locs hw_3 hM hS => ?_)
        obtain ⟨n_3, hw_3⟩ := hw_3
        have n_3 := gBN.nil n_3
        subst n_3
        rcases hw_3 with ⟨rfl, hw_3_0⟩ | ⟨rfl, hw_3_0⟩
        · skip
          refine lv_if_eq (tgt := 22) hx hb dX2_size_15 (by decide) (fun h9 => absurd h9 (by decide)) (fun _ => ?_)
          refine lv_iconst (v := 1) hx hb dX2_size_18 (by decide) ?_
          refine lv_goto (tgt := 23) hx hb dX2_size_19 (by decide) ?_
          refine lv_iadd hx hb dX2_size_23 ?_
          refine lv_topi (fun x_4 ex_4 => ?_)
          try have tx_4 : x_4.toInt = y1_0.toInt + 1 := by rw [ex_4]; exact gz_addP (x := y1_0.toInt) (y := 1) rfl (by decide) (by omega) (by omega)
          refine lv_istore_n (lv' := [(1, .int x_4), (2, .int y1_1), (0, .ref (ad 19 0))]) hx hb dX2_size_24 rfl hl (by decide) rfl (fun ls hl => ?_)
          obtain ⟨x_5, ex_5⟩ : ∃ y : Int32, y = y1_1 + 1 := ⟨_, rfl⟩
          try have tx_5 : x_5.toInt = y1_1.toInt + 1 := by rw [ex_5]; exact gz_addP (x := y1_1.toInt) (y := 1) rfl (by decide) (by omega) (by omega)
          refine lv_iinc (v := (x_5)) (lv' := [(2, .int x_5), (1, .int x_4), (0, .ref (ad 19 0))]) hx hb dX2_size_25 hl (k := 1) rfl (by rw [ex_5]; rfl) (by decide) rfl (fun ls hl => ?_)
          refine lv_goto (tgt := 4) hx hb dX2_size_28 (by decide) ?_
          exact ih_1 sv1 (x_4 : Int32) (x_5 : Int32) H _ ls (by omega) hB_sv1 (by omega) hM hS (lv_sub hl [0, 1, 2] rfl)
        · skip
          refine lv_if_eq (tgt := 22) hx hb dX2_size_15 (by decide) (fun _ => ?_) (fun h9 => absurd (by decide) h9)
          refine lv_iconst (v := 0) hx hb dX2_size_22 (by decide) ?_
          refine lv_iadd hx hb dX2_size_23 ?_
          refine lv_topi (fun x_6 ex_6 => ?_)
          try have tx_6 : x_6.toInt = y1_0.toInt + 0 := by rw [ex_6]; exact gz_addP (x := y1_0.toInt) (y := 0) rfl (by decide) (by omega) (by omega)
          refine lv_istore_n (lv' := [(1, .int x_6), (2, .int y1_1), (0, .ref (ad 19 0))]) hx hb dX2_size_24 rfl hl (by decide) rfl (fun ls hl => ?_)
          obtain ⟨x_7, ex_7⟩ : ∃ y : Int32, y = y1_1 + 1 := ⟨_, rfl⟩
          try have tx_7 : x_7.toInt = y1_1.toInt + 1 := by rw [ex_7]; exact gz_addP (x := y1_1.toInt) (y := 1) rfl (by decide) (by omega) (by omega)
          refine lv_iinc (v := (x_7)) (lv' := [(2, .int x_7), (1, .int x_6), (0, .ref (ad 19 0))]) hx hb dX2_size_25 hl (k := 1) rfl (by rw [ex_7]; rfl) (by decide) rfl (fun ls hl => ?_)
          refine lv_goto (tgt := 4) hx hb dX2_size_28 (by decide) ?_
          exact ih_1 sv1 (x_6 : Int32) (x_7 : Int32) H _ ls (by omega) hB_sv1 (by omega) hM hS (lv_sub hl [0, 1, 2] rfl)
  exact lp1 ((4 - ((0 : Int32) : Int32).toInt).toNat + 1) st ((0 : Int32) : Int32) ((0 : Int32) : Int32) H _ ls (Nat.lt_succ_self _) hB_st (by have hl0 : (0 : Int32).toInt = 0 := (by decide); have hl1 : (0 : Int32).toInt = 0 := (by decide); omega) hM hS (lv_sub hl [0, 1, 2] rfl)

set_option maxHeartbeats 4000000 in
set_option maxRecDepth 100000 in
/-- WellCourt$Tape.byteAt -/
theorem s_X8_byteAt (l : Launch) (G : va_G) (cy : Nat → ClassId) (sK sV : Nat → Nat) (ad : Nat → Nat → Nat) (sz : Nat) (st : gS) (hB : gBd bX st) (x : Int32) (Xx : Int) (kx : x.toInt = Xx) (F : Nat → Int32) (N : Int) (hF : st 2 0 = F) (hN : (st 1 0 1).toInt = N) : gsMi l yX8_byteAt cX8_byteAt 2 (some .int) ({ frames := 0, cells := 0, slots := 0, locals := 0 } : Room) G cy sK sV (shX cy ad) cnX ad sz [.ref (ad 1 0), .int x] st (fun (r : Int32) (u : gS) => gBN bX kX [] st u ∧ (((0 ≤ Xx ∧ Xx < (st 1 0 1).toInt) ∨ r.toInt = -1) ∧ (r.toInt = bA F N Xx) ∧ (-1 ≤ r.toInt) ∧ (r.toInt ≤ 255))) := by
  refine gs_start (fun A => gsQi G (shX cy ad) cnX ad _ A) (by decide) (Nat.le_of_ble_eq_true rfl) ?_
  intro p e s m below meth c A ls H hx hb hr hml hlocks hown hts hK hov hE hI hM hm hS hA hl
  have hl : lv_has ls 2 [(0, .ref (ad 1 0)), (1, .int x)] := hl
  have hB_st : gBN bX kX [] st st := gBN.rf hB
  refine lv_iload_n hx hb dX8_byteAt_0 rfl (lv_at hl 1 rfl) ?_
  refine lv_if_lt (tgt := 12) hx hb dX8_byteAt_1 (by decide) (fun c_1 => ?_) (fun c_1 => ?_)
  · have ic_1 := gz_lt (rfl : x.toInt = x.toInt) (by decide : (0 : Int32).toInt = 0) c_1
    refine lv_iconst (v := (-1)) hx hb dX8_byteAt_12 (by decide) ?_
    refine lv_goto (tgt := 26) hx hb dX8_byteAt_13 (by decide) ?_
    exact gs_iret hx hb hr hlocks hM hS rfl ⟨hB_st, (Or.inr (by decide)), (by rw [bA_no (by omega)]; decide), (by decide), (by decide)⟩ (by exact Nat.le_refl _) (by exact Nat.le_refl _) dX8_byteAt_26
  · have ic_1 := gz_nlt (rfl : x.toInt = x.toInt) (by decide : (0 : Int32).toInt = 0) c_1
    refine lv_iload_n hx hb dX8_byteAt_4 rfl (lv_at hl 1 rfl) ?_
    refine lv_aload_n hx hb dX8_byteAt_5 rfl (lv_at hl 0 rfl) ?_
    refine gs_get (C := RX8) (T := TX8) (N := 2) hx hb hts inX8 hown hK hM 1 0 1 (by decide) rfl rfl (by decide) (hts _ gm_39) (fun _ h9 => h9) rfl dX8_byteAt_6 ?_
    have bf_2 : (0 : Int) ≤ (st 1 0 1).toInt ∧ (st 1 0 1).toInt ≤ (800 : Int) := hB_st.1 1 0 1
    refine lv_icmp_lt (tgt := 16) hx hb dX8_byteAt_9 (by decide) (fun c_3 => ?_) (fun c_3 => ?_)
    · have ic_3 := gz_lt (rfl : x.toInt = x.toInt) (rfl : (st 1 0 1).toInt = (st 1 0 1).toInt) c_3
      have lc_3 := gi_hi (st 1 0 1)
      refine lv_aload_n hx hb dX8_byteAt_16 rfl (lv_at hl 0 rfl) ?_
      refine gs_get (C := RX8) (T := TX8) (N := 2) hx hb hts inX8 hown hK hM 1 0 0 (by decide) rfl rfl (by decide) (hts _ gm_38) (fun _ h9 => h9) rfl dX8_byteAt_17 ?_
      refine lv_iload_n hx hb dX8_byteAt_20 rfl (lv_at hl 1 rfl) ?_
      refine gs_bald hx hb hK hM 2 0 (by decide) rfl (vp_in_iff.mpr ⟨by omega, by omega⟩) dX8_byteAt_21 ?_
      refine lv_topi (fun x_4 ex_4 => ?_)
      have qx_4 : x_4.toInt = (st 2 0 (x.toNatClampNeg)).toInt := congrArg Int32.toInt ex_4
      refine lv_sipush (v := 255) hx hb dX8_byteAt_22 (by decide) ?_
      refine lv_iand hx hb dX8_byteAt_25 ?_
      refine lv_topi (fun x_5 ex_5 => ?_)
      exact gs_iret hx hb hr hlocks hM hS rfl ⟨hB_st, (Or.inl ⟨by omega, by omega⟩), (by rw [bA_yes (by omega) (by omega), ex_5, ex_4, ← hF, ← kx]; rfl), (by have h9 : x_5.toInt = bA F N Xx := (by rw [bA_yes (by omega) (by omega), ex_5, ex_4, ← hF, ← kx]; rfl); have h8 := bA_rng F N Xx; omega), (by have h9 : x_5.toInt = bA F N Xx := (by rw [bA_yes (by omega) (by omega), ex_5, ex_4, ← hF, ← kx]; rfl); have h8 := bA_rng F N Xx; omega)⟩ (by exact Nat.le_refl _) (by exact Nat.le_refl _) dX8_byteAt_26
    · have ic_3 := gz_nlt (rfl : x.toInt = x.toInt) (rfl : (st 1 0 1).toInt = (st 1 0 1).toInt) c_3
      refine lv_iconst (v := (-1)) hx hb dX8_byteAt_12 (by decide) ?_
      refine lv_goto (tgt := 26) hx hb dX8_byteAt_13 (by decide) ?_
      exact gs_iret hx hb hr hlocks hM hS rfl ⟨hB_st, (Or.inr (by decide)), (by rw [bA_no (by omega)]; decide), (by decide), (by decide)⟩ (by exact Nat.le_refl _) (by exact Nat.le_refl _) dX8_byteAt_26

set_option maxHeartbeats 4000000 in
set_option maxRecDepth 100000 in
/-- WellCourt$Tape.append -/
theorem s_X8_append (l : Launch) (G : va_G) (cy : Nat → ClassId) (sK sV : Nat → Nat) (ad : Nat → Nat → Nat) (sz : Nat) (st : gS) (hB : gBd bX st) (x : Int32) : gsMv l yX8_append cX8_append 3 ({ frames := 0, cells := 0, slots := 0, locals := 0 } : Room) G cy sK sV (shX cy ad) cnX ad sz [.ref (ad 1 0), .int x] st (fun (u : gS) => gBN bX kX [101, 200] st u ∧ (((st 1 0 1).toInt + 4 ≤ 800 → (u 1 0 1).toInt = (st 1 0 1).toInt + 4))) := by
  refine gs_start (fun A => gsQv G (shX cy ad) cnX ad _ A) (by decide) (Nat.le_of_ble_eq_true rfl) ?_
  intro p e s m below meth c A ls H hx hb hr hml hlocks hown hts hK hov hE hI hM hm hS hA hl
  have hl : lv_has ls 3 [(0, .ref (ad 1 0)), (1, .int x)] := hl
  have hB_st : gBN bX kX [101, 200] st st := gBN.rf hB
  refine lv_bipush (v := 24) hx hb dX8_append_0 (by decide) ?_
  refine lv_istore_n (lv' := [(2, .int 24), (0, .ref (ad 1 0)), (1, .int x)]) hx hb dX8_append_2 rfl hl (by decide) rfl (fun ls hl => ?_)
  refine lv_iload_n hx hb dX8_append_3 rfl (lv_at hl 0 rfl) ?_
  refine lv_if_lt (tgt := 46) hx hb dX8_append_4 (by decide) (fun h9 => absurd h9 (by decide)) (fun _ => ?_)
  refine lv_aload_n hx hb dX8_append_7 rfl (lv_at hl 1 rfl) ?_
  refine gs_get (C := RX8) (T := TX8) (N := 2) hx hb hts inX8 hown hK hM 1 0 1 (by decide) rfl rfl (by decide) (hts _ gm_39) (fun _ h9 => h9) rfl dX8_append_8 ?_
  have bf_1 : (0 : Int) ≤ (st 1 0 1).toInt ∧ (st 1 0 1).toInt ≤ (800 : Int) := hB_st.1 1 0 1
  refine lv_sipush (v := 800) hx hb dX8_append_11 (by decide) ?_
  refine lv_icmp_ge (tgt := 46) hx hb dX8_append_14 (by decide) (fun c_2 => ?_) (fun c_2 => ?_)
  · have ic_2 := gz_le (by decide : (800 : Int32).toInt = 800) (rfl : (st 1 0 1).toInt = (st 1 0 1).toInt) c_2
    exact gs_vret hx hb hr hlocks hM hS ⟨hB_st, (by have hb0 : (0 : Int) ≤ (st 1 0 1).toInt ∧ (st 1 0 1).toInt ≤ (800 : Int) := hB_st.1 1 0 1; omega)⟩ (by exact Nat.le_refl _) (by exact Nat.le_refl _) dX8_append_46
  · have ic_2 := gz_nle (by decide : (800 : Int32).toInt = 800) (rfl : (st 1 0 1).toInt = (st 1 0 1).toInt) c_2
    refine lv_aload_n hx hb dX8_append_17 rfl (lv_at hl 1 rfl) ?_
    refine gs_get (C := RX8) (T := TX8) (N := 2) hx hb hts inX8 hown hK hM 1 0 0 (by decide) rfl rfl (by decide) (hts _ gm_38) (fun _ h9 => h9) rfl dX8_append_18 ?_
    refine lv_aload_n hx hb dX8_append_21 rfl (lv_at hl 1 rfl) ?_
    refine gs_get (C := RX8) (T := TX8) (N := 2) hx hb hts inX8 hown hK hM 1 0 1 (by decide) rfl rfl (by decide) (hts _ gm_39) (fun _ h9 => h9) rfl dX8_append_22 ?_
    have bf_3 : (0 : Int) ≤ (st 1 0 1).toInt ∧ (st 1 0 1).toInt ≤ (800 : Int) := hB_st.1 1 0 1
    refine lv_iload_n hx hb dX8_append_25 rfl (lv_at hl 2 rfl) ?_
    refine lv_iload_n hx hb dX8_append_26 rfl (lv_at hl 0 rfl) ?_
    refine lv_ishr hx hb dX8_append_27 ?_
    refine lv_topi (fun x_4 ex_4 => ?_)
    obtain ⟨x_5, ex_5⟩ : ∃ y : Int32, (x_4 : Int32).toInt8.toInt32 = y := ⟨_, rfl⟩
    refine lv_i2b hx hb dX8_append_28 ex_5 ?_
    refine gs_bast hx hb hK hI hm hM hS 2 0 (by decide) (fun _ => rfl) (vp_in_iff.mpr ⟨by omega, by omega⟩) dX8_append_29 (fun st_6 H locs est_6 hM hS => ?_)
    have hB_st_6 : gBN bX kX [101, 200] st st_6 := by rw [est_6]; exact hB_st.up (show (200 : Nat) ∈ _ from by decide) (gi_lo _) (gi_hi _)
    refine lv_aload_n hx hb dX8_append_30 rfl (lv_at hl 1 rfl) ?_
    refine lv_dup hx hb dX8_append_31 rfl ?_
    refine gs_get (C := RX8) (T := TX8) (N := 2) hx hb hts inX8 hown hK hM 1 0 1 (by decide) rfl rfl (by decide) (hts _ gm_39) (fun _ h9 => h9) rfl dX8_append_32 ?_
    refine lv_topi (fun x_7 ex_7 => ?_)
    have ex_7 : (st 1 0 1) = x_7 := Eq.symm (ex_7.trans ((congrFun (congrFun (congrFun est_6 1) 0) 1).trans (congrFun (congrFun (gU_k (by decide)) 0) 1)))
    subst ex_7
    have bf_8 : (0 : Int) ≤ (st 1 0 1).toInt ∧ (st 1 0 1).toInt ≤ (800 : Int) := hB_st.1 1 0 1
    refine lv_iconst (v := 1) hx hb dX8_append_35 (by decide) ?_
    refine lv_iadd hx hb dX8_append_36 ?_
    refine lv_topi (fun x_9 ex_9 => ?_)
    try have tx_9 : x_9.toInt = (st 1 0 1).toInt + 1 := by rw [ex_9]; exact gz_addP (x := (st 1 0 1).toInt) (y := 1) rfl (by decide) (by omega) (by omega)
    refine gs_put (C := RX8) (T := TX8) (N := 2) (ty := .int) (val := .int x_9) hx hb hts inX8 tyX8 tyX8_ok nmX8 hown hK hI hm hM hS 1 0 1 (by decide) rfl rfl (by decide) (hts _ gm_39) (fun _ h9 => h9) rfl (x_9 : Int32) rfl (by decide +kernel) rfl rfl (Nat.le_of_ble_eq_true rfl) dX8_append_37 (fun st_10 H locs est_10 hM hS => ?_)
    have hB_st_10 : gBN bX kX [101, 200] st st_10 := by rw [est_10]; exact hB_st_6.up (show (101 : Nat) ∈ _ from by decide) (show (0 : Int) ≤ x_9.toInt from by omega) (show x_9.toInt ≤ (800 : Int) from by omega)
    refine lv_iinc (v := (16)) (lv' := [(2, .int 16), (0, .ref (ad 1 0)), (1, .int x)]) hx hb dX8_append_40 hl (k := 0) rfl (by decide) (by decide) rfl (fun ls hl => ?_)
    refine lv_goto (tgt := 3) hx hb dX8_append_43 (by decide) ?_
    refine lv_iload_n hx hb dX8_append_3 rfl (lv_at hl 0 rfl) ?_
    refine lv_if_lt (tgt := 46) hx hb dX8_append_4 (by decide) (fun h9 => absurd h9 (by decide)) (fun _ => ?_)
    refine lv_aload_n hx hb dX8_append_7 rfl (lv_at hl 1 rfl) ?_
    refine gs_get (C := RX8) (T := TX8) (N := 2) hx hb hts inX8 hown hK hM 1 0 1 (by decide) rfl rfl (by decide) (hts _ gm_39) (fun _ h9 => h9) rfl dX8_append_8 ?_
    refine lv_topi (fun x_11 ex_11 => ?_)
    have ex_11 : x_9 = x_11 := Eq.symm (ex_11.trans ((congrFun (congrFun (congrFun est_10 1) 0) 1).trans (gU_same _ _ _ _ _)))
    subst ex_11
    refine lv_sipush (v := 800) hx hb dX8_append_11 (by decide) ?_
    refine lv_icmp_ge (tgt := 46) hx hb dX8_append_14 (by decide) (fun c_12 => ?_) (fun c_12 => ?_)
    · have ic_12 := gz_le (by decide : (800 : Int32).toInt = 800) (rfl : x_9.toInt = x_9.toInt) c_12
      exact gs_vret hx hb hr hlocks hM hS ⟨hB_st_10, (by have hb0 : (0 : Int) ≤ (st 1 0 1).toInt ∧ (st 1 0 1).toInt ≤ (800 : Int) := hB_st.1 1 0 1; have hq1 : (st_10 1 0 1).toInt = (x_9 : Int32).toInt := congrArg Int32.toInt (((congrFun (congrFun (congrFun est_10 1) 0) 1).trans (gU_same _ _ _ _ _))); have hb2 : (0 : Int) ≤ (st_10 1 0 1).toInt ∧ (st_10 1 0 1).toInt ≤ (800 : Int) := hB_st_10.1 1 0 1; omega)⟩ (by exact Nat.le_refl _) (by exact Nat.le_refl _) dX8_append_46
    · have ic_12 := gz_nle (by decide : (800 : Int32).toInt = 800) (rfl : x_9.toInt = x_9.toInt) c_12
      refine lv_aload_n hx hb dX8_append_17 rfl (lv_at hl 1 rfl) ?_
      refine gs_get (C := RX8) (T := TX8) (N := 2) hx hb hts inX8 hown hK hM 1 0 0 (by decide) rfl rfl (by decide) (hts _ gm_38) (fun _ h9 => h9) rfl dX8_append_18 ?_
      refine lv_aload_n hx hb dX8_append_21 rfl (lv_at hl 1 rfl) ?_
      refine gs_get (C := RX8) (T := TX8) (N := 2) hx hb hts inX8 hown hK hM 1 0 1 (by decide) rfl rfl (by decide) (hts _ gm_39) (fun _ h9 => h9) rfl dX8_append_22 ?_
      refine lv_topi (fun x_13 ex_13 => ?_)
      have ex_13 : x_9 = x_13 := Eq.symm (ex_13.trans ((congrFun (congrFun (congrFun est_10 1) 0) 1).trans (gU_same _ _ _ _ _)))
      subst ex_13
      refine lv_iload_n hx hb dX8_append_25 rfl (lv_at hl 2 rfl) ?_
      refine lv_iload_n hx hb dX8_append_26 rfl (lv_at hl 0 rfl) ?_
      refine lv_ishr hx hb dX8_append_27 ?_
      refine lv_topi (fun x_14 ex_14 => ?_)
      obtain ⟨x_15, ex_15⟩ : ∃ y : Int32, (x_14 : Int32).toInt8.toInt32 = y := ⟨_, rfl⟩
      refine lv_i2b hx hb dX8_append_28 ex_15 ?_
      refine gs_bast hx hb hK hI hm hM hS 2 0 (by decide) (fun _ => rfl) (vp_in_iff.mpr ⟨by omega, by omega⟩) dX8_append_29 (fun st_16 H locs est_16 hM hS => ?_)
      have hB_st_16 : gBN bX kX [101, 200] st st_16 := by rw [est_16]; exact hB_st_10.up (show (200 : Nat) ∈ _ from by decide) (gi_lo _) (gi_hi _)
      refine lv_aload_n hx hb dX8_append_30 rfl (lv_at hl 1 rfl) ?_
      refine lv_dup hx hb dX8_append_31 rfl ?_
      refine gs_get (C := RX8) (T := TX8) (N := 2) hx hb hts inX8 hown hK hM 1 0 1 (by decide) rfl rfl (by decide) (hts _ gm_39) (fun _ h9 => h9) rfl dX8_append_32 ?_
      refine lv_topi (fun x_17 ex_17 => ?_)
      have ex_17 : x_9 = x_17 := Eq.symm (ex_17.trans (((congrFun (congrFun (congrFun est_16 1) 0) 1).trans (congrFun (congrFun (gU_k (by decide)) 0) 1)).trans ((congrFun (congrFun (congrFun est_10 1) 0) 1).trans (gU_same _ _ _ _ _))))
      subst ex_17
      refine lv_iconst (v := 1) hx hb dX8_append_35 (by decide) ?_
      refine lv_iadd hx hb dX8_append_36 ?_
      refine lv_topi (fun x_18 ex_18 => ?_)
      try have tx_18 : x_18.toInt = x_9.toInt + 1 := by rw [ex_18]; exact gz_addP (x := x_9.toInt) (y := 1) rfl (by decide) (by omega) (by omega)
      refine gs_put (C := RX8) (T := TX8) (N := 2) (ty := .int) (val := .int x_18) hx hb hts inX8 tyX8 tyX8_ok nmX8 hown hK hI hm hM hS 1 0 1 (by decide) rfl rfl (by decide) (hts _ gm_39) (fun _ h9 => h9) rfl (x_18 : Int32) rfl (by decide +kernel) rfl rfl (Nat.le_of_ble_eq_true rfl) dX8_append_37 (fun st_19 H locs est_19 hM hS => ?_)
      have hB_st_19 : gBN bX kX [101, 200] st st_19 := by rw [est_19]; exact hB_st_16.up (show (101 : Nat) ∈ _ from by decide) (show (0 : Int) ≤ x_18.toInt from by omega) (show x_18.toInt ≤ (800 : Int) from by omega)
      refine lv_iinc (v := (8)) (lv' := [(2, .int 8), (0, .ref (ad 1 0)), (1, .int x)]) hx hb dX8_append_40 hl (k := 0) rfl (by decide) (by decide) rfl (fun ls hl => ?_)
      refine lv_goto (tgt := 3) hx hb dX8_append_43 (by decide) ?_
      refine lv_iload_n hx hb dX8_append_3 rfl (lv_at hl 0 rfl) ?_
      refine lv_if_lt (tgt := 46) hx hb dX8_append_4 (by decide) (fun h9 => absurd h9 (by decide)) (fun _ => ?_)
      refine lv_aload_n hx hb dX8_append_7 rfl (lv_at hl 1 rfl) ?_
      refine gs_get (C := RX8) (T := TX8) (N := 2) hx hb hts inX8 hown hK hM 1 0 1 (by decide) rfl rfl (by decide) (hts _ gm_39) (fun _ h9 => h9) rfl dX8_append_8 ?_
      refine lv_topi (fun x_20 ex_20 => ?_)
      have ex_20 : x_18 = x_20 := Eq.symm (ex_20.trans ((congrFun (congrFun (congrFun est_19 1) 0) 1).trans (gU_same _ _ _ _ _)))
      subst ex_20
      refine lv_sipush (v := 800) hx hb dX8_append_11 (by decide) ?_
      refine lv_icmp_ge (tgt := 46) hx hb dX8_append_14 (by decide) (fun c_21 => ?_) (fun c_21 => ?_)
      · have ic_21 := gz_le (by decide : (800 : Int32).toInt = 800) (rfl : x_18.toInt = x_18.toInt) c_21
        exact gs_vret hx hb hr hlocks hM hS ⟨hB_st_19, (by have hb0 : (0 : Int) ≤ (st 1 0 1).toInt ∧ (st 1 0 1).toInt ≤ (800 : Int) := hB_st.1 1 0 1; have hq1 : (st_19 1 0 1).toInt = (x_18 : Int32).toInt := congrArg Int32.toInt (((congrFun (congrFun (congrFun est_19 1) 0) 1).trans (gU_same _ _ _ _ _))); have hb2 : (0 : Int) ≤ (st_19 1 0 1).toInt ∧ (st_19 1 0 1).toInt ≤ (800 : Int) := hB_st_19.1 1 0 1; omega)⟩ (by exact Nat.le_refl _) (by exact Nat.le_refl _) dX8_append_46
      · have ic_21 := gz_nle (by decide : (800 : Int32).toInt = 800) (rfl : x_18.toInt = x_18.toInt) c_21
        refine lv_aload_n hx hb dX8_append_17 rfl (lv_at hl 1 rfl) ?_
        refine gs_get (C := RX8) (T := TX8) (N := 2) hx hb hts inX8 hown hK hM 1 0 0 (by decide) rfl rfl (by decide) (hts _ gm_38) (fun _ h9 => h9) rfl dX8_append_18 ?_
        refine lv_aload_n hx hb dX8_append_21 rfl (lv_at hl 1 rfl) ?_
        refine gs_get (C := RX8) (T := TX8) (N := 2) hx hb hts inX8 hown hK hM 1 0 1 (by decide) rfl rfl (by decide) (hts _ gm_39) (fun _ h9 => h9) rfl dX8_append_22 ?_
        refine lv_topi (fun x_22 ex_22 => ?_)
        have ex_22 : x_18 = x_22 := Eq.symm (ex_22.trans ((congrFun (congrFun (congrFun est_19 1) 0) 1).trans (gU_same _ _ _ _ _)))
        subst ex_22
        refine lv_iload_n hx hb dX8_append_25 rfl (lv_at hl 2 rfl) ?_
        refine lv_iload_n hx hb dX8_append_26 rfl (lv_at hl 0 rfl) ?_
        refine lv_ishr hx hb dX8_append_27 ?_
        refine lv_topi (fun x_23 ex_23 => ?_)
        obtain ⟨x_24, ex_24⟩ : ∃ y : Int32, (x_23 : Int32).toInt8.toInt32 = y := ⟨_, rfl⟩
        refine lv_i2b hx hb dX8_append_28 ex_24 ?_
        refine gs_bast hx hb hK hI hm hM hS 2 0 (by decide) (fun _ => rfl) (vp_in_iff.mpr ⟨by omega, by omega⟩) dX8_append_29 (fun st_25 H locs est_25 hM hS => ?_)
        have hB_st_25 : gBN bX kX [101, 200] st st_25 := by rw [est_25]; exact hB_st_19.up (show (200 : Nat) ∈ _ from by decide) (gi_lo _) (gi_hi _)
        refine lv_aload_n hx hb dX8_append_30 rfl (lv_at hl 1 rfl) ?_
        refine lv_dup hx hb dX8_append_31 rfl ?_
        refine gs_get (C := RX8) (T := TX8) (N := 2) hx hb hts inX8 hown hK hM 1 0 1 (by decide) rfl rfl (by decide) (hts _ gm_39) (fun _ h9 => h9) rfl dX8_append_32 ?_
        refine lv_topi (fun x_26 ex_26 => ?_)
        have ex_26 : x_18 = x_26 := Eq.symm (ex_26.trans (((congrFun (congrFun (congrFun est_25 1) 0) 1).trans (congrFun (congrFun (gU_k (by decide)) 0) 1)).trans ((congrFun (congrFun (congrFun est_19 1) 0) 1).trans (gU_same _ _ _ _ _))))
        subst ex_26
        refine lv_iconst (v := 1) hx hb dX8_append_35 (by decide) ?_
        refine lv_iadd hx hb dX8_append_36 ?_
        refine lv_topi (fun x_27 ex_27 => ?_)
        try have tx_27 : x_27.toInt = x_18.toInt + 1 := by rw [ex_27]; exact gz_addP (x := x_18.toInt) (y := 1) rfl (by decide) (by omega) (by omega)
        refine gs_put (C := RX8) (T := TX8) (N := 2) (ty := .int) (val := .int x_27) hx hb hts inX8 tyX8 tyX8_ok nmX8 hown hK hI hm hM hS 1 0 1 (by decide) rfl rfl (by decide) (hts _ gm_39) (fun _ h9 => h9) rfl (x_27 : Int32) rfl (by decide +kernel) rfl rfl (Nat.le_of_ble_eq_true rfl) dX8_append_37 (fun st_28 H locs est_28 hM hS => ?_)
        have hB_st_28 : gBN bX kX [101, 200] st st_28 := by rw [est_28]; exact hB_st_25.up (show (101 : Nat) ∈ _ from by decide) (show (0 : Int) ≤ x_27.toInt from by omega) (show x_27.toInt ≤ (800 : Int) from by omega)
        refine lv_iinc (v := (0)) (lv' := [(2, .int 0), (0, .ref (ad 1 0)), (1, .int x)]) hx hb dX8_append_40 hl (k := 0) rfl (by decide) (by decide) rfl (fun ls hl => ?_)
        refine lv_goto (tgt := 3) hx hb dX8_append_43 (by decide) ?_
        refine lv_iload_n hx hb dX8_append_3 rfl (lv_at hl 0 rfl) ?_
        refine lv_if_lt (tgt := 46) hx hb dX8_append_4 (by decide) (fun h9 => absurd h9 (by decide)) (fun _ => ?_)
        refine lv_aload_n hx hb dX8_append_7 rfl (lv_at hl 1 rfl) ?_
        refine gs_get (C := RX8) (T := TX8) (N := 2) hx hb hts inX8 hown hK hM 1 0 1 (by decide) rfl rfl (by decide) (hts _ gm_39) (fun _ h9 => h9) rfl dX8_append_8 ?_
        refine lv_topi (fun x_29 ex_29 => ?_)
        have ex_29 : x_27 = x_29 := Eq.symm (ex_29.trans ((congrFun (congrFun (congrFun est_28 1) 0) 1).trans (gU_same _ _ _ _ _)))
        subst ex_29
        refine lv_sipush (v := 800) hx hb dX8_append_11 (by decide) ?_
        refine lv_icmp_ge (tgt := 46) hx hb dX8_append_14 (by decide) (fun c_30 => ?_) (fun c_30 => ?_)
        · have ic_30 := gz_le (by decide : (800 : Int32).toInt = 800) (rfl : x_27.toInt = x_27.toInt) c_30
          exact gs_vret hx hb hr hlocks hM hS ⟨hB_st_28, (by have hb0 : (0 : Int) ≤ (st 1 0 1).toInt ∧ (st 1 0 1).toInt ≤ (800 : Int) := hB_st.1 1 0 1; have hq1 : (st_28 1 0 1).toInt = (x_27 : Int32).toInt := congrArg Int32.toInt (((congrFun (congrFun (congrFun est_28 1) 0) 1).trans (gU_same _ _ _ _ _))); have hb2 : (0 : Int) ≤ (st_28 1 0 1).toInt ∧ (st_28 1 0 1).toInt ≤ (800 : Int) := hB_st_28.1 1 0 1; omega)⟩ (by exact Nat.le_refl _) (by exact Nat.le_refl _) dX8_append_46
        · have ic_30 := gz_nle (by decide : (800 : Int32).toInt = 800) (rfl : x_27.toInt = x_27.toInt) c_30
          refine lv_aload_n hx hb dX8_append_17 rfl (lv_at hl 1 rfl) ?_
          refine gs_get (C := RX8) (T := TX8) (N := 2) hx hb hts inX8 hown hK hM 1 0 0 (by decide) rfl rfl (by decide) (hts _ gm_38) (fun _ h9 => h9) rfl dX8_append_18 ?_
          refine lv_aload_n hx hb dX8_append_21 rfl (lv_at hl 1 rfl) ?_
          refine gs_get (C := RX8) (T := TX8) (N := 2) hx hb hts inX8 hown hK hM 1 0 1 (by decide) rfl rfl (by decide) (hts _ gm_39) (fun _ h9 => h9) rfl dX8_append_22 ?_
          refine lv_topi (fun x_31 ex_31 => ?_)
          have ex_31 : x_27 = x_31 := Eq.symm (ex_31.trans ((congrFun (congrFun (congrFun est_28 1) 0) 1).trans (gU_same _ _ _ _ _)))
          subst ex_31
          refine lv_iload_n hx hb dX8_append_25 rfl (lv_at hl 2 rfl) ?_
          refine lv_iload_n hx hb dX8_append_26 rfl (lv_at hl 0 rfl) ?_
          refine lv_ishr hx hb dX8_append_27 ?_
          refine lv_topi (fun x_32 ex_32 => ?_)
          obtain ⟨x_33, ex_33⟩ : ∃ y : Int32, (x_32 : Int32).toInt8.toInt32 = y := ⟨_, rfl⟩
          refine lv_i2b hx hb dX8_append_28 ex_33 ?_
          refine gs_bast hx hb hK hI hm hM hS 2 0 (by decide) (fun _ => rfl) (vp_in_iff.mpr ⟨by omega, by omega⟩) dX8_append_29 (fun st_34 H locs est_34 hM hS => ?_)
          have hB_st_34 : gBN bX kX [101, 200] st st_34 := by rw [est_34]; exact hB_st_28.up (show (200 : Nat) ∈ _ from by decide) (gi_lo _) (gi_hi _)
          refine lv_aload_n hx hb dX8_append_30 rfl (lv_at hl 1 rfl) ?_
          refine lv_dup hx hb dX8_append_31 rfl ?_
          refine gs_get (C := RX8) (T := TX8) (N := 2) hx hb hts inX8 hown hK hM 1 0 1 (by decide) rfl rfl (by decide) (hts _ gm_39) (fun _ h9 => h9) rfl dX8_append_32 ?_
          refine lv_topi (fun x_35 ex_35 => ?_)
          have ex_35 : x_27 = x_35 := Eq.symm (ex_35.trans (((congrFun (congrFun (congrFun est_34 1) 0) 1).trans (congrFun (congrFun (gU_k (by decide)) 0) 1)).trans ((congrFun (congrFun (congrFun est_28 1) 0) 1).trans (gU_same _ _ _ _ _))))
          subst ex_35
          refine lv_iconst (v := 1) hx hb dX8_append_35 (by decide) ?_
          refine lv_iadd hx hb dX8_append_36 ?_
          refine lv_topi (fun x_36 ex_36 => ?_)
          try have tx_36 : x_36.toInt = x_27.toInt + 1 := by rw [ex_36]; exact gz_addP (x := x_27.toInt) (y := 1) rfl (by decide) (by omega) (by omega)
          refine gs_put (C := RX8) (T := TX8) (N := 2) (ty := .int) (val := .int x_36) hx hb hts inX8 tyX8 tyX8_ok nmX8 hown hK hI hm hM hS 1 0 1 (by decide) rfl rfl (by decide) (hts _ gm_39) (fun _ h9 => h9) rfl (x_36 : Int32) rfl (by decide +kernel) rfl rfl (Nat.le_of_ble_eq_true rfl) dX8_append_37 (fun st_37 H locs est_37 hM hS => ?_)
          have hB_st_37 : gBN bX kX [101, 200] st st_37 := by rw [est_37]; exact hB_st_34.up (show (101 : Nat) ∈ _ from by decide) (show (0 : Int) ≤ x_36.toInt from by omega) (show x_36.toInt ≤ (800 : Int) from by omega)
          refine lv_iinc (v := ((-8))) (lv' := [(2, .int (-8)), (0, .ref (ad 1 0)), (1, .int x)]) hx hb dX8_append_40 hl (k := 0) rfl (by decide) (by decide) rfl (fun ls hl => ?_)
          refine lv_goto (tgt := 3) hx hb dX8_append_43 (by decide) ?_
          refine lv_iload_n hx hb dX8_append_3 rfl (lv_at hl 0 rfl) ?_
          refine lv_if_lt (tgt := 46) hx hb dX8_append_4 (by decide) (fun _ => ?_) (fun h9 => absurd (by decide) h9)
          exact gs_vret hx hb hr hlocks hM hS ⟨hB_st_37, (by have hb0 : (0 : Int) ≤ (st 1 0 1).toInt ∧ (st 1 0 1).toInt ≤ (800 : Int) := hB_st.1 1 0 1; have hq1 : (st_37 1 0 1).toInt = (x_36 : Int32).toInt := congrArg Int32.toInt (((congrFun (congrFun (congrFun est_37 1) 0) 1).trans (gU_same _ _ _ _ _))); have hb2 : (0 : Int) ≤ (st_37 1 0 1).toInt ∧ (st_37 1 0 1).toInt ≤ (800 : Int) := hB_st_37.1 1 0 1; omega)⟩ (by exact Nat.le_refl _) (by exact Nat.le_refl _) dX8_append_46

set_option maxHeartbeats 4000000 in
set_option maxRecDepth 100000 in
/-- WellCourt$Reader.isBlank -/
theorem s_X7_isBlank (l : Launch) (G : va_G) (cy : Nat → ClassId) (sK sV : Nat → Nat) (ad : Nat → Nat → Nat) (sz : Nat) (st : gS) (hB : gBd bX st) (x : Int32) (Xx : Int) (kx : x.toInt = Xx) : gsMi l yX7_isBlank cX7_isBlank 1 (some .boolean) ({ frames := 0, cells := 0, slots := 0, locals := 0 } : Room) G cy sK sV (shX cy ad) cnX ad sz [.int x] st (fun (r : Int32) (u : gS) => gBN bX kX [] st u ∧ ((r = 1 ∧ (Xx = 32 ∨ Xx = 10)) ∨ (r = 0 ∧ (¬ Xx = 32) ∧ (¬ Xx = 10)))) := by
  refine gs_start (fun A => gsQi G (shX cy ad) cnX ad _ A) (by decide) (Nat.le_of_ble_eq_true rfl) ?_
  intro p e s m below meth c A ls H hx hb hr hml hlocks hown hts hK hov hE hI hM hm hS hA hl
  have hl : lv_has ls 1 [(0, .int x)] := hl
  have hB_st : gBN bX kX [] st st := gBN.rf hB
  refine lv_iload_n hx hb dX7_isBlank_0 rfl (lv_at hl 0 rfl) ?_
  refine lv_bipush (v := 32) hx hb dX7_isBlank_1 (by decide) ?_
  refine lv_icmp_eq (tgt := 12) hx hb dX7_isBlank_3 (by decide) (fun c_1 => ?_) (fun c_1 => ?_)
  · have ic_1 := gz_eq (rfl : x.toInt = x.toInt) (by decide : (32 : Int32).toInt = 32) c_1
    refine lv_iconst (v := 1) hx hb dX7_isBlank_12 (by decide) ?_
    refine lv_goto (tgt := 17) hx hb dX7_isBlank_13 (by decide) ?_
    exact gs_iret hx hb hr hlocks hM hS (by decide) ⟨hB_st, (Or.inl (⟨rfl, (by have hl0 : (1 : Int32).toInt = 1 := (by decide); omega)⟩))⟩ (by exact Nat.le_refl _) (by exact Nat.le_refl _) dX7_isBlank_17
  · have ic_1 := gz_ne (rfl : x.toInt = x.toInt) (by decide : (32 : Int32).toInt = 32) c_1
    refine lv_iload_n hx hb dX7_isBlank_6 rfl (lv_at hl 0 rfl) ?_
    refine lv_bipush (v := 10) hx hb dX7_isBlank_7 (by decide) ?_
    refine lv_icmp_ne (tgt := 16) hx hb dX7_isBlank_9 (by decide) (fun c_2 => ?_) (fun c_2 => ?_)
    · have ic_2 := gz_ne (rfl : x.toInt = x.toInt) (by decide : (10 : Int32).toInt = 10) c_2
      refine lv_iconst (v := 0) hx hb dX7_isBlank_16 (by decide) ?_
      exact gs_iret hx hb hr hlocks hM hS (by decide) ⟨hB_st, (Or.inr (⟨rfl, (by have hl0 : (0 : Int32).toInt = 0 := (by decide); omega), (by have hl0 : (0 : Int32).toInt = 0 := (by decide); omega)⟩))⟩ (by exact Nat.le_refl _) (by exact Nat.le_refl _) dX7_isBlank_17
    · have ic_2 := gz_eqn (rfl : x.toInt = x.toInt) (by decide : (10 : Int32).toInt = 10) c_2
      refine lv_iconst (v := 1) hx hb dX7_isBlank_12 (by decide) ?_
      refine lv_goto (tgt := 17) hx hb dX7_isBlank_13 (by decide) ?_
      exact gs_iret hx hb hr hlocks hM hS (by decide) ⟨hB_st, (Or.inl (⟨rfl, (by have hl0 : (1 : Int32).toInt = 1 := (by decide); omega)⟩))⟩ (by exact Nat.le_refl _) (by exact Nat.le_refl _) dX7_isBlank_17

set_option maxHeartbeats 4000000 in
set_option maxRecDepth 100000 in
/-- WellCourt$Reader.isDigit -/
theorem s_X7_isDigit (l : Launch) (G : va_G) (cy : Nat → ClassId) (sK sV : Nat → Nat) (ad : Nat → Nat → Nat) (sz : Nat) (st : gS) (hB : gBd bX st) (x : Int32) (Xx : Int) (kx : x.toInt = Xx) : gsMi l yX7_isDigit cX7_isDigit 1 (some .boolean) ({ frames := 0, cells := 0, slots := 0, locals := 0 } : Room) G cy sK sV (shX cy ad) cnX ad sz [.int x] st (fun (r : Int32) (u : gS) => gBN bX kX [] st u ∧ ((r = 1 ∧ (48 ≤ Xx) ∧ (Xx ≤ 57)) ∨ (r = 0 ∧ (Xx < 48 ∨ 57 < Xx)))) := by
  refine gs_start (fun A => gsQi G (shX cy ad) cnX ad _ A) (by decide) (Nat.le_of_ble_eq_true rfl) ?_
  intro p e s m below meth c A ls H hx hb hr hml hlocks hown hts hK hov hE hI hM hm hS hA hl
  have hl : lv_has ls 1 [(0, .int x)] := hl
  have hB_st : gBN bX kX [] st st := gBN.rf hB
  refine lv_iload_n hx hb dX7_isDigit_0 rfl (lv_at hl 0 rfl) ?_
  refine lv_bipush (v := 48) hx hb dX7_isDigit_1 (by decide) ?_
  refine lv_icmp_lt (tgt := 16) hx hb dX7_isDigit_3 (by decide) (fun c_1 => ?_) (fun c_1 => ?_)
  · have ic_1 := gz_lt (rfl : x.toInt = x.toInt) (by decide : (48 : Int32).toInt = 48) c_1
    refine lv_iconst (v := 0) hx hb dX7_isDigit_16 (by decide) ?_
    exact gs_iret hx hb hr hlocks hM hS (by decide) ⟨hB_st, (Or.inr (⟨rfl, (by have hl0 : (0 : Int32).toInt = 0 := (by decide); omega)⟩))⟩ (by exact Nat.le_refl _) (by exact Nat.le_refl _) dX7_isDigit_17
  · have ic_1 := gz_nlt (rfl : x.toInt = x.toInt) (by decide : (48 : Int32).toInt = 48) c_1
    refine lv_iload_n hx hb dX7_isDigit_6 rfl (lv_at hl 0 rfl) ?_
    refine lv_bipush (v := 57) hx hb dX7_isDigit_7 (by decide) ?_
    refine lv_icmp_gt (tgt := 16) hx hb dX7_isDigit_9 (by decide) (fun c_2 => ?_) (fun c_2 => ?_)
    · have ic_2 := gz_lt (by decide : (57 : Int32).toInt = 57) (rfl : x.toInt = x.toInt) c_2
      refine lv_iconst (v := 0) hx hb dX7_isDigit_16 (by decide) ?_
      exact gs_iret hx hb hr hlocks hM hS (by decide) ⟨hB_st, (Or.inr (⟨rfl, (by have hl0 : (0 : Int32).toInt = 0 := (by decide); omega)⟩))⟩ (by exact Nat.le_refl _) (by exact Nat.le_refl _) dX7_isDigit_17
    · have ic_2 := gz_nlt (by decide : (57 : Int32).toInt = 57) (rfl : x.toInt = x.toInt) c_2
      refine lv_iconst (v := 1) hx hb dX7_isDigit_12 (by decide) ?_
      refine lv_goto (tgt := 17) hx hb dX7_isDigit_13 (by decide) ?_
      exact gs_iret hx hb hr hlocks hM hS (by decide) ⟨hB_st, (Or.inl (⟨rfl, (by have hl0 : (1 : Int32).toInt = 1 := (by decide); omega), (by have hl0 : (1 : Int32).toInt = 1 := (by decide); omega)⟩))⟩ (by exact Nat.le_refl _) (by exact Nat.le_refl _) dX7_isDigit_17

set_option maxHeartbeats 4000000 in
set_option maxRecDepth 100000 in
/-- WellCourt$Reader.isSmall -/
theorem s_X7_isSmall (l : Launch) (G : va_G) (cy : Nat → ClassId) (sK sV : Nat → Nat) (ad : Nat → Nat → Nat) (sz : Nat) (st : gS) (hB : gBd bX st) (x : Int32) (Xx : Int) (kx : x.toInt = Xx) : gsMi l yX7_isSmall cX7_isSmall 1 (some .boolean) ({ frames := 0, cells := 0, slots := 0, locals := 0 } : Room) G cy sK sV (shX cy ad) cnX ad sz [.int x] st (fun (r : Int32) (u : gS) => gBN bX kX [] st u ∧ ((r = 1 ∧ (97 ≤ Xx) ∧ (Xx ≤ 122)) ∨ (r = 0 ∧ (Xx < 97 ∨ 122 < Xx)))) := by
  refine gs_start (fun A => gsQi G (shX cy ad) cnX ad _ A) (by decide) (Nat.le_of_ble_eq_true rfl) ?_
  intro p e s m below meth c A ls H hx hb hr hml hlocks hown hts hK hov hE hI hM hm hS hA hl
  have hl : lv_has ls 1 [(0, .int x)] := hl
  have hB_st : gBN bX kX [] st st := gBN.rf hB
  refine lv_iload_n hx hb dX7_isSmall_0 rfl (lv_at hl 0 rfl) ?_
  refine lv_bipush (v := 97) hx hb dX7_isSmall_1 (by decide) ?_
  refine lv_icmp_lt (tgt := 16) hx hb dX7_isSmall_3 (by decide) (fun c_1 => ?_) (fun c_1 => ?_)
  · have ic_1 := gz_lt (rfl : x.toInt = x.toInt) (by decide : (97 : Int32).toInt = 97) c_1
    refine lv_iconst (v := 0) hx hb dX7_isSmall_16 (by decide) ?_
    exact gs_iret hx hb hr hlocks hM hS (by decide) ⟨hB_st, (Or.inr (⟨rfl, (by have hl0 : (0 : Int32).toInt = 0 := (by decide); omega)⟩))⟩ (by exact Nat.le_refl _) (by exact Nat.le_refl _) dX7_isSmall_17
  · have ic_1 := gz_nlt (rfl : x.toInt = x.toInt) (by decide : (97 : Int32).toInt = 97) c_1
    refine lv_iload_n hx hb dX7_isSmall_6 rfl (lv_at hl 0 rfl) ?_
    refine lv_bipush (v := 122) hx hb dX7_isSmall_7 (by decide) ?_
    refine lv_icmp_gt (tgt := 16) hx hb dX7_isSmall_9 (by decide) (fun c_2 => ?_) (fun c_2 => ?_)
    · have ic_2 := gz_lt (by decide : (122 : Int32).toInt = 122) (rfl : x.toInt = x.toInt) c_2
      refine lv_iconst (v := 0) hx hb dX7_isSmall_16 (by decide) ?_
      exact gs_iret hx hb hr hlocks hM hS (by decide) ⟨hB_st, (Or.inr (⟨rfl, (by have hl0 : (0 : Int32).toInt = 0 := (by decide); omega)⟩))⟩ (by exact Nat.le_refl _) (by exact Nat.le_refl _) dX7_isSmall_17
    · have ic_2 := gz_nlt (by decide : (122 : Int32).toInt = 122) (rfl : x.toInt = x.toInt) c_2
      refine lv_iconst (v := 1) hx hb dX7_isSmall_12 (by decide) ?_
      refine lv_goto (tgt := 17) hx hb dX7_isSmall_13 (by decide) ?_
      exact gs_iret hx hb hr hlocks hM hS (by decide) ⟨hB_st, (Or.inl (⟨rfl, (by have hl0 : (1 : Int32).toInt = 1 := (by decide); omega), (by have hl0 : (1 : Int32).toInt = 1 := (by decide); omega)⟩))⟩ (by exact Nat.le_refl _) (by exact Nat.le_refl _) dX7_isSmall_17

set_option maxHeartbeats 4000000 in
set_option maxRecDepth 100000 in
/-- WellCourt$Reader.isLetter -/
theorem s_X7_isLetter (l : Launch) (G : va_G) (cy : Nat → ClassId) (sK sV : Nat → Nat) (ad : Nat → Nat → Nat) (sz : Nat) (st : gS) (hB : gBd bX st) (x : Int32) (Xx : Int) (kx : x.toInt = Xx) : gsMi l yX7_isLetter cX7_isLetter 1 (some .boolean) ({ frames := 0, cells := 0, slots := 0, locals := 0 } : Room) G cy sK sV (shX cy ad) cnX ad sz [.int x] st (fun (r : Int32) (u : gS) => gBN bX kX [] st u ∧ ((r = 1 ∧ ((97 ≤ Xx ∧ Xx ≤ 122) ∨ (65 ≤ Xx ∧ Xx ≤ 90))) ∨ (r = 0 ∧ (¬ ((97 ≤ Xx ∧ Xx ≤ 122) ∨ (65 ≤ Xx ∧ Xx ≤ 90)))))) := by
  refine gs_start (fun A => gsQi G (shX cy ad) cnX ad _ A) (by decide) (Nat.le_of_ble_eq_true rfl) ?_
  intro p e s m below meth c A ls H hx hb hr hml hlocks hown hts hK hov hE hI hM hm hS hA hl
  have hl : lv_has ls 1 [(0, .int x)] := hl
  have hB_st : gBN bX kX [] st st := gBN.rf hB
  refine lv_iload_n hx hb dX7_isLetter_0 rfl (lv_at hl 0 rfl) ?_
  refine lv_bipush (v := 97) hx hb dX7_isLetter_1 (by decide) ?_
  refine lv_icmp_lt (tgt := 12) hx hb dX7_isLetter_3 (by decide) (fun c_1 => ?_) (fun c_1 => ?_)
  · have ic_1 := gz_lt (rfl : x.toInt = x.toInt) (by decide : (97 : Int32).toInt = 97) c_1
    refine lv_iload_n hx hb dX7_isLetter_12 rfl (lv_at hl 0 rfl) ?_
    refine lv_bipush (v := 65) hx hb dX7_isLetter_13 (by decide) ?_
    refine lv_icmp_lt (tgt := 28) hx hb dX7_isLetter_15 (by decide) (fun c_2 => ?_) (fun c_2 => ?_)
    · have ic_2 := gz_lt (rfl : x.toInt = x.toInt) (by decide : (65 : Int32).toInt = 65) c_2
      refine lv_iconst (v := 0) hx hb dX7_isLetter_28 (by decide) ?_
      exact gs_iret hx hb hr hlocks hM hS (by decide) ⟨hB_st, (Or.inr (⟨rfl, (by have hl0 : (0 : Int32).toInt = 0 := (by decide); omega)⟩))⟩ (by exact Nat.le_refl _) (by exact Nat.le_refl _) dX7_isLetter_29
    · have ic_2 := gz_nlt (rfl : x.toInt = x.toInt) (by decide : (65 : Int32).toInt = 65) c_2
      refine lv_iload_n hx hb dX7_isLetter_18 rfl (lv_at hl 0 rfl) ?_
      refine lv_bipush (v := 90) hx hb dX7_isLetter_19 (by decide) ?_
      refine lv_icmp_gt (tgt := 28) hx hb dX7_isLetter_21 (by decide) (fun c_3 => ?_) (fun c_3 => ?_)
      · have ic_3 := gz_lt (by decide : (90 : Int32).toInt = 90) (rfl : x.toInt = x.toInt) c_3
        refine lv_iconst (v := 0) hx hb dX7_isLetter_28 (by decide) ?_
        exact gs_iret hx hb hr hlocks hM hS (by decide) ⟨hB_st, (Or.inr (⟨rfl, (by have hl0 : (0 : Int32).toInt = 0 := (by decide); omega)⟩))⟩ (by exact Nat.le_refl _) (by exact Nat.le_refl _) dX7_isLetter_29
      · have ic_3 := gz_nlt (by decide : (90 : Int32).toInt = 90) (rfl : x.toInt = x.toInt) c_3
        refine lv_iconst (v := 1) hx hb dX7_isLetter_24 (by decide) ?_
        refine lv_goto (tgt := 29) hx hb dX7_isLetter_25 (by decide) ?_
        exact gs_iret hx hb hr hlocks hM hS (by decide) ⟨hB_st, (Or.inl (⟨rfl, (by have hl0 : (1 : Int32).toInt = 1 := (by decide); omega)⟩))⟩ (by exact Nat.le_refl _) (by exact Nat.le_refl _) dX7_isLetter_29
  · have ic_1 := gz_nlt (rfl : x.toInt = x.toInt) (by decide : (97 : Int32).toInt = 97) c_1
    refine lv_iload_n hx hb dX7_isLetter_6 rfl (lv_at hl 0 rfl) ?_
    refine lv_bipush (v := 122) hx hb dX7_isLetter_7 (by decide) ?_
    refine lv_icmp_le (tgt := 24) hx hb dX7_isLetter_9 (by decide) (fun c_4 => ?_) (fun c_4 => ?_)
    · have ic_4 := gz_le (rfl : x.toInt = x.toInt) (by decide : (122 : Int32).toInt = 122) c_4
      refine lv_iconst (v := 1) hx hb dX7_isLetter_24 (by decide) ?_
      refine lv_goto (tgt := 29) hx hb dX7_isLetter_25 (by decide) ?_
      exact gs_iret hx hb hr hlocks hM hS (by decide) ⟨hB_st, (Or.inl (⟨rfl, (by have hl0 : (1 : Int32).toInt = 1 := (by decide); omega)⟩))⟩ (by exact Nat.le_refl _) (by exact Nat.le_refl _) dX7_isLetter_29
    · have ic_4 := gz_nle (rfl : x.toInt = x.toInt) (by decide : (122 : Int32).toInt = 122) c_4
      refine lv_iload_n hx hb dX7_isLetter_12 rfl (lv_at hl 0 rfl) ?_
      refine lv_bipush (v := 65) hx hb dX7_isLetter_13 (by decide) ?_
      refine lv_icmp_lt (tgt := 28) hx hb dX7_isLetter_15 (by decide) (fun c_5 => ?_) (fun c_5 => ?_)
      · have ic_5 := gz_lt (rfl : x.toInt = x.toInt) (by decide : (65 : Int32).toInt = 65) c_5
        refine lv_iconst (v := 0) hx hb dX7_isLetter_28 (by decide) ?_
        exact gs_iret hx hb hr hlocks hM hS (by decide) ⟨hB_st, (Or.inr (⟨rfl, (by have hl0 : (0 : Int32).toInt = 0 := (by decide); omega)⟩))⟩ (by exact Nat.le_refl _) (by exact Nat.le_refl _) dX7_isLetter_29
      · have ic_5 := gz_nlt (rfl : x.toInt = x.toInt) (by decide : (65 : Int32).toInt = 65) c_5
        refine lv_iload_n hx hb dX7_isLetter_18 rfl (lv_at hl 0 rfl) ?_
        refine lv_bipush (v := 90) hx hb dX7_isLetter_19 (by decide) ?_
        refine lv_icmp_gt (tgt := 28) hx hb dX7_isLetter_21 (by decide) (fun c_6 => ?_) (fun c_6 => ?_)
        · have ic_6 := gz_lt (by decide : (90 : Int32).toInt = 90) (rfl : x.toInt = x.toInt) c_6
          refine lv_iconst (v := 0) hx hb dX7_isLetter_28 (by decide) ?_
          exact gs_iret hx hb hr hlocks hM hS (by decide) ⟨hB_st, (Or.inr (⟨rfl, (by have hl0 : (0 : Int32).toInt = 0 := (by decide); omega)⟩))⟩ (by exact Nat.le_refl _) (by exact Nat.le_refl _) dX7_isLetter_29
        · have ic_6 := gz_nlt (by decide : (90 : Int32).toInt = 90) (rfl : x.toInt = x.toInt) c_6
          refine lv_iconst (v := 1) hx hb dX7_isLetter_24 (by decide) ?_
          refine lv_goto (tgt := 29) hx hb dX7_isLetter_25 (by decide) ?_
          exact gs_iret hx hb hr hlocks hM hS (by decide) ⟨hB_st, (Or.inl (⟨rfl, (by have hl0 : (1 : Int32).toInt = 1 := (by decide); omega)⟩))⟩ (by exact Nat.le_refl _) (by exact Nat.le_refl _) dX7_isLetter_29

set_option maxHeartbeats 4000000 in
set_option maxRecDepth 100000 in
/-- WellCourt$Reader.fail -/
theorem s_X7_fail (l : Launch) (G : va_G) (cy : Nat → ClassId) (sK sV : Nat → Nat) (ad : Nat → Nat → Nat) (sz : Nat) (st : gS) (hB : gBd bX st) (x : Int32) : gsMi l yX7_fail cX7_fail 2 (some .boolean) ({ frames := 0, cells := 0, slots := 0, locals := 0 } : Room) G cy sK sV (shX cy ad) cnX ad sz [.ref (ad 3 0), .int x] st (fun (r : Int32) (u : gS) => gBN bX kX [304, 305] st u ∧ (r = 0)) := by
  refine gs_start (fun A => gsQi G (shX cy ad) cnX ad _ A) (by decide) (Nat.le_of_ble_eq_true rfl) ?_
  intro p e s m below meth c A ls H hx hb hr hml hlocks hown hts hK hov hE hI hM hm hS hA hl
  have hl : lv_has ls 2 [(0, .ref (ad 3 0)), (1, .int x)] := hl
  have hB_st : gBN bX kX [304, 305] st st := gBN.rf hB
  refine lv_aload_n hx hb dX7_fail_0 rfl (lv_at hl 0 rfl) ?_
  refine lv_iload_n hx hb dX7_fail_1 rfl (lv_at hl 1 rfl) ?_
  refine gs_put (C := RX7) (T := TX7) (N := 6) (ty := .int) (val := .int x) hx hb hts inX7 tyX7 tyX7_ok nmX7 hown hK hI hm hM hS 3 0 4 (by decide) rfl rfl (by decide) (hts _ gm_57) (fun _ h9 => h9) rfl (x : Int32) rfl (by decide +kernel) rfl rfl (Nat.le_of_ble_eq_true rfl) dX7_fail_2 (fun st_1 H locs est_1 hM hS => ?_)
  have hB_st_1 : gBN bX kX [304, 305] st st_1 := by rw [est_1]; exact hB_st.up (show (304 : Nat) ∈ _ from by decide) (gi_lo _) (gi_hi _)
  refine lv_aload_n hx hb dX7_fail_5 rfl (lv_at hl 0 rfl) ?_
  refine lv_aload_n hx hb dX7_fail_6 rfl (lv_at hl 0 rfl) ?_
  refine gs_get (C := RX7) (T := TX7) (N := 6) hx hb hts inX7 hown hK hM 3 0 2 (by decide) rfl rfl (by decide) (hts _ gm_55) (fun _ h9 => h9) rfl dX7_fail_7 ?_
  refine lv_topi (fun x_2 ex_2 => ?_)
  have ex_2 : (st 3 0 2) = x_2 := Eq.symm (ex_2.trans ((congrFun (congrFun (congrFun est_1 3) 0) 2).trans (gU_other (by decide))))
  subst ex_2
  have bf_3 : (0 : Int) ≤ (st 3 0 2).toInt ∧ (st 3 0 2).toInt ≤ (800 : Int) := hB_st.1 3 0 2
  refine gs_put (C := RX7) (T := TX7) (N := 6) (ty := .int) (val := .int (st 3 0 2)) hx hb hts inX7 tyX7 tyX7_ok nmX7 hown hK hI hm hM hS 3 0 5 (by decide) rfl rfl (by decide) (hts _ gm_59) (fun _ h9 => h9) rfl ((st 3 0 2) : Int32) rfl (by decide +kernel) rfl rfl (Nat.le_of_ble_eq_true rfl) dX7_fail_10 (fun st_4 H locs est_4 hM hS => ?_)
  have hB_st_4 : gBN bX kX [304, 305] st st_4 := by rw [est_4]; exact hB_st_1.up (show (305 : Nat) ∈ _ from by decide) (gi_lo _) (gi_hi _)
  refine lv_iconst (v := 0) hx hb dX7_fail_13 (by decide) ?_
  exact gs_iret hx hb hr hlocks hM hS (by decide) ⟨hB_st_4, rfl⟩ (by exact Nat.le_refl _) (by exact Nat.le_refl _) dX7_fail_14

set_option maxHeartbeats 4000000 in
set_option maxRecDepth 100000 in
/-- WellCourt$Reader.cannotCome -/
theorem s_X7_cannotCome (l : Launch) (G : va_G) (cy : Nat → ClassId) (sK sV : Nat → Nat) (ad : Nat → Nat → Nat) (sz : Nat) (st : gS) (hB : gBd bX st) : gsMi l yX7_cannotCome cX7_cannotCome 1 (some .boolean) ({ frames := 1, cells := 0, slots := 0, locals := 21 } : Room) G cy sK sV (shX cy ad) cnX ad sz [.ref (ad 3 0)] st (fun (r : Int32) (u : gS) => gBN bX kX [304, 305] st u ∧ (r = 0)) := by
  refine gs_start (fun A => gsQi G (shX cy ad) cnX ad _ A) (by decide) (Nat.le_of_ble_eq_true rfl) ?_
  intro p e s m below meth c A ls H hx hb hr hml hlocks hown hts hK hov hE hI hM hm hS hA hl
  have hl : lv_has ls 1 [(0, .ref (ad 3 0))] := hl
  have hB_st : gBN bX kX [304, 305] st st := gBN.rf hB
  refine lv_aload_n hx hb dX7_cannotCome_0 rfl (lv_at hl 0 rfl) ?_
  refine lv_aload_n hx hb dX7_cannotCome_1 rfl (lv_at hl 0 rfl) ?_
  refine gs_get (C := RX7) (T := TX7) (N := 6) hx hb hts inX7 hown hK hM 3 0 1 (by decide) rfl rfl (by decide) (hts _ gm_54) (fun _ h9 => h9) rfl dX7_cannotCome_2 ?_
  refine lv_iconst (v := 1) hx hb dX7_cannotCome_5 (by decide) ?_
  refine lv_icmp_ne (tgt := 13) hx hb dX7_cannotCome_6 (by decide) (fun c_2 => ?_) (fun c_2 => ?_)
  · have ic_2 := gz_ne (rfl : (st 3 0 1).toInt = (st 3 0 1).toInt) (by decide : (1 : Int32).toInt = 1) c_2
    refine lv_iconst (v := 2) hx hb dX7_cannotCome_13 (by decide) ?_
    refine gs_calli (va_runV (As := [.int 2]) (rest := []) ⟨hx, hb, hml, hown, hts⟩ (s_X7_fail l G cy sK sV ad H.size st hB_st.1 (2 : Int32) ) ⟨(gz_cb (n := 1) hts gm_456 gm_3 gm_459 ⟨by decide +kernel, by decide +kernel, by decide +kernel⟩ ⟨Nat.le_of_ble_eq_true rfl, Nat.le_of_ble_eq_true rfl⟩), hts _ gm_458, hts _ gs_5⟩ (gs_preV hK hov hE hI hM hm hS hA 3 0 (by decide) rfl rfl) rfl rfl hl.1 rfl (lv_room (Nat.le_of_ble_eq_true rfl)) dX7_cannotCome_14 ⟨Nat.le_of_ble_eq_true rfl, Nat.le_of_ble_eq_true rfl⟩) hm hS hA (fun r_3 st_3 H locs hw_3 hM hS => ?_)
    obtain ⟨n_3, hw_3⟩ := hw_3
    have hB_st_3 : gBN bX kX [304, 305] st st_3 := hB_st.call n_3 (by decide)
    obtain rfl := hw_3
    exact gs_iret hx hb hr hlocks hM hS (by decide) ⟨hB_st_3, rfl⟩ (by exact Nat.le_refl _) (by exact Nat.le_refl _) dX7_cannotCome_17
  · have ic_2 := gz_eqn (rfl : (st 3 0 1).toInt = (st 3 0 1).toInt) (by decide : (1 : Int32).toInt = 1) c_2
    refine lv_iconst (v := 1) hx hb dX7_cannotCome_9 (by decide) ?_
    refine lv_goto (tgt := 14) hx hb dX7_cannotCome_10 (by decide) ?_
    refine gs_calli (va_runV (As := [.int 1]) (rest := []) ⟨hx, hb, hml, hown, hts⟩ (s_X7_fail l G cy sK sV ad H.size st hB_st.1 (1 : Int32) ) ⟨(gz_cb (n := 1) hts gm_456 gm_3 gm_459 ⟨by decide +kernel, by decide +kernel, by decide +kernel⟩ ⟨Nat.le_of_ble_eq_true rfl, Nat.le_of_ble_eq_true rfl⟩), hts _ gm_458, hts _ gs_5⟩ (gs_preV hK hov hE hI hM hm hS hA 3 0 (by decide) rfl rfl) rfl rfl hl.1 rfl (lv_room (Nat.le_of_ble_eq_true rfl)) dX7_cannotCome_14 ⟨Nat.le_of_ble_eq_true rfl, Nat.le_of_ble_eq_true rfl⟩) hm hS hA (fun r_4 st_4 H locs hw_4 hM hS => ?_)
    obtain ⟨n_4, hw_4⟩ := hw_4
    have hB_st_4 : gBN bX kX [304, 305] st st_4 := hB_st.call n_4 (by decide)
    obtain rfl := hw_4
    exact gs_iret hx hb hr hlocks hM hS (by decide) ⟨hB_st_4, rfl⟩ (by exact Nat.le_refl _) (by exact Nat.le_refl _) dX7_cannotCome_17

set_option maxHeartbeats 4000000 in
set_option maxRecDepth 100000 in
/-- WellCourt$Reader.isSign -/
theorem s_X7_isSign (l : Launch) (G : va_G) (cy : Nat → ClassId) (sK sV : Nat → Nat) (ad : Nat → Nat → Nat) (sz : Nat) (st : gS) (hB : gBd bX st) (x : Int32) (Xx : Int) (kx : x.toInt = Xx) (F : Nat → Int32) (N : Int) (hF : st 2 0 = F) (hN : (st 1 0 1).toInt = N) : gsMi l yX7_isSign cX7_isSign 2 (some .boolean) ({ frames := 1, cells := 0, slots := 0, locals := 21 } : Room) G cy sK sV (shX cy ad) cnX ad sz [.ref (ad 3 0), .int x] st (fun (r : Int32) (u : gS) => gBN bX kX [] st u ∧ ((r = 1 ∧ ((st 3 0 1).toInt = 4 ∧ bA F N (st 3 0 2).toInt = Xx)) ∨ (r = 0 ∧ (¬ ((st 3 0 1).toInt = 4 ∧ bA F N (st 3 0 2).toInt = Xx))))) := by
  refine gs_start (fun A => gsQi G (shX cy ad) cnX ad _ A) (by decide) (Nat.le_of_ble_eq_true rfl) ?_
  intro p e s m below meth c A ls H hx hb hr hml hlocks hown hts hK hov hE hI hM hm hS hA hl
  have hl : lv_has ls 2 [(0, .ref (ad 3 0)), (1, .int x)] := hl
  have hB_st : gBN bX kX [] st st := gBN.rf hB
  refine lv_aload_n hx hb dX7_isSign_0 rfl (lv_at hl 0 rfl) ?_
  refine gs_get (C := RX7) (T := TX7) (N := 6) hx hb hts inX7 hown hK hM 3 0 1 (by decide) rfl rfl (by decide) (hts _ gm_54) (fun _ h9 => h9) rfl dX7_isSign_1 ?_
  refine lv_iconst (v := 4) hx hb dX7_isSign_4 (by decide) ?_
  refine lv_icmp_ne (tgt := 27) hx hb dX7_isSign_5 (by decide) (fun c_2 => ?_) (fun c_2 => ?_)
  · have ic_2 := gz_ne (rfl : (st 3 0 1).toInt = (st 3 0 1).toInt) (by decide : (4 : Int32).toInt = 4) c_2
    refine lv_iconst (v := 0) hx hb dX7_isSign_27 (by decide) ?_
    exact gs_iret hx hb hr hlocks hM hS (by decide) ⟨hB_st, (Or.inr (⟨rfl, (by have hl0 : (0 : Int32).toInt = 0 := (by decide); have hb1 : (0 : Int) ≤ (st 3 0 2).toInt ∧ (st 3 0 2).toInt ≤ (800 : Int) := hB_st.1 3 0 2; omega)⟩))⟩ (by exact Nat.le_refl _) (by exact Nat.le_refl _) dX7_isSign_28
  · have ic_2 := gz_eqn (rfl : (st 3 0 1).toInt = (st 3 0 1).toInt) (by decide : (4 : Int32).toInt = 4) c_2
    refine lv_aload_n hx hb dX7_isSign_8 rfl (lv_at hl 0 rfl) ?_
    refine gs_get (C := RX7) (T := TX7) (N := 6) hx hb hts inX7 hown hK hM 3 0 0 (by decide) rfl rfl (by decide) (hts _ gm_53) (fun _ h9 => h9) rfl dX7_isSign_9 ?_
    refine lv_aload_n hx hb dX7_isSign_12 rfl (lv_at hl 0 rfl) ?_
    refine gs_get (C := RX7) (T := TX7) (N := 6) hx hb hts inX7 hown hK hM 3 0 2 (by decide) rfl rfl (by decide) (hts _ gm_55) (fun _ h9 => h9) rfl dX7_isSign_13 ?_
    have bf_3 : (0 : Int) ≤ (st 3 0 2).toInt ∧ (st 3 0 2).toInt ≤ (800 : Int) := hB_st.1 3 0 2
    refine gs_calli (va_runV (As := [.int (st 3 0 2)]) (rest := []) ⟨hx, hb, hml, hown, hts⟩ (s_X8_byteAt l G cy sK sV ad H.size st hB_st.1 (st 3 0 2) ((st 3 0 2).toInt) rfl F N hF hN) ⟨(gz_cb (n := 1) hts gm_371 gm_2 gm_374 ⟨by decide +kernel, by decide +kernel, by decide +kernel⟩ ⟨Nat.le_of_ble_eq_true rfl, Nat.le_of_ble_eq_true rfl⟩), hts _ gm_372, hts _ gm_373⟩ (gs_preV hK hov hE hI hM hm hS hA 1 0 (by decide) rfl rfl) rfl rfl hl.1 rfl (lv_room (Nat.le_of_ble_eq_true rfl)) dX7_isSign_16 ⟨Nat.le_of_ble_eq_true rfl, Nat.le_of_ble_eq_true rfl⟩) hm hS hA (fun r_4 st_4 H locs hw_4 hM hS => ?_)
    obtain ⟨n_4, hw_4⟩ := hw_4
    have n_4 := gBN.nil n_4
    subst n_4
    have hbhw_40 : (0 : Int) ≤ (st 3 0 2).toInt ∧ (st 3 0 2).toInt ≤ (800 : Int) := hB_st.1 3 0 2
    have hbhw_41 : (0 : Int) ≤ (st 1 0 1).toInt ∧ (st 1 0 1).toInt ≤ (800 : Int) := hB_st.1 1 0 1
    obtain ⟨hw_4_0, hw_4_1, hw_4_2, hw_4_3⟩ := hw_4
    refine lv_iload_n hx hb dX7_isSign_19 rfl (lv_at hl 1 rfl) ?_
    refine lv_icmp_ne (tgt := 27) hx hb dX7_isSign_20 (by decide) (fun c_5 => ?_) (fun c_5 => ?_)
    · have ic_5 := gz_ne (rfl : r_4.toInt = r_4.toInt) (rfl : x.toInt = x.toInt) c_5
      refine lv_iconst (v := 0) hx hb dX7_isSign_27 (by decide) ?_
      exact gs_iret hx hb hr hlocks hM hS (by decide) ⟨hB_st, (Or.inr (⟨rfl, (by have hl0 : (0 : Int32).toInt = 0 := (by decide); have hb1 : (0 : Int) ≤ (st 3 0 2).toInt ∧ (st 3 0 2).toInt ≤ (800 : Int) := hB_st.1 3 0 2; omega)⟩))⟩ (by exact Nat.le_refl _) (by exact Nat.le_refl _) dX7_isSign_28
    · have ic_5 := gz_eqn (rfl : r_4.toInt = r_4.toInt) (rfl : x.toInt = x.toInt) c_5
      refine lv_iconst (v := 1) hx hb dX7_isSign_23 (by decide) ?_
      refine lv_goto (tgt := 28) hx hb dX7_isSign_24 (by decide) ?_
      exact gs_iret hx hb hr hlocks hM hS (by decide) ⟨hB_st, (Or.inl (⟨rfl, (by have hl0 : (1 : Int32).toInt = 1 := (by decide); have hb1 : (0 : Int) ≤ (st 3 0 2).toInt ∧ (st 3 0 2).toInt ≤ (800 : Int) := hB_st.1 3 0 2; omega)⟩))⟩ (by exact Nat.le_refl _) (by exact Nat.le_refl _) dX7_isSign_28

set_option maxHeartbeats 4000000 in
set_option maxRecDepth 100000 in
/-- WellCourt$Reader.readRun -/
theorem s_X7_readRun (l : Launch) (G : va_G) (cy : Nat → ClassId) (sK sV : Nat → Nat) (ad : Nat → Nat → Nat) (sz : Nat) (st : gS) (hB : gBd bX st) (F : Nat → Int32) (N : Int) (hF : st 2 0 = F) (hN : (st 1 0 1).toInt = N) : gsMv l yX7_readRun cX7_readRun 4 ({ frames := 1, cells := 0, slots := 0, locals := 21 } : Room) G cy sK sV (shX cy ad) cnX ad sz [.ref (ad 3 0)] st (fun (u : gS) => gBN bX kX [301, 303] st u ∧ (((u 3 0 3).toInt ≤ 800) ∧ ((u 3 0 3).toInt = tEnd F N crB (st 3 0 2).toInt) ∧ ((u 3 0 1).toInt = kdT F N (st 3 0 2).toInt (u 3 0 3).toInt))) := by
  refine gs_start (fun A => gsQv G (shX cy ad) cnX ad _ A) (by decide) (Nat.le_of_ble_eq_true rfl) ?_
  intro p e s m below meth c A ls H hx hb hr hml hlocks hown hts hK hov hE hI hM hm hS hA hl
  have hl : lv_has ls 4 [(0, .ref (ad 3 0))] := hl
  have hB_st : gBN bX kX [301, 303] st st := gBN.rf hB
  generalize hQe : MQ below _ _ s _ _ A = Q
  refine lv_iconst (v := 0) hx hb dX7_readRun_0 (by decide) ?_
  refine lv_istore_n (lv' := [(1, .int 0), (0, .ref (ad 3 0))]) hx hb dX7_readRun_1 rfl hl (by decide) rfl (fun ls hl => ?_)
  refine lv_iconst (v := 0) hx hb dX7_readRun_2 (by decide) ?_
  refine lv_istore_n (lv' := [(2, .int 0), (1, .int 0), (0, .ref (ad 3 0))]) hx hb dX7_readRun_3 rfl hl (by decide) rfl (fun ls hl => ?_)
  refine lv_aload_n hx hb dX7_readRun_4 rfl (lv_at hl 2 rfl) ?_
  refine lv_aload_n hx hb dX7_readRun_5 rfl (lv_at hl 2 rfl) ?_
  refine gs_get (C := RX7) (T := TX7) (N := 6) hx hb hts inX7 hown hK hM 3 0 2 (by decide) rfl rfl (by decide) (hts _ gm_55) (fun _ h9 => h9) rfl dX7_readRun_6 ?_
  have bf_1 : (0 : Int) ≤ (st 3 0 2).toInt ∧ (st 3 0 2).toInt ≤ (800 : Int) := hB_st.1 3 0 2
  refine gs_put (C := RX7) (T := TX7) (N := 6) (ty := .int) (val := .int (st 3 0 2)) hx hb hts inX7 tyX7 tyX7_ok nmX7 hown hK hI hm hM hS 3 0 3 (by decide) rfl rfl (by decide) (hts _ gm_56) (fun _ h9 => h9) rfl ((st 3 0 2) : Int32) rfl (by decide +kernel) rfl rfl (Nat.le_of_ble_eq_true rfl) dX7_readRun_9 (fun st_2 H locs est_2 hM hS => ?_)
  have hB_st_2 : gBN bX kX [301, 303] st st_2 := by rw [est_2]; exact hB_st.up (show (303 : Nat) ∈ _ from by decide) (show (0 : Int) ≤ (st 3 0 2).toInt from by omega) (show (st 3 0 2).toInt ≤ (801 : Int) from by omega)
  have lp3 : ∀ (n3 : Nat) (sv3 : gS) (y3_0 : Int32) (y3_1 : Int32) (H : Heap) (locs : List Loc) (ls : Array Slot), (800 - (sv3 3 0 3).toInt).toNat < n3 → gBN bX kX [301, 303] st sv3 → ((st 3 0 2).toInt ≤ (sv3 3 0 3).toInt ∧ (sv3 3 0 3).toInt ≤ 800) → (y3_0.toInt = ctT F N dgB (st 3 0 2).toInt ((sv3 3 0 3).toInt - (st 3 0 2).toInt).toNat) → (y3_1.toInt = ctT F N smB (st 3 0 2).toInt ((sv3 3 0 3).toInt - (st 3 0 2).toInt).toNat) → (tEnd F N crB (sv3 3 0 3).toInt = tEnd F N crB (st 3 0 2).toInt) → gM G (shX cy ad) cnX ad sv3 H → va_S A s.heap H locs → lv_has ls 4 [(2, .int y3_1), (1, .int y3_0), (0, .ref (ad 3 0))] → W p l e ({ frames := 1, cells := 0, slots := 0, locals := 21 } : Room) s m [.ref (ad 3 0)].toArray below meth c H locs 0 0 Q (F0 m 12 ls []) := by
    intro n3
    induction n3 with
    | zero => intro sv3 y3_0 y3_1 H locs ls h9; exact absurd h9 (Nat.not_lt_zero _)
    | succ n3 ih_3 =>
      intro sv3 y3_0 y3_1 H locs ls hme3 hB_sv3 hv3_0 hv3_1 hv3_2 hv3_3 hM hS hl
      have hb3_0 : (0 : Int) ≤ (sv3 3 0 3).toInt ∧ (sv3 3 0 3).toInt ≤ (801 : Int) := hB_sv3.1 3 0 3
      have hb3_1 : (0 : Int) ≤ (st 3 0 2).toInt ∧ (st 3 0 2).toInt ≤ (800 : Int) := hB_st.1 3 0 2
      refine lv_aload_n hx hb dX7_readRun_12 rfl (lv_at hl 2 rfl) ?_
      refine gs_get (C := RX7) (T := TX7) (N := 6) hx hb hts inX7 hown hK hM 3 0 3 (by decide) rfl rfl (by decide) (hts _ gm_56) (fun _ h9 => h9) rfl dX7_readRun_13 ?_
      have bf_4 : (0 : Int) ≤ (sv3 3 0 3).toInt ∧ (sv3 3 0 3).toInt ≤ (801 : Int) := hB_sv3.1 3 0 3
      refine lv_sipush (v := 800) hx hb dX7_readRun_16 (by decide) ?_
      refine lv_icmp_ge (tgt := 94) hx hb dX7_readRun_19 (by decide) (fun c_5 => ?_) (fun c_5 => ?_)
      · have ic_5 := gz_le (by decide : (800 : Int32).toInt = 800) (rfl : (sv3 3 0 3).toInt = (sv3 3 0 3).toInt) c_5
        refine lv_aload_n hx hb dX7_readRun_94 rfl (lv_at hl 2 rfl) ?_
        refine gs_get (C := RX7) (T := TX7) (N := 6) hx hb hts inX7 hown hK hM 3 0 3 (by decide) rfl rfl (by decide) (hts _ gm_56) (fun _ h9 => h9) rfl dX7_readRun_95 ?_
        have bf_6 : (0 : Int) ≤ (sv3 3 0 3).toInt ∧ (sv3 3 0 3).toInt ≤ (801 : Int) := hB_sv3.1 3 0 3
        refine lv_aload_n hx hb dX7_readRun_98 rfl (lv_at hl 2 rfl) ?_
        refine gs_get (C := RX7) (T := TX7) (N := 6) hx hb hts inX7 hown hK hM 3 0 2 (by decide) rfl rfl (by decide) (hts _ gm_55) (fun _ h9 => h9) rfl dX7_readRun_99 ?_
        refine lv_topi (fun x_7 ex_7 => ?_)
        have ex_7 : (st 3 0 2) = x_7 := Eq.symm (ex_7.trans (hB_sv3.2 3 0 2 (show (302 : Nat) ∉ _ from by decide)))
        subst ex_7
        have bf_8 : (0 : Int) ≤ (st 3 0 2).toInt ∧ (st 3 0 2).toInt ≤ (800 : Int) := hB_st.1 3 0 2
        refine lv_isub hx hb dX7_readRun_102 ?_
        refine lv_topi (fun x_9 ex_9 => ?_)
        try have tx_9 : x_9.toInt = (sv3 3 0 3).toInt - (st 3 0 2).toInt := by rw [ex_9]; exact gz_subI (x := (sv3 3 0 3).toInt) (y := (st 3 0 2).toInt) rfl rfl (by omega) (by omega)
        refine lv_istore_n (lv' := [(3, .int x_9), (2, .int y3_1), (1, .int y3_0), (0, .ref (ad 3 0))]) hx hb dX7_readRun_103 rfl hl (by decide) rfl (fun ls hl => ?_)
        refine lv_iload_n hx hb dX7_readRun_104 rfl (lv_at hl 1 rfl) ?_
        refine lv_iload_n hx hb dX7_readRun_105 rfl (lv_at hl 0 rfl) ?_
        refine lv_icmp_ne (tgt := 117) hx hb dX7_readRun_106 (by decide) (fun c_10 => ?_) (fun c_10 => ?_)
        · have ic_10 := gz_ne (rfl : y3_1.toInt = y3_1.toInt) (rfl : x_9.toInt = x_9.toInt) c_10
          refine lv_aload_n hx hb dX7_readRun_117 rfl (lv_at hl 3 rfl) ?_
          refine lv_iload_n hx hb dX7_readRun_118 rfl (lv_at hl 2 rfl) ?_
          refine lv_iload_n hx hb dX7_readRun_119 rfl (lv_at hl 0 rfl) ?_
          refine lv_icmp_ne (tgt := 132) hx hb dX7_readRun_120 (by decide) (fun c_11 => ?_) (fun c_11 => ?_)
          · have ic_11 := gz_ne (rfl : y3_0.toInt = y3_0.toInt) (rfl : x_9.toInt = x_9.toInt) c_11
            refine lv_iconst (v := 1) hx hb dX7_readRun_132 (by decide) ?_
            refine gs_put (C := RX7) (T := TX7) (N := 6) (ty := .int) (val := .int 1) hx hb hts inX7 tyX7 tyX7_ok nmX7 hown hK hI hm hM hS 3 0 1 (by decide) rfl rfl (by decide) (hts _ gm_54) (fun _ h9 => h9) rfl (1 : Int32) rfl (by decide +kernel) rfl rfl (Nat.le_of_ble_eq_true rfl) dX7_readRun_133 (fun st_12 H locs est_12 hM hS => ?_)
            have hB_st_12 : gBN bX kX [301, 303] st st_12 := by rw [est_12]; exact hB_sv3.up (show (301 : Nat) ∈ _ from by decide) (gi_lo _) (gi_hi _)
            rw [← hQe]
            exact gs_vret hx hb hr hlocks hM hS ⟨hB_st_12, (by have h9 : (st_12 3 0 3).toInt = (sv3 3 0 3).toInt := (congrArg Int32.toInt (((congrFun (congrFun (congrFun est_12 3) 0) 3).trans (gU_other (by decide))))); omega), (by have h9 : (st_12 3 0 3).toInt = (sv3 3 0 3).toInt := (congrArg Int32.toInt (((congrFun (congrFun (congrFun est_12 3) 0) 3).trans (gU_other (by decide))))); have h8 := hv3_3; rw [tEnd_no (p := (sv3 3 0 3).toInt) (by first | exact Or.inl (by omega) | exact Or.inr (crB_f (by omega)))] at h8; omega), (by have h9 : (st_12 3 0 3).toInt = (sv3 3 0 3).toInt := (congrArg Int32.toInt (((congrFun (congrFun (congrFun est_12 3) 0) 3).trans (gU_other (by decide))))); rw [show (st_12 3 0 1).toInt = 1 from ((congrArg Int32.toInt (((congrFun (congrFun (congrFun est_12 3) 0) 1).trans (gU_same _ _ _ _ _)))).trans (by decide)), h9]; exact (kdT_1 (by omega) (by omega)).symm)⟩ (by exact Nat.le_refl _) (by exact Nat.le_refl _) dX7_readRun_136
          · have ic_11 := gz_eqn (rfl : y3_0.toInt = y3_0.toInt) (rfl : x_9.toInt = x_9.toInt) c_11
            refine lv_iload_n hx hb dX7_readRun_123 rfl (lv_at hl 0 rfl) ?_
            refine lv_iconst (v := 4) hx hb dX7_readRun_124 (by decide) ?_
            refine lv_icmp_gt (tgt := 132) hx hb dX7_readRun_125 (by decide) (fun c_13 => ?_) (fun c_13 => ?_)
            · have ic_13 := gz_lt (by decide : (4 : Int32).toInt = 4) (rfl : x_9.toInt = x_9.toInt) c_13
              refine lv_iconst (v := 1) hx hb dX7_readRun_132 (by decide) ?_
              refine gs_put (C := RX7) (T := TX7) (N := 6) (ty := .int) (val := .int 1) hx hb hts inX7 tyX7 tyX7_ok nmX7 hown hK hI hm hM hS 3 0 1 (by decide) rfl rfl (by decide) (hts _ gm_54) (fun _ h9 => h9) rfl (1 : Int32) rfl (by decide +kernel) rfl rfl (Nat.le_of_ble_eq_true rfl) dX7_readRun_133 (fun st_14 H locs est_14 hM hS => ?_)
              have hB_st_14 : gBN bX kX [301, 303] st st_14 := by rw [est_14]; exact hB_sv3.up (show (301 : Nat) ∈ _ from by decide) (gi_lo _) (gi_hi _)
              rw [← hQe]
              exact gs_vret hx hb hr hlocks hM hS ⟨hB_st_14, (by have h9 : (st_14 3 0 3).toInt = (sv3 3 0 3).toInt := (congrArg Int32.toInt (((congrFun (congrFun (congrFun est_14 3) 0) 3).trans (gU_other (by decide))))); omega), (by have h9 : (st_14 3 0 3).toInt = (sv3 3 0 3).toInt := (congrArg Int32.toInt (((congrFun (congrFun (congrFun est_14 3) 0) 3).trans (gU_other (by decide))))); have h8 := hv3_3; rw [tEnd_no (p := (sv3 3 0 3).toInt) (by first | exact Or.inl (by omega) | exact Or.inr (crB_f (by omega)))] at h8; omega), (by have h9 : (st_14 3 0 3).toInt = (sv3 3 0 3).toInt := (congrArg Int32.toInt (((congrFun (congrFun (congrFun est_14 3) 0) 3).trans (gU_other (by decide))))); rw [show (st_14 3 0 1).toInt = 1 from ((congrArg Int32.toInt (((congrFun (congrFun (congrFun est_14 3) 0) 1).trans (gU_same _ _ _ _ _)))).trans (by decide)), h9]; exact (kdT_1 (by omega) (by omega)).symm)⟩ (by exact Nat.le_refl _) (by exact Nat.le_refl _) dX7_readRun_136
            · have ic_13 := gz_nlt (by decide : (4 : Int32).toInt = 4) (rfl : x_9.toInt = x_9.toInt) c_13
              refine lv_iconst (v := 3) hx hb dX7_readRun_128 (by decide) ?_
              refine lv_goto (tgt := 133) hx hb dX7_readRun_129 (by decide) ?_
              refine gs_put (C := RX7) (T := TX7) (N := 6) (ty := .int) (val := .int 3) hx hb hts inX7 tyX7 tyX7_ok nmX7 hown hK hI hm hM hS 3 0 1 (by decide) rfl rfl (by decide) (hts _ gm_54) (fun _ h9 => h9) rfl (3 : Int32) rfl (by decide +kernel) rfl rfl (Nat.le_of_ble_eq_true rfl) dX7_readRun_133 (fun st_15 H locs est_15 hM hS => ?_)
              have hB_st_15 : gBN bX kX [301, 303] st st_15 := by rw [est_15]; exact hB_sv3.up (show (301 : Nat) ∈ _ from by decide) (gi_lo _) (gi_hi _)
              rw [← hQe]
              exact gs_vret hx hb hr hlocks hM hS ⟨hB_st_15, (by have h9 : (st_15 3 0 3).toInt = (sv3 3 0 3).toInt := (congrArg Int32.toInt (((congrFun (congrFun (congrFun est_15 3) 0) 3).trans (gU_other (by decide))))); omega), (by have h9 : (st_15 3 0 3).toInt = (sv3 3 0 3).toInt := (congrArg Int32.toInt (((congrFun (congrFun (congrFun est_15 3) 0) 3).trans (gU_other (by decide))))); have h8 := hv3_3; rw [tEnd_no (p := (sv3 3 0 3).toInt) (by first | exact Or.inl (by omega) | exact Or.inr (crB_f (by omega)))] at h8; omega), (by have h9 : (st_15 3 0 3).toInt = (sv3 3 0 3).toInt := (congrArg Int32.toInt (((congrFun (congrFun (congrFun est_15 3) 0) 3).trans (gU_other (by decide))))); rw [show (st_15 3 0 1).toInt = 3 from ((congrArg Int32.toInt (((congrFun (congrFun (congrFun est_15 3) 0) 1).trans (gU_same _ _ _ _ _)))).trans (by decide)), h9]; exact (kdT_3 (by omega) (by omega) (by omega)).symm)⟩ (by exact Nat.le_refl _) (by exact Nat.le_refl _) dX7_readRun_136
        · have ic_10 := gz_eqn (rfl : y3_1.toInt = y3_1.toInt) (rfl : x_9.toInt = x_9.toInt) c_10
          refine lv_aload_n hx hb dX7_readRun_109 rfl (lv_at hl 3 rfl) ?_
          refine lv_iconst (v := 2) hx hb dX7_readRun_110 (by decide) ?_
          refine gs_put (C := RX7) (T := TX7) (N := 6) (ty := .int) (val := .int 2) hx hb hts inX7 tyX7 tyX7_ok nmX7 hown hK hI hm hM hS 3 0 1 (by decide) rfl rfl (by decide) (hts _ gm_54) (fun _ h9 => h9) rfl (2 : Int32) rfl (by decide +kernel) rfl rfl (Nat.le_of_ble_eq_true rfl) dX7_readRun_111 (fun st_16 H locs est_16 hM hS => ?_)
          have hB_st_16 : gBN bX kX [301, 303] st st_16 := by rw [est_16]; exact hB_sv3.up (show (301 : Nat) ∈ _ from by decide) (gi_lo _) (gi_hi _)
          refine lv_goto (tgt := 136) hx hb dX7_readRun_114 (by decide) ?_
          rw [← hQe]
          exact gs_vret hx hb hr hlocks hM hS ⟨hB_st_16, (by have h9 : (st_16 3 0 3).toInt = (sv3 3 0 3).toInt := (congrArg Int32.toInt (((congrFun (congrFun (congrFun est_16 3) 0) 3).trans (gU_other (by decide))))); omega), (by have h9 : (st_16 3 0 3).toInt = (sv3 3 0 3).toInt := (congrArg Int32.toInt (((congrFun (congrFun (congrFun est_16 3) 0) 3).trans (gU_other (by decide))))); have h8 := hv3_3; rw [tEnd_no (p := (sv3 3 0 3).toInt) (by first | exact Or.inl (by omega) | exact Or.inr (crB_f (by omega)))] at h8; omega), (by have h9 : (st_16 3 0 3).toInt = (sv3 3 0 3).toInt := (congrArg Int32.toInt (((congrFun (congrFun (congrFun est_16 3) 0) 3).trans (gU_other (by decide))))); rw [show (st_16 3 0 1).toInt = 2 from ((congrArg Int32.toInt (((congrFun (congrFun (congrFun est_16 3) 0) 1).trans (gU_same _ _ _ _ _)))).trans (by decide)), h9]; exact (kdT_2 (by omega)).symm)⟩ (by exact Nat.le_refl _) (by exact Nat.le_refl _) dX7_readRun_136
      · have ic_5 := gz_nle (by decide : (800 : Int32).toInt = 800) (rfl : (sv3 3 0 3).toInt = (sv3 3 0 3).toInt) c_5
        have hcr_dgB := ctT_rng (f := F) (n := N) (cl := dgB) (s := (st 3 0 2).toInt) ((sv3 3 0 3).toInt - (st 3 0 2).toInt).toNat
        have hcr_smB := ctT_rng (f := F) (n := N) (cl := smB) (s := (st 3 0 2).toInt) ((sv3 3 0 3).toInt - (st 3 0 2).toInt).toNat
        refine lv_aload_n hx hb dX7_readRun_22 rfl (lv_at hl 2 rfl) ?_
        refine gs_get (C := RX7) (T := TX7) (N := 6) hx hb hts inX7 hown hK hM 3 0 0 (by decide) rfl rfl (by decide) (hts _ gm_53) (fun _ h9 => h9) rfl dX7_readRun_23 ?_
        refine lv_aload_n hx hb dX7_readRun_26 rfl (lv_at hl 2 rfl) ?_
        refine gs_get (C := RX7) (T := TX7) (N := 6) hx hb hts inX7 hown hK hM 3 0 3 (by decide) rfl rfl (by decide) (hts _ gm_56) (fun _ h9 => h9) rfl dX7_readRun_27 ?_
        have bf_17 : (0 : Int) ≤ (sv3 3 0 3).toInt ∧ (sv3 3 0 3).toInt ≤ (801 : Int) := hB_sv3.1 3 0 3
        refine gs_calli (va_runV (As := [.int (sv3 3 0 3)]) (rest := []) ⟨hx, hb, hml, hown, hts⟩ (s_X8_byteAt l G cy sK sV ad H.size sv3 hB_sv3.1 (sv3 3 0 3) ((sv3 3 0 3).toInt) rfl F N (((funext (fun j9 => hB_sv3.2 2 0 j9 (show (200 : Nat) ∉ _ from by decide))).trans rfl).trans hF) ((congrArg Int32.toInt ((hB_sv3.2 1 0 1 (show (101 : Nat) ∉ _ from by decide)))).trans hN)) ⟨(gz_cb (n := 1) hts gm_371 gm_2 gm_374 ⟨by decide +kernel, by decide +kernel, by decide +kernel⟩ ⟨Nat.le_of_ble_eq_true rfl, Nat.le_of_ble_eq_true rfl⟩), hts _ gm_372, hts _ gm_373⟩ (gs_preV hK hov hE hI hM hm hS hA 1 0 (by decide) rfl rfl) rfl rfl hl.1 rfl (lv_room (Nat.le_of_ble_eq_true rfl)) dX7_readRun_30 ⟨Nat.le_of_ble_eq_true rfl, Nat.le_of_ble_eq_true rfl⟩) hm hS hA (fun r_18 st_18 H locs hw_18 hM hS => ?_)
        obtain ⟨n_18, hw_18⟩ := hw_18
        have n_18 := gBN.nil n_18
        subst n_18
        have hbhw_180 : (0 : Int) ≤ (sv3 3 0 3).toInt ∧ (sv3 3 0 3).toInt ≤ (801 : Int) := hB_sv3.1 3 0 3
        have hqhw_181 : (sv3 1 0 1).toInt = ((st 1 0 1) : Int32).toInt := congrArg Int32.toInt ((hB_sv3.2 1 0 1 (show (101 : Nat) ∉ _ from by decide)))
        have hbhw_182 : (0 : Int) ≤ (sv3 1 0 1).toInt ∧ (sv3 1 0 1).toInt ≤ (800 : Int) := hB_sv3.1 1 0 1
        obtain ⟨hw_18_0, hw_18_1, hw_18_2, hw_18_3⟩ := hw_18
        refine lv_istore_n (lv' := [(3, .int r_18), (2, .int y3_1), (1, .int y3_0), (0, .ref (ad 3 0))]) hx hb dX7_readRun_33 rfl hl (by decide) rfl (fun ls hl => ?_)
        refine lv_iload_n hx hb dX7_readRun_34 rfl (lv_at hl 0 rfl) ?_
        refine gs_calli (va_runS (As := [.int r_18]) (rest := []) ⟨hx, hb, hml, hown, hts⟩ (s_X7_isDigit l G cy sK sV ad H.size sv3 hB_sv3.1 r_18 r_18.toInt rfl ) ⟨(gz_cb (n := 1) hts gm_378 gm_3 gm_380 ⟨by decide +kernel, by decide +kernel, by decide +kernel⟩ ⟨Nat.le_of_ble_eq_true rfl, Nat.le_of_ble_eq_true rfl⟩), hts _ gm_379⟩ (gs_preS hK hov hE hI hM hm hS hA) rfl rfl hl.1 rfl (lv_room (Nat.le_of_ble_eq_true rfl)) dX7_readRun_35 ⟨Nat.le_of_ble_eq_true rfl, Nat.le_of_ble_eq_true rfl⟩) hm hS hA (fun r_19 st_19 H locs hw_19 hM hS => ?_)
        obtain ⟨n_19, hw_19⟩ := hw_19
        have n_19 := gBN.nil n_19
        subst n_19
        rcases hw_19 with ⟨rfl, hw_19_0, hw_19_1⟩ | ⟨rfl, hw_19_0⟩
        · skip
          refine lv_if_ne (tgt := 51) hx hb dX7_readRun_38 (by decide) (fun _ => ?_) (fun h9 => absurd h9 (by decide))
          refine lv_iload_n hx hb dX7_readRun_51 rfl (lv_at hl 2 rfl) ?_
          refine lv_iload_n hx hb dX7_readRun_52 rfl (lv_at hl 0 rfl) ?_
          refine gs_calli (va_runS (As := [.int r_18]) (rest := [.int y3_0]) ⟨hx, hb, hml, hown, hts⟩ (s_X7_isDigit l G cy sK sV ad H.size sv3 hB_sv3.1 r_18 r_18.toInt rfl ) ⟨(gz_cb (n := 1) hts gm_378 gm_3 gm_380 ⟨by decide +kernel, by decide +kernel, by decide +kernel⟩ ⟨Nat.le_of_ble_eq_true rfl, Nat.le_of_ble_eq_true rfl⟩), hts _ gm_379⟩ (gs_preS hK hov hE hI hM hm hS hA) rfl rfl hl.1 rfl (lv_room (Nat.le_of_ble_eq_true rfl)) dX7_readRun_53 ⟨Nat.le_of_ble_eq_true rfl, Nat.le_of_ble_eq_true rfl⟩) hm hS hA (fun r_20 st_20 H locs hw_20 hM hS => ?_)
          obtain ⟨n_20, hw_20⟩ := hw_20
          have n_20 := gBN.nil n_20
          subst n_20
          rcases hw_20 with ⟨rfl, hw_20_0, hw_20_1⟩ | ⟨rfl, hw_20_0⟩
          · skip
            refine lv_if_eq (tgt := 63) hx hb dX7_readRun_56 (by decide) (fun h9 => absurd h9 (by decide)) (fun _ => ?_)
            refine lv_iconst (v := 1) hx hb dX7_readRun_59 (by decide) ?_
            refine lv_goto (tgt := 64) hx hb dX7_readRun_60 (by decide) ?_
            refine lv_iadd hx hb dX7_readRun_64 ?_
            refine lv_topi (fun x_21 ex_21 => ?_)
            try have tx_21 : x_21.toInt = y3_0.toInt + 1 := by rw [ex_21]; exact gz_addP (x := y3_0.toInt) (y := 1) rfl (by decide) (by omega) (by omega)
            refine lv_istore_n (lv' := [(1, .int x_21), (3, .int r_18), (2, .int y3_1), (0, .ref (ad 3 0))]) hx hb dX7_readRun_65 rfl hl (by decide) rfl (fun ls hl => ?_)
            refine lv_iload_n hx hb dX7_readRun_66 rfl (lv_at hl 2 rfl) ?_
            refine lv_iload_n hx hb dX7_readRun_67 rfl (lv_at hl 1 rfl) ?_
            refine gs_calli (va_runS (As := [.int r_18]) (rest := [.int y3_1]) ⟨hx, hb, hml, hown, hts⟩ (s_X7_isSmall l G cy sK sV ad H.size sv3 hB_sv3.1 r_18 r_18.toInt rfl ) ⟨(gz_cb (n := 1) hts gm_388 gm_3 gm_390 ⟨by decide +kernel, by decide +kernel, by decide +kernel⟩ ⟨Nat.le_of_ble_eq_true rfl, Nat.le_of_ble_eq_true rfl⟩), hts _ gm_389⟩ (gs_preS hK hov hE hI hM hm hS hA) rfl rfl hl.1 rfl (lv_room (Nat.le_of_ble_eq_true rfl)) dX7_readRun_68 ⟨Nat.le_of_ble_eq_true rfl, Nat.le_of_ble_eq_true rfl⟩) hm hS hA (fun r_22 st_22 H locs hw_22 hM hS => ?_)
            obtain ⟨n_22, hw_22⟩ := hw_22
            have n_22 := gBN.nil n_22
            subst n_22
            rcases hw_22 with ⟨rfl, hw_22_0, hw_22_1⟩ | ⟨rfl, hw_22_0⟩
            · skip
              refine lv_if_eq (tgt := 78) hx hb dX7_readRun_71 (by decide) (fun h9 => absurd h9 (by decide)) (fun _ => ?_)
              refine lv_iconst (v := 1) hx hb dX7_readRun_74 (by decide) ?_
              refine lv_goto (tgt := 79) hx hb dX7_readRun_75 (by decide) ?_
              refine lv_iadd hx hb dX7_readRun_79 ?_
              refine lv_topi (fun x_23 ex_23 => ?_)
              try have tx_23 : x_23.toInt = y3_1.toInt + 1 := by rw [ex_23]; exact gz_addP (x := y3_1.toInt) (y := 1) rfl (by decide) (by omega) (by omega)
              refine lv_istore_n (lv' := [(2, .int x_23), (1, .int x_21), (3, .int r_18), (0, .ref (ad 3 0))]) hx hb dX7_readRun_80 rfl hl (by decide) rfl (fun ls hl => ?_)
              refine lv_aload_n hx hb dX7_readRun_81 rfl (lv_at hl 3 rfl) ?_
              refine lv_dup hx hb dX7_readRun_82 rfl ?_
              refine gs_get (C := RX7) (T := TX7) (N := 6) hx hb hts inX7 hown hK hM 3 0 3 (by decide) rfl rfl (by decide) (hts _ gm_56) (fun _ h9 => h9) rfl dX7_readRun_83 ?_
              have bf_24 : (0 : Int) ≤ (sv3 3 0 3).toInt ∧ (sv3 3 0 3).toInt ≤ (801 : Int) := hB_sv3.1 3 0 3
              refine lv_iconst (v := 1) hx hb dX7_readRun_86 (by decide) ?_
              refine lv_iadd hx hb dX7_readRun_87 ?_
              refine lv_topi (fun x_25 ex_25 => ?_)
              try have tx_25 : x_25.toInt = (sv3 3 0 3).toInt + 1 := by rw [ex_25]; exact gz_addP (x := (sv3 3 0 3).toInt) (y := 1) rfl (by decide) (by omega) (by omega)
              refine gs_put (C := RX7) (T := TX7) (N := 6) (ty := .int) (val := .int x_25) hx hb hts inX7 tyX7 tyX7_ok nmX7 hown hK hI hm hM hS 3 0 3 (by decide) rfl rfl (by decide) (hts _ gm_56) (fun _ h9 => h9) rfl (x_25 : Int32) rfl (by decide +kernel) rfl rfl (Nat.le_of_ble_eq_true rfl) dX7_readRun_88 (fun st_26 H locs est_26 hM hS => ?_)
              have hB_st_26 : gBN bX kX [301, 303] st st_26 := by rw [est_26]; exact hB_sv3.up (show (303 : Nat) ∈ _ from by decide) (show (0 : Int) ≤ x_25.toInt from by omega) (show x_25.toInt ≤ (801 : Int) from by omega)
              refine lv_goto (tgt := 12) hx hb dX7_readRun_91 (by decide) ?_
              exact ih_3 st_26 (x_21 : Int32) (x_23 : Int32) H _ ls (by have hq0 : (st_26 3 0 3).toInt = (x_25 : Int32).toInt := congrArg Int32.toInt (((congrFun (congrFun (congrFun est_26 3) 0) 3).trans (gU_same _ _ _ _ _))); have hb1 : (0 : Int) ≤ (st_26 3 0 3).toInt ∧ (st_26 3 0 3).toInt ≤ (801 : Int) := hB_st_26.1 3 0 3; omega) hB_st_26 (by have h9 : (st_26 3 0 3).toInt = x_25.toInt := (congrArg Int32.toInt (((congrFun (congrFun (congrFun est_26 3) 0) 3).trans (gU_same _ _ _ _ _)))); omega) (by have h9 : (st_26 3 0 3).toInt = x_25.toInt := (congrArg Int32.toInt (((congrFun (congrFun (congrFun est_26 3) 0) 3).trans (gU_same _ _ _ _ _)))); rw [ctT_step (cl := dgB) (s := (st 3 0 2).toInt) (a := (sv3 3 0 3).toInt) (by omega) (by omega)]; have h8 := dgI (bA F N (sv3 3 0 3).toInt); omega) (by have h9 : (st_26 3 0 3).toInt = x_25.toInt := (congrArg Int32.toInt (((congrFun (congrFun (congrFun est_26 3) 0) 3).trans (gU_same _ _ _ _ _)))); rw [ctT_step (cl := smB) (s := (st 3 0 2).toInt) (a := (sv3 3 0 3).toInt) (by omega) (by omega)]; have h8 := smI (bA F N (sv3 3 0 3).toInt); omega) (by have h9 : (st_26 3 0 3).toInt = x_25.toInt := (congrArg Int32.toInt (((congrFun (congrFun (congrFun est_26 3) 0) 3).trans (gU_same _ _ _ _ _)))); rw [show (st_26 3 0 3).toInt = (sv3 3 0 3).toInt + 1 by omega, tEnd_go (by omega) (crB_t (by omega))]; exact hv3_3) hM hS (lv_sub hl [0, 1, 3] rfl)
            · skip
              refine lv_if_eq (tgt := 78) hx hb dX7_readRun_71 (by decide) (fun _ => ?_) (fun h9 => absurd (by decide) h9)
              refine lv_iconst (v := 0) hx hb dX7_readRun_78 (by decide) ?_
              refine lv_iadd hx hb dX7_readRun_79 ?_
              refine lv_topi (fun x_27 ex_27 => ?_)
              try have tx_27 : x_27.toInt = y3_1.toInt + 0 := by rw [ex_27]; exact gz_addP (x := y3_1.toInt) (y := 0) rfl (by decide) (by omega) (by omega)
              refine lv_istore_n (lv' := [(2, .int x_27), (1, .int x_21), (3, .int r_18), (0, .ref (ad 3 0))]) hx hb dX7_readRun_80 rfl hl (by decide) rfl (fun ls hl => ?_)
              refine lv_aload_n hx hb dX7_readRun_81 rfl (lv_at hl 3 rfl) ?_
              refine lv_dup hx hb dX7_readRun_82 rfl ?_
              refine gs_get (C := RX7) (T := TX7) (N := 6) hx hb hts inX7 hown hK hM 3 0 3 (by decide) rfl rfl (by decide) (hts _ gm_56) (fun _ h9 => h9) rfl dX7_readRun_83 ?_
              have bf_28 : (0 : Int) ≤ (sv3 3 0 3).toInt ∧ (sv3 3 0 3).toInt ≤ (801 : Int) := hB_sv3.1 3 0 3
              refine lv_iconst (v := 1) hx hb dX7_readRun_86 (by decide) ?_
              refine lv_iadd hx hb dX7_readRun_87 ?_
              refine lv_topi (fun x_29 ex_29 => ?_)
              try have tx_29 : x_29.toInt = (sv3 3 0 3).toInt + 1 := by rw [ex_29]; exact gz_addP (x := (sv3 3 0 3).toInt) (y := 1) rfl (by decide) (by omega) (by omega)
              refine gs_put (C := RX7) (T := TX7) (N := 6) (ty := .int) (val := .int x_29) hx hb hts inX7 tyX7 tyX7_ok nmX7 hown hK hI hm hM hS 3 0 3 (by decide) rfl rfl (by decide) (hts _ gm_56) (fun _ h9 => h9) rfl (x_29 : Int32) rfl (by decide +kernel) rfl rfl (Nat.le_of_ble_eq_true rfl) dX7_readRun_88 (fun st_30 H locs est_30 hM hS => ?_)
              have hB_st_30 : gBN bX kX [301, 303] st st_30 := by rw [est_30]; exact hB_sv3.up (show (303 : Nat) ∈ _ from by decide) (show (0 : Int) ≤ x_29.toInt from by omega) (show x_29.toInt ≤ (801 : Int) from by omega)
              refine lv_goto (tgt := 12) hx hb dX7_readRun_91 (by decide) ?_
              exact ih_3 st_30 (x_21 : Int32) (x_27 : Int32) H _ ls (by have hq0 : (st_30 3 0 3).toInt = (x_29 : Int32).toInt := congrArg Int32.toInt (((congrFun (congrFun (congrFun est_30 3) 0) 3).trans (gU_same _ _ _ _ _))); have hb1 : (0 : Int) ≤ (st_30 3 0 3).toInt ∧ (st_30 3 0 3).toInt ≤ (801 : Int) := hB_st_30.1 3 0 3; omega) hB_st_30 (by have h9 : (st_30 3 0 3).toInt = x_29.toInt := (congrArg Int32.toInt (((congrFun (congrFun (congrFun est_30 3) 0) 3).trans (gU_same _ _ _ _ _)))); omega) (by have h9 : (st_30 3 0 3).toInt = x_29.toInt := (congrArg Int32.toInt (((congrFun (congrFun (congrFun est_30 3) 0) 3).trans (gU_same _ _ _ _ _)))); rw [ctT_step (cl := dgB) (s := (st 3 0 2).toInt) (a := (sv3 3 0 3).toInt) (by omega) (by omega)]; have h8 := dgI (bA F N (sv3 3 0 3).toInt); omega) (by have h9 : (st_30 3 0 3).toInt = x_29.toInt := (congrArg Int32.toInt (((congrFun (congrFun (congrFun est_30 3) 0) 3).trans (gU_same _ _ _ _ _)))); rw [ctT_step (cl := smB) (s := (st 3 0 2).toInt) (a := (sv3 3 0 3).toInt) (by omega) (by omega)]; have h8 := smI (bA F N (sv3 3 0 3).toInt); omega) (by have h9 : (st_30 3 0 3).toInt = x_29.toInt := (congrArg Int32.toInt (((congrFun (congrFun (congrFun est_30 3) 0) 3).trans (gU_same _ _ _ _ _)))); rw [show (st_30 3 0 3).toInt = (sv3 3 0 3).toInt + 1 by omega, tEnd_go (by omega) (crB_t (by omega))]; exact hv3_3) hM hS (lv_sub hl [0, 1, 3] rfl)
          · skip
            refine lv_if_eq (tgt := 63) hx hb dX7_readRun_56 (by decide) (fun _ => ?_) (fun h9 => absurd (by decide) h9)
            refine lv_iconst (v := 0) hx hb dX7_readRun_63 (by decide) ?_
            refine lv_iadd hx hb dX7_readRun_64 ?_
            refine lv_topi (fun x_31 ex_31 => ?_)
            try have tx_31 : x_31.toInt = y3_0.toInt + 0 := by rw [ex_31]; exact gz_addP (x := y3_0.toInt) (y := 0) rfl (by decide) (by omega) (by omega)
            refine lv_istore_n (lv' := [(1, .int x_31), (3, .int r_18), (2, .int y3_1), (0, .ref (ad 3 0))]) hx hb dX7_readRun_65 rfl hl (by decide) rfl (fun ls hl => ?_)
            refine lv_iload_n hx hb dX7_readRun_66 rfl (lv_at hl 2 rfl) ?_
            refine lv_iload_n hx hb dX7_readRun_67 rfl (lv_at hl 1 rfl) ?_
            refine gs_calli (va_runS (As := [.int r_18]) (rest := [.int y3_1]) ⟨hx, hb, hml, hown, hts⟩ (s_X7_isSmall l G cy sK sV ad H.size sv3 hB_sv3.1 r_18 r_18.toInt rfl ) ⟨(gz_cb (n := 1) hts gm_388 gm_3 gm_390 ⟨by decide +kernel, by decide +kernel, by decide +kernel⟩ ⟨Nat.le_of_ble_eq_true rfl, Nat.le_of_ble_eq_true rfl⟩), hts _ gm_389⟩ (gs_preS hK hov hE hI hM hm hS hA) rfl rfl hl.1 rfl (lv_room (Nat.le_of_ble_eq_true rfl)) dX7_readRun_68 ⟨Nat.le_of_ble_eq_true rfl, Nat.le_of_ble_eq_true rfl⟩) hm hS hA (fun r_32 st_32 H locs hw_32 hM hS => ?_)
            obtain ⟨n_32, hw_32⟩ := hw_32
            have n_32 := gBN.nil n_32
            subst n_32
            rcases hw_32 with ⟨rfl, hw_32_0, hw_32_1⟩ | ⟨rfl, hw_32_0⟩
            · skip
              refine lv_if_eq (tgt := 78) hx hb dX7_readRun_71 (by decide) (fun h9 => absurd h9 (by decide)) (fun _ => ?_)
              refine lv_iconst (v := 1) hx hb dX7_readRun_74 (by decide) ?_
              refine lv_goto (tgt := 79) hx hb dX7_readRun_75 (by decide) ?_
              refine lv_iadd hx hb dX7_readRun_79 ?_
              refine lv_topi (fun x_33 ex_33 => ?_)
              try have tx_33 : x_33.toInt = y3_1.toInt + 1 := by rw [ex_33]; exact gz_addP (x := y3_1.toInt) (y := 1) rfl (by decide) (by omega) (by omega)
              refine lv_istore_n (lv' := [(2, .int x_33), (1, .int x_31), (3, .int r_18), (0, .ref (ad 3 0))]) hx hb dX7_readRun_80 rfl hl (by decide) rfl (fun ls hl => ?_)
              refine lv_aload_n hx hb dX7_readRun_81 rfl (lv_at hl 3 rfl) ?_
              refine lv_dup hx hb dX7_readRun_82 rfl ?_
              refine gs_get (C := RX7) (T := TX7) (N := 6) hx hb hts inX7 hown hK hM 3 0 3 (by decide) rfl rfl (by decide) (hts _ gm_56) (fun _ h9 => h9) rfl dX7_readRun_83 ?_
              have bf_34 : (0 : Int) ≤ (sv3 3 0 3).toInt ∧ (sv3 3 0 3).toInt ≤ (801 : Int) := hB_sv3.1 3 0 3
              refine lv_iconst (v := 1) hx hb dX7_readRun_86 (by decide) ?_
              refine lv_iadd hx hb dX7_readRun_87 ?_
              refine lv_topi (fun x_35 ex_35 => ?_)
              try have tx_35 : x_35.toInt = (sv3 3 0 3).toInt + 1 := by rw [ex_35]; exact gz_addP (x := (sv3 3 0 3).toInt) (y := 1) rfl (by decide) (by omega) (by omega)
              refine gs_put (C := RX7) (T := TX7) (N := 6) (ty := .int) (val := .int x_35) hx hb hts inX7 tyX7 tyX7_ok nmX7 hown hK hI hm hM hS 3 0 3 (by decide) rfl rfl (by decide) (hts _ gm_56) (fun _ h9 => h9) rfl (x_35 : Int32) rfl (by decide +kernel) rfl rfl (Nat.le_of_ble_eq_true rfl) dX7_readRun_88 (fun st_36 H locs est_36 hM hS => ?_)
              have hB_st_36 : gBN bX kX [301, 303] st st_36 := by rw [est_36]; exact hB_sv3.up (show (303 : Nat) ∈ _ from by decide) (show (0 : Int) ≤ x_35.toInt from by omega) (show x_35.toInt ≤ (801 : Int) from by omega)
              refine lv_goto (tgt := 12) hx hb dX7_readRun_91 (by decide) ?_
              exact ih_3 st_36 (x_31 : Int32) (x_33 : Int32) H _ ls (by have hq0 : (st_36 3 0 3).toInt = (x_35 : Int32).toInt := congrArg Int32.toInt (((congrFun (congrFun (congrFun est_36 3) 0) 3).trans (gU_same _ _ _ _ _))); have hb1 : (0 : Int) ≤ (st_36 3 0 3).toInt ∧ (st_36 3 0 3).toInt ≤ (801 : Int) := hB_st_36.1 3 0 3; omega) hB_st_36 (by have h9 : (st_36 3 0 3).toInt = x_35.toInt := (congrArg Int32.toInt (((congrFun (congrFun (congrFun est_36 3) 0) 3).trans (gU_same _ _ _ _ _)))); omega) (by have h9 : (st_36 3 0 3).toInt = x_35.toInt := (congrArg Int32.toInt (((congrFun (congrFun (congrFun est_36 3) 0) 3).trans (gU_same _ _ _ _ _)))); rw [ctT_step (cl := dgB) (s := (st 3 0 2).toInt) (a := (sv3 3 0 3).toInt) (by omega) (by omega)]; have h8 := dgI (bA F N (sv3 3 0 3).toInt); omega) (by have h9 : (st_36 3 0 3).toInt = x_35.toInt := (congrArg Int32.toInt (((congrFun (congrFun (congrFun est_36 3) 0) 3).trans (gU_same _ _ _ _ _)))); rw [ctT_step (cl := smB) (s := (st 3 0 2).toInt) (a := (sv3 3 0 3).toInt) (by omega) (by omega)]; have h8 := smI (bA F N (sv3 3 0 3).toInt); omega) (by have h9 : (st_36 3 0 3).toInt = x_35.toInt := (congrArg Int32.toInt (((congrFun (congrFun (congrFun est_36 3) 0) 3).trans (gU_same _ _ _ _ _)))); rw [show (st_36 3 0 3).toInt = (sv3 3 0 3).toInt + 1 by omega, tEnd_go (by omega) (crB_t (by omega))]; exact hv3_3) hM hS (lv_sub hl [0, 1, 3] rfl)
            · skip
              refine lv_if_eq (tgt := 78) hx hb dX7_readRun_71 (by decide) (fun _ => ?_) (fun h9 => absurd (by decide) h9)
              refine lv_iconst (v := 0) hx hb dX7_readRun_78 (by decide) ?_
              refine lv_iadd hx hb dX7_readRun_79 ?_
              refine lv_topi (fun x_37 ex_37 => ?_)
              try have tx_37 : x_37.toInt = y3_1.toInt + 0 := by rw [ex_37]; exact gz_addP (x := y3_1.toInt) (y := 0) rfl (by decide) (by omega) (by omega)
              refine lv_istore_n (lv' := [(2, .int x_37), (1, .int x_31), (3, .int r_18), (0, .ref (ad 3 0))]) hx hb dX7_readRun_80 rfl hl (by decide) rfl (fun ls hl => ?_)
              refine lv_aload_n hx hb dX7_readRun_81 rfl (lv_at hl 3 rfl) ?_
              refine lv_dup hx hb dX7_readRun_82 rfl ?_
              refine gs_get (C := RX7) (T := TX7) (N := 6) hx hb hts inX7 hown hK hM 3 0 3 (by decide) rfl rfl (by decide) (hts _ gm_56) (fun _ h9 => h9) rfl dX7_readRun_83 ?_
              have bf_38 : (0 : Int) ≤ (sv3 3 0 3).toInt ∧ (sv3 3 0 3).toInt ≤ (801 : Int) := hB_sv3.1 3 0 3
              refine lv_iconst (v := 1) hx hb dX7_readRun_86 (by decide) ?_
              refine lv_iadd hx hb dX7_readRun_87 ?_
              refine lv_topi (fun x_39 ex_39 => ?_)
              try have tx_39 : x_39.toInt = (sv3 3 0 3).toInt + 1 := by rw [ex_39]; exact gz_addP (x := (sv3 3 0 3).toInt) (y := 1) rfl (by decide) (by omega) (by omega)
              refine gs_put (C := RX7) (T := TX7) (N := 6) (ty := .int) (val := .int x_39) hx hb hts inX7 tyX7 tyX7_ok nmX7 hown hK hI hm hM hS 3 0 3 (by decide) rfl rfl (by decide) (hts _ gm_56) (fun _ h9 => h9) rfl (x_39 : Int32) rfl (by decide +kernel) rfl rfl (Nat.le_of_ble_eq_true rfl) dX7_readRun_88 (fun st_40 H locs est_40 hM hS => ?_)
              have hB_st_40 : gBN bX kX [301, 303] st st_40 := by rw [est_40]; exact hB_sv3.up (show (303 : Nat) ∈ _ from by decide) (show (0 : Int) ≤ x_39.toInt from by omega) (show x_39.toInt ≤ (801 : Int) from by omega)
              refine lv_goto (tgt := 12) hx hb dX7_readRun_91 (by decide) ?_
              exact ih_3 st_40 (x_31 : Int32) (x_37 : Int32) H _ ls (by have hq0 : (st_40 3 0 3).toInt = (x_39 : Int32).toInt := congrArg Int32.toInt (((congrFun (congrFun (congrFun est_40 3) 0) 3).trans (gU_same _ _ _ _ _))); have hb1 : (0 : Int) ≤ (st_40 3 0 3).toInt ∧ (st_40 3 0 3).toInt ≤ (801 : Int) := hB_st_40.1 3 0 3; omega) hB_st_40 (by have h9 : (st_40 3 0 3).toInt = x_39.toInt := (congrArg Int32.toInt (((congrFun (congrFun (congrFun est_40 3) 0) 3).trans (gU_same _ _ _ _ _)))); omega) (by have h9 : (st_40 3 0 3).toInt = x_39.toInt := (congrArg Int32.toInt (((congrFun (congrFun (congrFun est_40 3) 0) 3).trans (gU_same _ _ _ _ _)))); rw [ctT_step (cl := dgB) (s := (st 3 0 2).toInt) (a := (sv3 3 0 3).toInt) (by omega) (by omega)]; have h8 := dgI (bA F N (sv3 3 0 3).toInt); omega) (by have h9 : (st_40 3 0 3).toInt = x_39.toInt := (congrArg Int32.toInt (((congrFun (congrFun (congrFun est_40 3) 0) 3).trans (gU_same _ _ _ _ _)))); rw [ctT_step (cl := smB) (s := (st 3 0 2).toInt) (a := (sv3 3 0 3).toInt) (by omega) (by omega)]; have h8 := smI (bA F N (sv3 3 0 3).toInt); omega) (by have h9 : (st_40 3 0 3).toInt = x_39.toInt := (congrArg Int32.toInt (((congrFun (congrFun (congrFun est_40 3) 0) 3).trans (gU_same _ _ _ _ _)))); rw [show (st_40 3 0 3).toInt = (sv3 3 0 3).toInt + 1 by omega, tEnd_go (by omega) (crB_t (by omega))]; exact hv3_3) hM hS (lv_sub hl [0, 1, 3] rfl)
        · skip
          refine lv_if_ne (tgt := 51) hx hb dX7_readRun_38 (by decide) (fun h9 => absurd (by decide) h9) (fun _ => ?_)
          refine lv_iload_n hx hb dX7_readRun_41 rfl (lv_at hl 0 rfl) ?_
          refine gs_calli (va_runS (As := [.int r_18]) (rest := []) ⟨hx, hb, hml, hown, hts⟩ (s_X7_isLetter l G cy sK sV ad H.size sv3 hB_sv3.1 r_18 r_18.toInt rfl ) ⟨(gz_cb (n := 1) hts gm_381 gm_3 gm_383 ⟨by decide +kernel, by decide +kernel, by decide +kernel⟩ ⟨Nat.le_of_ble_eq_true rfl, Nat.le_of_ble_eq_true rfl⟩), hts _ gm_382⟩ (gs_preS hK hov hE hI hM hm hS hA) rfl rfl hl.1 rfl (lv_room (Nat.le_of_ble_eq_true rfl)) dX7_readRun_42 ⟨Nat.le_of_ble_eq_true rfl, Nat.le_of_ble_eq_true rfl⟩) hm hS hA (fun r_41 st_41 H locs hw_41 hM hS => ?_)
          obtain ⟨n_41, hw_41⟩ := hw_41
          have n_41 := gBN.nil n_41
          subst n_41
          rcases hw_41 with ⟨rfl, hw_41_0⟩ | ⟨rfl, hw_41_0⟩
          · skip
            refine lv_if_ne (tgt := 51) hx hb dX7_readRun_45 (by decide) (fun _ => ?_) (fun h9 => absurd h9 (by decide))
            refine lv_iload_n hx hb dX7_readRun_51 rfl (lv_at hl 2 rfl) ?_
            refine lv_iload_n hx hb dX7_readRun_52 rfl (lv_at hl 0 rfl) ?_
            refine gs_calli (va_runS (As := [.int r_18]) (rest := [.int y3_0]) ⟨hx, hb, hml, hown, hts⟩ (s_X7_isDigit l G cy sK sV ad H.size sv3 hB_sv3.1 r_18 r_18.toInt rfl ) ⟨(gz_cb (n := 1) hts gm_378 gm_3 gm_380 ⟨by decide +kernel, by decide +kernel, by decide +kernel⟩ ⟨Nat.le_of_ble_eq_true rfl, Nat.le_of_ble_eq_true rfl⟩), hts _ gm_379⟩ (gs_preS hK hov hE hI hM hm hS hA) rfl rfl hl.1 rfl (lv_room (Nat.le_of_ble_eq_true rfl)) dX7_readRun_53 ⟨Nat.le_of_ble_eq_true rfl, Nat.le_of_ble_eq_true rfl⟩) hm hS hA (fun r_42 st_42 H locs hw_42 hM hS => ?_)
            obtain ⟨n_42, hw_42⟩ := hw_42
            have n_42 := gBN.nil n_42
            subst n_42
            rcases hw_42 with ⟨rfl, hw_42_0, hw_42_1⟩ | ⟨rfl, hw_42_0⟩
            · skip
              refine lv_if_eq (tgt := 63) hx hb dX7_readRun_56 (by decide) (fun h9 => absurd h9 (by decide)) (fun _ => ?_)
              refine lv_iconst (v := 1) hx hb dX7_readRun_59 (by decide) ?_
              refine lv_goto (tgt := 64) hx hb dX7_readRun_60 (by decide) ?_
              refine lv_iadd hx hb dX7_readRun_64 ?_
              refine lv_topi (fun x_43 ex_43 => ?_)
              try have tx_43 : x_43.toInt = y3_0.toInt + 1 := by rw [ex_43]; exact gz_addP (x := y3_0.toInt) (y := 1) rfl (by decide) (by omega) (by omega)
              refine lv_istore_n (lv' := [(1, .int x_43), (3, .int r_18), (2, .int y3_1), (0, .ref (ad 3 0))]) hx hb dX7_readRun_65 rfl hl (by decide) rfl (fun ls hl => ?_)
              refine lv_iload_n hx hb dX7_readRun_66 rfl (lv_at hl 2 rfl) ?_
              refine lv_iload_n hx hb dX7_readRun_67 rfl (lv_at hl 1 rfl) ?_
              refine gs_calli (va_runS (As := [.int r_18]) (rest := [.int y3_1]) ⟨hx, hb, hml, hown, hts⟩ (s_X7_isSmall l G cy sK sV ad H.size sv3 hB_sv3.1 r_18 r_18.toInt rfl ) ⟨(gz_cb (n := 1) hts gm_388 gm_3 gm_390 ⟨by decide +kernel, by decide +kernel, by decide +kernel⟩ ⟨Nat.le_of_ble_eq_true rfl, Nat.le_of_ble_eq_true rfl⟩), hts _ gm_389⟩ (gs_preS hK hov hE hI hM hm hS hA) rfl rfl hl.1 rfl (lv_room (Nat.le_of_ble_eq_true rfl)) dX7_readRun_68 ⟨Nat.le_of_ble_eq_true rfl, Nat.le_of_ble_eq_true rfl⟩) hm hS hA (fun r_44 st_44 H locs hw_44 hM hS => ?_)
              obtain ⟨n_44, hw_44⟩ := hw_44
              have n_44 := gBN.nil n_44
              subst n_44
              rcases hw_44 with ⟨rfl, hw_44_0, hw_44_1⟩ | ⟨rfl, hw_44_0⟩
              · skip
                refine lv_if_eq (tgt := 78) hx hb dX7_readRun_71 (by decide) (fun h9 => absurd h9 (by decide)) (fun _ => ?_)
                refine lv_iconst (v := 1) hx hb dX7_readRun_74 (by decide) ?_
                refine lv_goto (tgt := 79) hx hb dX7_readRun_75 (by decide) ?_
                refine lv_iadd hx hb dX7_readRun_79 ?_
                refine lv_topi (fun x_45 ex_45 => ?_)
                try have tx_45 : x_45.toInt = y3_1.toInt + 1 := by rw [ex_45]; exact gz_addP (x := y3_1.toInt) (y := 1) rfl (by decide) (by omega) (by omega)
                refine lv_istore_n (lv' := [(2, .int x_45), (1, .int x_43), (3, .int r_18), (0, .ref (ad 3 0))]) hx hb dX7_readRun_80 rfl hl (by decide) rfl (fun ls hl => ?_)
                refine lv_aload_n hx hb dX7_readRun_81 rfl (lv_at hl 3 rfl) ?_
                refine lv_dup hx hb dX7_readRun_82 rfl ?_
                refine gs_get (C := RX7) (T := TX7) (N := 6) hx hb hts inX7 hown hK hM 3 0 3 (by decide) rfl rfl (by decide) (hts _ gm_56) (fun _ h9 => h9) rfl dX7_readRun_83 ?_
                have bf_46 : (0 : Int) ≤ (sv3 3 0 3).toInt ∧ (sv3 3 0 3).toInt ≤ (801 : Int) := hB_sv3.1 3 0 3
                refine lv_iconst (v := 1) hx hb dX7_readRun_86 (by decide) ?_
                refine lv_iadd hx hb dX7_readRun_87 ?_
                refine lv_topi (fun x_47 ex_47 => ?_)
                try have tx_47 : x_47.toInt = (sv3 3 0 3).toInt + 1 := by rw [ex_47]; exact gz_addP (x := (sv3 3 0 3).toInt) (y := 1) rfl (by decide) (by omega) (by omega)
                refine gs_put (C := RX7) (T := TX7) (N := 6) (ty := .int) (val := .int x_47) hx hb hts inX7 tyX7 tyX7_ok nmX7 hown hK hI hm hM hS 3 0 3 (by decide) rfl rfl (by decide) (hts _ gm_56) (fun _ h9 => h9) rfl (x_47 : Int32) rfl (by decide +kernel) rfl rfl (Nat.le_of_ble_eq_true rfl) dX7_readRun_88 (fun st_48 H locs est_48 hM hS => ?_)
                have hB_st_48 : gBN bX kX [301, 303] st st_48 := by rw [est_48]; exact hB_sv3.up (show (303 : Nat) ∈ _ from by decide) (show (0 : Int) ≤ x_47.toInt from by omega) (show x_47.toInt ≤ (801 : Int) from by omega)
                refine lv_goto (tgt := 12) hx hb dX7_readRun_91 (by decide) ?_
                exact ih_3 st_48 (x_43 : Int32) (x_45 : Int32) H _ ls (by have hq0 : (st_48 3 0 3).toInt = (x_47 : Int32).toInt := congrArg Int32.toInt (((congrFun (congrFun (congrFun est_48 3) 0) 3).trans (gU_same _ _ _ _ _))); have hb1 : (0 : Int) ≤ (st_48 3 0 3).toInt ∧ (st_48 3 0 3).toInt ≤ (801 : Int) := hB_st_48.1 3 0 3; omega) hB_st_48 (by have h9 : (st_48 3 0 3).toInt = x_47.toInt := (congrArg Int32.toInt (((congrFun (congrFun (congrFun est_48 3) 0) 3).trans (gU_same _ _ _ _ _)))); omega) (by have h9 : (st_48 3 0 3).toInt = x_47.toInt := (congrArg Int32.toInt (((congrFun (congrFun (congrFun est_48 3) 0) 3).trans (gU_same _ _ _ _ _)))); rw [ctT_step (cl := dgB) (s := (st 3 0 2).toInt) (a := (sv3 3 0 3).toInt) (by omega) (by omega)]; have h8 := dgI (bA F N (sv3 3 0 3).toInt); omega) (by have h9 : (st_48 3 0 3).toInt = x_47.toInt := (congrArg Int32.toInt (((congrFun (congrFun (congrFun est_48 3) 0) 3).trans (gU_same _ _ _ _ _)))); rw [ctT_step (cl := smB) (s := (st 3 0 2).toInt) (a := (sv3 3 0 3).toInt) (by omega) (by omega)]; have h8 := smI (bA F N (sv3 3 0 3).toInt); omega) (by have h9 : (st_48 3 0 3).toInt = x_47.toInt := (congrArg Int32.toInt (((congrFun (congrFun (congrFun est_48 3) 0) 3).trans (gU_same _ _ _ _ _)))); rw [show (st_48 3 0 3).toInt = (sv3 3 0 3).toInt + 1 by omega, tEnd_go (by omega) (crB_t (by omega))]; exact hv3_3) hM hS (lv_sub hl [0, 1, 3] rfl)
              · skip
                refine lv_if_eq (tgt := 78) hx hb dX7_readRun_71 (by decide) (fun _ => ?_) (fun h9 => absurd (by decide) h9)
                refine lv_iconst (v := 0) hx hb dX7_readRun_78 (by decide) ?_
                refine lv_iadd hx hb dX7_readRun_79 ?_
                refine lv_topi (fun x_49 ex_49 => ?_)
                try have tx_49 : x_49.toInt = y3_1.toInt + 0 := by rw [ex_49]; exact gz_addP (x := y3_1.toInt) (y := 0) rfl (by decide) (by omega) (by omega)
                refine lv_istore_n (lv' := [(2, .int x_49), (1, .int x_43), (3, .int r_18), (0, .ref (ad 3 0))]) hx hb dX7_readRun_80 rfl hl (by decide) rfl (fun ls hl => ?_)
                refine lv_aload_n hx hb dX7_readRun_81 rfl (lv_at hl 3 rfl) ?_
                refine lv_dup hx hb dX7_readRun_82 rfl ?_
                refine gs_get (C := RX7) (T := TX7) (N := 6) hx hb hts inX7 hown hK hM 3 0 3 (by decide) rfl rfl (by decide) (hts _ gm_56) (fun _ h9 => h9) rfl dX7_readRun_83 ?_
                have bf_50 : (0 : Int) ≤ (sv3 3 0 3).toInt ∧ (sv3 3 0 3).toInt ≤ (801 : Int) := hB_sv3.1 3 0 3
                refine lv_iconst (v := 1) hx hb dX7_readRun_86 (by decide) ?_
                refine lv_iadd hx hb dX7_readRun_87 ?_
                refine lv_topi (fun x_51 ex_51 => ?_)
                try have tx_51 : x_51.toInt = (sv3 3 0 3).toInt + 1 := by rw [ex_51]; exact gz_addP (x := (sv3 3 0 3).toInt) (y := 1) rfl (by decide) (by omega) (by omega)
                refine gs_put (C := RX7) (T := TX7) (N := 6) (ty := .int) (val := .int x_51) hx hb hts inX7 tyX7 tyX7_ok nmX7 hown hK hI hm hM hS 3 0 3 (by decide) rfl rfl (by decide) (hts _ gm_56) (fun _ h9 => h9) rfl (x_51 : Int32) rfl (by decide +kernel) rfl rfl (Nat.le_of_ble_eq_true rfl) dX7_readRun_88 (fun st_52 H locs est_52 hM hS => ?_)
                have hB_st_52 : gBN bX kX [301, 303] st st_52 := by rw [est_52]; exact hB_sv3.up (show (303 : Nat) ∈ _ from by decide) (show (0 : Int) ≤ x_51.toInt from by omega) (show x_51.toInt ≤ (801 : Int) from by omega)
                refine lv_goto (tgt := 12) hx hb dX7_readRun_91 (by decide) ?_
                exact ih_3 st_52 (x_43 : Int32) (x_49 : Int32) H _ ls (by have hq0 : (st_52 3 0 3).toInt = (x_51 : Int32).toInt := congrArg Int32.toInt (((congrFun (congrFun (congrFun est_52 3) 0) 3).trans (gU_same _ _ _ _ _))); have hb1 : (0 : Int) ≤ (st_52 3 0 3).toInt ∧ (st_52 3 0 3).toInt ≤ (801 : Int) := hB_st_52.1 3 0 3; omega) hB_st_52 (by have h9 : (st_52 3 0 3).toInt = x_51.toInt := (congrArg Int32.toInt (((congrFun (congrFun (congrFun est_52 3) 0) 3).trans (gU_same _ _ _ _ _)))); omega) (by have h9 : (st_52 3 0 3).toInt = x_51.toInt := (congrArg Int32.toInt (((congrFun (congrFun (congrFun est_52 3) 0) 3).trans (gU_same _ _ _ _ _)))); rw [ctT_step (cl := dgB) (s := (st 3 0 2).toInt) (a := (sv3 3 0 3).toInt) (by omega) (by omega)]; have h8 := dgI (bA F N (sv3 3 0 3).toInt); omega) (by have h9 : (st_52 3 0 3).toInt = x_51.toInt := (congrArg Int32.toInt (((congrFun (congrFun (congrFun est_52 3) 0) 3).trans (gU_same _ _ _ _ _)))); rw [ctT_step (cl := smB) (s := (st 3 0 2).toInt) (a := (sv3 3 0 3).toInt) (by omega) (by omega)]; have h8 := smI (bA F N (sv3 3 0 3).toInt); omega) (by have h9 : (st_52 3 0 3).toInt = x_51.toInt := (congrArg Int32.toInt (((congrFun (congrFun (congrFun est_52 3) 0) 3).trans (gU_same _ _ _ _ _)))); rw [show (st_52 3 0 3).toInt = (sv3 3 0 3).toInt + 1 by omega, tEnd_go (by omega) (crB_t (by omega))]; exact hv3_3) hM hS (lv_sub hl [0, 1, 3] rfl)
            · skip
              refine lv_if_eq (tgt := 63) hx hb dX7_readRun_56 (by decide) (fun _ => ?_) (fun h9 => absurd (by decide) h9)
              refine lv_iconst (v := 0) hx hb dX7_readRun_63 (by decide) ?_
              refine lv_iadd hx hb dX7_readRun_64 ?_
              refine lv_topi (fun x_53 ex_53 => ?_)
              try have tx_53 : x_53.toInt = y3_0.toInt + 0 := by rw [ex_53]; exact gz_addP (x := y3_0.toInt) (y := 0) rfl (by decide) (by omega) (by omega)
              refine lv_istore_n (lv' := [(1, .int x_53), (3, .int r_18), (2, .int y3_1), (0, .ref (ad 3 0))]) hx hb dX7_readRun_65 rfl hl (by decide) rfl (fun ls hl => ?_)
              refine lv_iload_n hx hb dX7_readRun_66 rfl (lv_at hl 2 rfl) ?_
              refine lv_iload_n hx hb dX7_readRun_67 rfl (lv_at hl 1 rfl) ?_
              refine gs_calli (va_runS (As := [.int r_18]) (rest := [.int y3_1]) ⟨hx, hb, hml, hown, hts⟩ (s_X7_isSmall l G cy sK sV ad H.size sv3 hB_sv3.1 r_18 r_18.toInt rfl ) ⟨(gz_cb (n := 1) hts gm_388 gm_3 gm_390 ⟨by decide +kernel, by decide +kernel, by decide +kernel⟩ ⟨Nat.le_of_ble_eq_true rfl, Nat.le_of_ble_eq_true rfl⟩), hts _ gm_389⟩ (gs_preS hK hov hE hI hM hm hS hA) rfl rfl hl.1 rfl (lv_room (Nat.le_of_ble_eq_true rfl)) dX7_readRun_68 ⟨Nat.le_of_ble_eq_true rfl, Nat.le_of_ble_eq_true rfl⟩) hm hS hA (fun r_54 st_54 H locs hw_54 hM hS => ?_)
              obtain ⟨n_54, hw_54⟩ := hw_54
              have n_54 := gBN.nil n_54
              subst n_54
              rcases hw_54 with ⟨rfl, hw_54_0, hw_54_1⟩ | ⟨rfl, hw_54_0⟩
              · skip
                refine lv_if_eq (tgt := 78) hx hb dX7_readRun_71 (by decide) (fun h9 => absurd h9 (by decide)) (fun _ => ?_)
                refine lv_iconst (v := 1) hx hb dX7_readRun_74 (by decide) ?_
                refine lv_goto (tgt := 79) hx hb dX7_readRun_75 (by decide) ?_
                refine lv_iadd hx hb dX7_readRun_79 ?_
                refine lv_topi (fun x_55 ex_55 => ?_)
                try have tx_55 : x_55.toInt = y3_1.toInt + 1 := by rw [ex_55]; exact gz_addP (x := y3_1.toInt) (y := 1) rfl (by decide) (by omega) (by omega)
                refine lv_istore_n (lv' := [(2, .int x_55), (1, .int x_53), (3, .int r_18), (0, .ref (ad 3 0))]) hx hb dX7_readRun_80 rfl hl (by decide) rfl (fun ls hl => ?_)
                refine lv_aload_n hx hb dX7_readRun_81 rfl (lv_at hl 3 rfl) ?_
                refine lv_dup hx hb dX7_readRun_82 rfl ?_
                refine gs_get (C := RX7) (T := TX7) (N := 6) hx hb hts inX7 hown hK hM 3 0 3 (by decide) rfl rfl (by decide) (hts _ gm_56) (fun _ h9 => h9) rfl dX7_readRun_83 ?_
                have bf_56 : (0 : Int) ≤ (sv3 3 0 3).toInt ∧ (sv3 3 0 3).toInt ≤ (801 : Int) := hB_sv3.1 3 0 3
                refine lv_iconst (v := 1) hx hb dX7_readRun_86 (by decide) ?_
                refine lv_iadd hx hb dX7_readRun_87 ?_
                refine lv_topi (fun x_57 ex_57 => ?_)
                try have tx_57 : x_57.toInt = (sv3 3 0 3).toInt + 1 := by rw [ex_57]; exact gz_addP (x := (sv3 3 0 3).toInt) (y := 1) rfl (by decide) (by omega) (by omega)
                refine gs_put (C := RX7) (T := TX7) (N := 6) (ty := .int) (val := .int x_57) hx hb hts inX7 tyX7 tyX7_ok nmX7 hown hK hI hm hM hS 3 0 3 (by decide) rfl rfl (by decide) (hts _ gm_56) (fun _ h9 => h9) rfl (x_57 : Int32) rfl (by decide +kernel) rfl rfl (Nat.le_of_ble_eq_true rfl) dX7_readRun_88 (fun st_58 H locs est_58 hM hS => ?_)
                have hB_st_58 : gBN bX kX [301, 303] st st_58 := by rw [est_58]; exact hB_sv3.up (show (303 : Nat) ∈ _ from by decide) (show (0 : Int) ≤ x_57.toInt from by omega) (show x_57.toInt ≤ (801 : Int) from by omega)
                refine lv_goto (tgt := 12) hx hb dX7_readRun_91 (by decide) ?_
                exact ih_3 st_58 (x_53 : Int32) (x_55 : Int32) H _ ls (by have hq0 : (st_58 3 0 3).toInt = (x_57 : Int32).toInt := congrArg Int32.toInt (((congrFun (congrFun (congrFun est_58 3) 0) 3).trans (gU_same _ _ _ _ _))); have hb1 : (0 : Int) ≤ (st_58 3 0 3).toInt ∧ (st_58 3 0 3).toInt ≤ (801 : Int) := hB_st_58.1 3 0 3; omega) hB_st_58 (by have h9 : (st_58 3 0 3).toInt = x_57.toInt := (congrArg Int32.toInt (((congrFun (congrFun (congrFun est_58 3) 0) 3).trans (gU_same _ _ _ _ _)))); omega) (by have h9 : (st_58 3 0 3).toInt = x_57.toInt := (congrArg Int32.toInt (((congrFun (congrFun (congrFun est_58 3) 0) 3).trans (gU_same _ _ _ _ _)))); rw [ctT_step (cl := dgB) (s := (st 3 0 2).toInt) (a := (sv3 3 0 3).toInt) (by omega) (by omega)]; have h8 := dgI (bA F N (sv3 3 0 3).toInt); omega) (by have h9 : (st_58 3 0 3).toInt = x_57.toInt := (congrArg Int32.toInt (((congrFun (congrFun (congrFun est_58 3) 0) 3).trans (gU_same _ _ _ _ _)))); rw [ctT_step (cl := smB) (s := (st 3 0 2).toInt) (a := (sv3 3 0 3).toInt) (by omega) (by omega)]; have h8 := smI (bA F N (sv3 3 0 3).toInt); omega) (by have h9 : (st_58 3 0 3).toInt = x_57.toInt := (congrArg Int32.toInt (((congrFun (congrFun (congrFun est_58 3) 0) 3).trans (gU_same _ _ _ _ _)))); rw [show (st_58 3 0 3).toInt = (sv3 3 0 3).toInt + 1 by omega, tEnd_go (by omega) (crB_t (by omega))]; exact hv3_3) hM hS (lv_sub hl [0, 1, 3] rfl)
              · skip
                refine lv_if_eq (tgt := 78) hx hb dX7_readRun_71 (by decide) (fun _ => ?_) (fun h9 => absurd (by decide) h9)
                refine lv_iconst (v := 0) hx hb dX7_readRun_78 (by decide) ?_
                refine lv_iadd hx hb dX7_readRun_79 ?_
                refine lv_topi (fun x_59 ex_59 => ?_)
                try have tx_59 : x_59.toInt = y3_1.toInt + 0 := by rw [ex_59]; exact gz_addP (x := y3_1.toInt) (y := 0) rfl (by decide) (by omega) (by omega)
                refine lv_istore_n (lv' := [(2, .int x_59), (1, .int x_53), (3, .int r_18), (0, .ref (ad 3 0))]) hx hb dX7_readRun_80 rfl hl (by decide) rfl (fun ls hl => ?_)
                refine lv_aload_n hx hb dX7_readRun_81 rfl (lv_at hl 3 rfl) ?_
                refine lv_dup hx hb dX7_readRun_82 rfl ?_
                refine gs_get (C := RX7) (T := TX7) (N := 6) hx hb hts inX7 hown hK hM 3 0 3 (by decide) rfl rfl (by decide) (hts _ gm_56) (fun _ h9 => h9) rfl dX7_readRun_83 ?_
                have bf_60 : (0 : Int) ≤ (sv3 3 0 3).toInt ∧ (sv3 3 0 3).toInt ≤ (801 : Int) := hB_sv3.1 3 0 3
                refine lv_iconst (v := 1) hx hb dX7_readRun_86 (by decide) ?_
                refine lv_iadd hx hb dX7_readRun_87 ?_
                refine lv_topi (fun x_61 ex_61 => ?_)
                try have tx_61 : x_61.toInt = (sv3 3 0 3).toInt + 1 := by rw [ex_61]; exact gz_addP (x := (sv3 3 0 3).toInt) (y := 1) rfl (by decide) (by omega) (by omega)
                refine gs_put (C := RX7) (T := TX7) (N := 6) (ty := .int) (val := .int x_61) hx hb hts inX7 tyX7 tyX7_ok nmX7 hown hK hI hm hM hS 3 0 3 (by decide) rfl rfl (by decide) (hts _ gm_56) (fun _ h9 => h9) rfl (x_61 : Int32) rfl (by decide +kernel) rfl rfl (Nat.le_of_ble_eq_true rfl) dX7_readRun_88 (fun st_62 H locs est_62 hM hS => ?_)
                have hB_st_62 : gBN bX kX [301, 303] st st_62 := by rw [est_62]; exact hB_sv3.up (show (303 : Nat) ∈ _ from by decide) (show (0 : Int) ≤ x_61.toInt from by omega) (show x_61.toInt ≤ (801 : Int) from by omega)
                refine lv_goto (tgt := 12) hx hb dX7_readRun_91 (by decide) ?_
                exact ih_3 st_62 (x_53 : Int32) (x_59 : Int32) H _ ls (by have hq0 : (st_62 3 0 3).toInt = (x_61 : Int32).toInt := congrArg Int32.toInt (((congrFun (congrFun (congrFun est_62 3) 0) 3).trans (gU_same _ _ _ _ _))); have hb1 : (0 : Int) ≤ (st_62 3 0 3).toInt ∧ (st_62 3 0 3).toInt ≤ (801 : Int) := hB_st_62.1 3 0 3; omega) hB_st_62 (by have h9 : (st_62 3 0 3).toInt = x_61.toInt := (congrArg Int32.toInt (((congrFun (congrFun (congrFun est_62 3) 0) 3).trans (gU_same _ _ _ _ _)))); omega) (by have h9 : (st_62 3 0 3).toInt = x_61.toInt := (congrArg Int32.toInt (((congrFun (congrFun (congrFun est_62 3) 0) 3).trans (gU_same _ _ _ _ _)))); rw [ctT_step (cl := dgB) (s := (st 3 0 2).toInt) (a := (sv3 3 0 3).toInt) (by omega) (by omega)]; have h8 := dgI (bA F N (sv3 3 0 3).toInt); omega) (by have h9 : (st_62 3 0 3).toInt = x_61.toInt := (congrArg Int32.toInt (((congrFun (congrFun (congrFun est_62 3) 0) 3).trans (gU_same _ _ _ _ _)))); rw [ctT_step (cl := smB) (s := (st 3 0 2).toInt) (a := (sv3 3 0 3).toInt) (by omega) (by omega)]; have h8 := smI (bA F N (sv3 3 0 3).toInt); omega) (by have h9 : (st_62 3 0 3).toInt = x_61.toInt := (congrArg Int32.toInt (((congrFun (congrFun (congrFun est_62 3) 0) 3).trans (gU_same _ _ _ _ _)))); rw [show (st_62 3 0 3).toInt = (sv3 3 0 3).toInt + 1 by omega, tEnd_go (by omega) (crB_t (by omega))]; exact hv3_3) hM hS (lv_sub hl [0, 1, 3] rfl)
          · skip
            refine lv_if_ne (tgt := 51) hx hb dX7_readRun_45 (by decide) (fun h9 => absurd (by decide) h9) (fun _ => ?_)
            refine lv_goto (tgt := 94) hx hb dX7_readRun_48 (by decide) ?_
            refine lv_aload_n hx hb dX7_readRun_94 rfl (lv_at hl 3 rfl) ?_
            refine gs_get (C := RX7) (T := TX7) (N := 6) hx hb hts inX7 hown hK hM 3 0 3 (by decide) rfl rfl (by decide) (hts _ gm_56) (fun _ h9 => h9) rfl dX7_readRun_95 ?_
            have bf_63 : (0 : Int) ≤ (sv3 3 0 3).toInt ∧ (sv3 3 0 3).toInt ≤ (801 : Int) := hB_sv3.1 3 0 3
            refine lv_aload_n hx hb dX7_readRun_98 rfl (lv_at hl 3 rfl) ?_
            refine gs_get (C := RX7) (T := TX7) (N := 6) hx hb hts inX7 hown hK hM 3 0 2 (by decide) rfl rfl (by decide) (hts _ gm_55) (fun _ h9 => h9) rfl dX7_readRun_99 ?_
            refine lv_topi (fun x_64 ex_64 => ?_)
            have ex_64 : (st 3 0 2) = x_64 := Eq.symm (ex_64.trans (hB_sv3.2 3 0 2 (show (302 : Nat) ∉ _ from by decide)))
            subst ex_64
            have bf_65 : (0 : Int) ≤ (st 3 0 2).toInt ∧ (st 3 0 2).toInt ≤ (800 : Int) := hB_st.1 3 0 2
            refine lv_isub hx hb dX7_readRun_102 ?_
            refine lv_topi (fun x_66 ex_66 => ?_)
            try have tx_66 : x_66.toInt = (sv3 3 0 3).toInt - (st 3 0 2).toInt := by rw [ex_66]; exact gz_subI (x := (sv3 3 0 3).toInt) (y := (st 3 0 2).toInt) rfl rfl (by omega) (by omega)
            refine lv_istore_n (lv' := [(3, .int x_66), (2, .int y3_1), (1, .int y3_0), (0, .ref (ad 3 0))]) hx hb dX7_readRun_103 rfl hl (by decide) rfl (fun ls hl => ?_)
            refine lv_iload_n hx hb dX7_readRun_104 rfl (lv_at hl 1 rfl) ?_
            refine lv_iload_n hx hb dX7_readRun_105 rfl (lv_at hl 0 rfl) ?_
            refine lv_icmp_ne (tgt := 117) hx hb dX7_readRun_106 (by decide) (fun c_67 => ?_) (fun c_67 => ?_)
            · have ic_67 := gz_ne (rfl : y3_1.toInt = y3_1.toInt) (rfl : x_66.toInt = x_66.toInt) c_67
              refine lv_aload_n hx hb dX7_readRun_117 rfl (lv_at hl 3 rfl) ?_
              refine lv_iload_n hx hb dX7_readRun_118 rfl (lv_at hl 2 rfl) ?_
              refine lv_iload_n hx hb dX7_readRun_119 rfl (lv_at hl 0 rfl) ?_
              refine lv_icmp_ne (tgt := 132) hx hb dX7_readRun_120 (by decide) (fun c_68 => ?_) (fun c_68 => ?_)
              · have ic_68 := gz_ne (rfl : y3_0.toInt = y3_0.toInt) (rfl : x_66.toInt = x_66.toInt) c_68
                refine lv_iconst (v := 1) hx hb dX7_readRun_132 (by decide) ?_
                refine gs_put (C := RX7) (T := TX7) (N := 6) (ty := .int) (val := .int 1) hx hb hts inX7 tyX7 tyX7_ok nmX7 hown hK hI hm hM hS 3 0 1 (by decide) rfl rfl (by decide) (hts _ gm_54) (fun _ h9 => h9) rfl (1 : Int32) rfl (by decide +kernel) rfl rfl (Nat.le_of_ble_eq_true rfl) dX7_readRun_133 (fun st_69 H locs est_69 hM hS => ?_)
                have hB_st_69 : gBN bX kX [301, 303] st st_69 := by rw [est_69]; exact hB_sv3.up (show (301 : Nat) ∈ _ from by decide) (gi_lo _) (gi_hi _)
                rw [← hQe]
                exact gs_vret hx hb hr hlocks hM hS ⟨hB_st_69, (by have h9 : (st_69 3 0 3).toInt = (sv3 3 0 3).toInt := (congrArg Int32.toInt (((congrFun (congrFun (congrFun est_69 3) 0) 3).trans (gU_other (by decide))))); omega), (by have h9 : (st_69 3 0 3).toInt = (sv3 3 0 3).toInt := (congrArg Int32.toInt (((congrFun (congrFun (congrFun est_69 3) 0) 3).trans (gU_other (by decide))))); have h8 := hv3_3; rw [tEnd_no (p := (sv3 3 0 3).toInt) (by first | exact Or.inl (by omega) | exact Or.inr (crB_f (by omega)))] at h8; omega), (by have h9 : (st_69 3 0 3).toInt = (sv3 3 0 3).toInt := (congrArg Int32.toInt (((congrFun (congrFun (congrFun est_69 3) 0) 3).trans (gU_other (by decide))))); rw [show (st_69 3 0 1).toInt = 1 from ((congrArg Int32.toInt (((congrFun (congrFun (congrFun est_69 3) 0) 1).trans (gU_same _ _ _ _ _)))).trans (by decide)), h9]; exact (kdT_1 (by omega) (by omega)).symm)⟩ (by exact Nat.le_refl _) (by exact Nat.le_refl _) dX7_readRun_136
              · have ic_68 := gz_eqn (rfl : y3_0.toInt = y3_0.toInt) (rfl : x_66.toInt = x_66.toInt) c_68
                refine lv_iload_n hx hb dX7_readRun_123 rfl (lv_at hl 0 rfl) ?_
                refine lv_iconst (v := 4) hx hb dX7_readRun_124 (by decide) ?_
                refine lv_icmp_gt (tgt := 132) hx hb dX7_readRun_125 (by decide) (fun c_70 => ?_) (fun c_70 => ?_)
                · have ic_70 := gz_lt (by decide : (4 : Int32).toInt = 4) (rfl : x_66.toInt = x_66.toInt) c_70
                  refine lv_iconst (v := 1) hx hb dX7_readRun_132 (by decide) ?_
                  refine gs_put (C := RX7) (T := TX7) (N := 6) (ty := .int) (val := .int 1) hx hb hts inX7 tyX7 tyX7_ok nmX7 hown hK hI hm hM hS 3 0 1 (by decide) rfl rfl (by decide) (hts _ gm_54) (fun _ h9 => h9) rfl (1 : Int32) rfl (by decide +kernel) rfl rfl (Nat.le_of_ble_eq_true rfl) dX7_readRun_133 (fun st_71 H locs est_71 hM hS => ?_)
                  have hB_st_71 : gBN bX kX [301, 303] st st_71 := by rw [est_71]; exact hB_sv3.up (show (301 : Nat) ∈ _ from by decide) (gi_lo _) (gi_hi _)
                  rw [← hQe]
                  exact gs_vret hx hb hr hlocks hM hS ⟨hB_st_71, (by have h9 : (st_71 3 0 3).toInt = (sv3 3 0 3).toInt := (congrArg Int32.toInt (((congrFun (congrFun (congrFun est_71 3) 0) 3).trans (gU_other (by decide))))); omega), (by have h9 : (st_71 3 0 3).toInt = (sv3 3 0 3).toInt := (congrArg Int32.toInt (((congrFun (congrFun (congrFun est_71 3) 0) 3).trans (gU_other (by decide))))); have h8 := hv3_3; rw [tEnd_no (p := (sv3 3 0 3).toInt) (by first | exact Or.inl (by omega) | exact Or.inr (crB_f (by omega)))] at h8; omega), (by have h9 : (st_71 3 0 3).toInt = (sv3 3 0 3).toInt := (congrArg Int32.toInt (((congrFun (congrFun (congrFun est_71 3) 0) 3).trans (gU_other (by decide))))); rw [show (st_71 3 0 1).toInt = 1 from ((congrArg Int32.toInt (((congrFun (congrFun (congrFun est_71 3) 0) 1).trans (gU_same _ _ _ _ _)))).trans (by decide)), h9]; exact (kdT_1 (by omega) (by omega)).symm)⟩ (by exact Nat.le_refl _) (by exact Nat.le_refl _) dX7_readRun_136
                · have ic_70 := gz_nlt (by decide : (4 : Int32).toInt = 4) (rfl : x_66.toInt = x_66.toInt) c_70
                  refine lv_iconst (v := 3) hx hb dX7_readRun_128 (by decide) ?_
                  refine lv_goto (tgt := 133) hx hb dX7_readRun_129 (by decide) ?_
                  refine gs_put (C := RX7) (T := TX7) (N := 6) (ty := .int) (val := .int 3) hx hb hts inX7 tyX7 tyX7_ok nmX7 hown hK hI hm hM hS 3 0 1 (by decide) rfl rfl (by decide) (hts _ gm_54) (fun _ h9 => h9) rfl (3 : Int32) rfl (by decide +kernel) rfl rfl (Nat.le_of_ble_eq_true rfl) dX7_readRun_133 (fun st_72 H locs est_72 hM hS => ?_)
                  have hB_st_72 : gBN bX kX [301, 303] st st_72 := by rw [est_72]; exact hB_sv3.up (show (301 : Nat) ∈ _ from by decide) (gi_lo _) (gi_hi _)
                  rw [← hQe]
                  exact gs_vret hx hb hr hlocks hM hS ⟨hB_st_72, (by have h9 : (st_72 3 0 3).toInt = (sv3 3 0 3).toInt := (congrArg Int32.toInt (((congrFun (congrFun (congrFun est_72 3) 0) 3).trans (gU_other (by decide))))); omega), (by have h9 : (st_72 3 0 3).toInt = (sv3 3 0 3).toInt := (congrArg Int32.toInt (((congrFun (congrFun (congrFun est_72 3) 0) 3).trans (gU_other (by decide))))); have h8 := hv3_3; rw [tEnd_no (p := (sv3 3 0 3).toInt) (by first | exact Or.inl (by omega) | exact Or.inr (crB_f (by omega)))] at h8; omega), (by have h9 : (st_72 3 0 3).toInt = (sv3 3 0 3).toInt := (congrArg Int32.toInt (((congrFun (congrFun (congrFun est_72 3) 0) 3).trans (gU_other (by decide))))); rw [show (st_72 3 0 1).toInt = 3 from ((congrArg Int32.toInt (((congrFun (congrFun (congrFun est_72 3) 0) 1).trans (gU_same _ _ _ _ _)))).trans (by decide)), h9]; exact (kdT_3 (by omega) (by omega) (by omega)).symm)⟩ (by exact Nat.le_refl _) (by exact Nat.le_refl _) dX7_readRun_136
            · have ic_67 := gz_eqn (rfl : y3_1.toInt = y3_1.toInt) (rfl : x_66.toInt = x_66.toInt) c_67
              refine lv_aload_n hx hb dX7_readRun_109 rfl (lv_at hl 3 rfl) ?_
              refine lv_iconst (v := 2) hx hb dX7_readRun_110 (by decide) ?_
              refine gs_put (C := RX7) (T := TX7) (N := 6) (ty := .int) (val := .int 2) hx hb hts inX7 tyX7 tyX7_ok nmX7 hown hK hI hm hM hS 3 0 1 (by decide) rfl rfl (by decide) (hts _ gm_54) (fun _ h9 => h9) rfl (2 : Int32) rfl (by decide +kernel) rfl rfl (Nat.le_of_ble_eq_true rfl) dX7_readRun_111 (fun st_73 H locs est_73 hM hS => ?_)
              have hB_st_73 : gBN bX kX [301, 303] st st_73 := by rw [est_73]; exact hB_sv3.up (show (301 : Nat) ∈ _ from by decide) (gi_lo _) (gi_hi _)
              refine lv_goto (tgt := 136) hx hb dX7_readRun_114 (by decide) ?_
              rw [← hQe]
              exact gs_vret hx hb hr hlocks hM hS ⟨hB_st_73, (by have h9 : (st_73 3 0 3).toInt = (sv3 3 0 3).toInt := (congrArg Int32.toInt (((congrFun (congrFun (congrFun est_73 3) 0) 3).trans (gU_other (by decide))))); omega), (by have h9 : (st_73 3 0 3).toInt = (sv3 3 0 3).toInt := (congrArg Int32.toInt (((congrFun (congrFun (congrFun est_73 3) 0) 3).trans (gU_other (by decide))))); have h8 := hv3_3; rw [tEnd_no (p := (sv3 3 0 3).toInt) (by first | exact Or.inl (by omega) | exact Or.inr (crB_f (by omega)))] at h8; omega), (by have h9 : (st_73 3 0 3).toInt = (sv3 3 0 3).toInt := (congrArg Int32.toInt (((congrFun (congrFun (congrFun est_73 3) 0) 3).trans (gU_other (by decide))))); rw [show (st_73 3 0 1).toInt = 2 from ((congrArg Int32.toInt (((congrFun (congrFun (congrFun est_73 3) 0) 1).trans (gU_same _ _ _ _ _)))).trans (by decide)), h9]; exact (kdT_2 (by omega)).symm)⟩ (by exact Nat.le_refl _) (by exact Nat.le_refl _) dX7_readRun_136
  exact lp3 ((800 - (st_2 3 0 3).toInt).toNat + 1) st_2 ((0 : Int32) : Int32) ((0 : Int32) : Int32) H _ ls (Nat.lt_succ_self _) hB_st_2 (by have hl0 : (0 : Int32).toInt = 0 := (by decide); have hl1 : (0 : Int32).toInt = 0 := (by decide); have hb2 : (0 : Int) ≤ (st 3 0 2).toInt ∧ (st 3 0 2).toInt ≤ (800 : Int) := hB_st.1 3 0 2; have hq3 : (st_2 3 0 3).toInt = ((st 3 0 2) : Int32).toInt := congrArg Int32.toInt (((congrFun (congrFun (congrFun est_2 3) 0) 3).trans (gU_same _ _ _ _ _))); have hb4 : (0 : Int) ≤ (st_2 3 0 3).toInt ∧ (st_2 3 0 3).toInt ≤ (801 : Int) := hB_st_2.1 3 0 3; omega) (by have h9 : (st_2 3 0 3).toInt = (st 3 0 2).toInt := (congrArg Int32.toInt (((congrFun (congrFun (congrFun est_2 3) 0) 3).trans (gU_same _ _ _ _ _)))); rw [h9]; rw [Int.sub_self]; show (0 : Int32).toInt = 0; decide) (by have h9 : (st_2 3 0 3).toInt = (st 3 0 2).toInt := (congrArg Int32.toInt (((congrFun (congrFun (congrFun est_2 3) 0) 3).trans (gU_same _ _ _ _ _)))); rw [h9]; rw [Int.sub_self]; show (0 : Int32).toInt = 0; decide) (by have h9 : (st_2 3 0 3).toInt = (st 3 0 2).toInt := (congrArg Int32.toInt (((congrFun (congrFun (congrFun est_2 3) 0) 3).trans (gU_same _ _ _ _ _)))); rw [h9]) hM hS (lv_sub hl [0, 1, 2] rfl)

set_option maxHeartbeats 4000000 in
set_option maxRecDepth 100000 in
/-- WellCourt$Reader.advance -/
theorem s_X7_advance (l : Launch) (G : va_G) (cy : Nat → ClassId) (sK sV : Nat → Nat) (ad : Nat → Nat → Nat) (sz : Nat) (st : gS) (hB : gBd bX st) (F : Nat → Int32) (N : Int) (hF : st 2 0 = F) (hN : (st 1 0 1).toInt = N) (hst : (st 3 0 3).toInt ≤ 800) : gsMv l yX7_advance cX7_advance 2 ({ frames := 2, cells := 0, slots := 0, locals := 44 } : Room) G cy sK sV (shX cy ad) cnX ad sz [.ref (ad 3 0)] st (fun (u : gS) => gBN bX kX [301, 302, 303] st u ∧ ((cLex F N (st 3 0 3).toInt = ((u 3 0 1).toInt, (u 3 0 2).toInt, (u 3 0 3).toInt)) ∧ ((u 3 0 3).toInt ≤ 800))) := by
  refine gs_start (fun A => gsQv G (shX cy ad) cnX ad _ A) (by decide) (Nat.le_of_ble_eq_true rfl) ?_
  intro p e s m below meth c A ls H hx hb hr hml hlocks hown hts hK hov hE hI hM hm hS hA hl
  have hl : lv_has ls 2 [(0, .ref (ad 3 0))] := hl
  have hB_st : gBN bX kX [301, 302, 303] st st := gBN.rf hB
  generalize hQe : MQ below _ _ s _ _ A = Q
  refine lv_aload_n hx hb dX7_advance_0 rfl (lv_at hl 0 rfl) ?_
  refine lv_aload_n hx hb dX7_advance_1 rfl (lv_at hl 0 rfl) ?_
  refine gs_get (C := RX7) (T := TX7) (N := 6) hx hb hts inX7 hown hK hM 3 0 3 (by decide) rfl rfl (by decide) (hts _ gm_56) (fun _ h9 => h9) rfl dX7_advance_2 ?_
  have bf_1 : (0 : Int) ≤ (st 3 0 3).toInt ∧ (st 3 0 3).toInt ≤ (801 : Int) := hB_st.1 3 0 3
  refine gs_put (C := RX7) (T := TX7) (N := 6) (ty := .int) (val := .int (st 3 0 3)) hx hb hts inX7 tyX7 tyX7_ok nmX7 hown hK hI hm hM hS 3 0 2 (by decide) rfl rfl (by decide) (hts _ gm_55) (fun _ h9 => h9) rfl ((st 3 0 3) : Int32) rfl (by decide +kernel) rfl rfl (Nat.le_of_ble_eq_true rfl) dX7_advance_5 (fun st_2 H locs est_2 hM hS => ?_)
  have hB_st_2 : gBN bX kX [301, 302, 303] st st_2 := by rw [est_2]; exact hB_st.up (show (302 : Nat) ∈ _ from by decide) (show (0 : Int) ≤ (st 3 0 3).toInt from by omega) (show (st 3 0 3).toInt ≤ (800 : Int) from by omega)
  have lp3 : ∀ (n3 : Nat) (sv3 : gS)  (H : Heap) (locs : List Loc) (ls : Array Slot), (800 - (sv3 3 0 2).toInt).toNat < n3 → gBN bX kX [301, 302, 303] st sv3 → (tEnd F N blB (sv3 3 0 2).toInt = tEnd F N blB (st 3 0 3).toInt) → gM G (shX cy ad) cnX ad sv3 H → va_S A s.heap H locs → lv_has ls 2 [(0, .ref (ad 3 0))] → W p l e ({ frames := 2, cells := 0, slots := 0, locals := 44 } : Room) s m [.ref (ad 3 0)].toArray below meth c H locs 0 0 Q (F0 m 8 ls []) := by
    intro n3
    induction n3 with
    | zero => intro sv3  H locs ls h9; exact absurd h9 (Nat.not_lt_zero _)
    | succ n3 ih_3 =>
      intro sv3  H locs ls hme3 hB_sv3 hv3_0 hM hS hl
      have hb3_0 : (0 : Int) ≤ (sv3 3 0 2).toInt ∧ (sv3 3 0 2).toInt ≤ (800 : Int) := hB_sv3.1 3 0 2
      have hb3_1 : (0 : Int) ≤ (st 3 0 3).toInt ∧ (st 3 0 3).toInt ≤ (801 : Int) := hB_st.1 3 0 3
      refine lv_aload_n hx hb dX7_advance_8 rfl (lv_at hl 0 rfl) ?_
      refine gs_get (C := RX7) (T := TX7) (N := 6) hx hb hts inX7 hown hK hM 3 0 2 (by decide) rfl rfl (by decide) (hts _ gm_55) (fun _ h9 => h9) rfl dX7_advance_9 ?_
      have bf_4 : (0 : Int) ≤ (sv3 3 0 2).toInt ∧ (sv3 3 0 2).toInt ≤ (800 : Int) := hB_sv3.1 3 0 2
      refine lv_sipush (v := 800) hx hb dX7_advance_12 (by decide) ?_
      refine lv_icmp_ge (tgt := 48) hx hb dX7_advance_15 (by decide) (fun c_5 => ?_) (fun c_5 => ?_)
      · have ic_5 := gz_le (by decide : (800 : Int32).toInt = 800) (rfl : (sv3 3 0 2).toInt = (sv3 3 0 2).toInt) c_5
        refine lv_aload_n hx hb dX7_advance_48 rfl (lv_at hl 0 rfl) ?_
        refine gs_get (C := RX7) (T := TX7) (N := 6) hx hb hts inX7 hown hK hM 3 0 0 (by decide) rfl rfl (by decide) (hts _ gm_53) (fun _ h9 => h9) rfl dX7_advance_49 ?_
        refine lv_aload_n hx hb dX7_advance_52 rfl (lv_at hl 0 rfl) ?_
        refine gs_get (C := RX7) (T := TX7) (N := 6) hx hb hts inX7 hown hK hM 3 0 2 (by decide) rfl rfl (by decide) (hts _ gm_55) (fun _ h9 => h9) rfl dX7_advance_53 ?_
        have bf_6 : (0 : Int) ≤ (sv3 3 0 2).toInt ∧ (sv3 3 0 2).toInt ≤ (800 : Int) := hB_sv3.1 3 0 2
        refine gs_calli (va_runV (As := [.int (sv3 3 0 2)]) (rest := []) ⟨hx, hb, hml, hown, hts⟩ (s_X8_byteAt l G cy sK sV ad H.size sv3 hB_sv3.1 (sv3 3 0 2) ((sv3 3 0 2).toInt) rfl F N (((funext (fun j9 => hB_sv3.2 2 0 j9 (show (200 : Nat) ∉ _ from by decide))).trans rfl).trans hF) ((congrArg Int32.toInt ((hB_sv3.2 1 0 1 (show (101 : Nat) ∉ _ from by decide)))).trans hN)) ⟨(gz_cb (n := 1) hts gm_371 gm_2 gm_374 ⟨by decide +kernel, by decide +kernel, by decide +kernel⟩ ⟨Nat.le_of_ble_eq_true rfl, Nat.le_of_ble_eq_true rfl⟩), hts _ gm_372, hts _ gm_373⟩ (gs_preV hK hov hE hI hM hm hS hA 1 0 (by decide) rfl rfl) rfl rfl hl.1 rfl (lv_room (Nat.le_of_ble_eq_true rfl)) dX7_advance_56 ⟨Nat.le_of_ble_eq_true rfl, Nat.le_of_ble_eq_true rfl⟩) hm hS hA (fun r_7 st_7 H locs hw_7 hM hS => ?_)
        obtain ⟨n_7, hw_7⟩ := hw_7
        have n_7 := gBN.nil n_7
        subst n_7
        have hbhw_70 : (0 : Int) ≤ (sv3 3 0 2).toInt ∧ (sv3 3 0 2).toInt ≤ (800 : Int) := hB_sv3.1 3 0 2
        have hqhw_71 : (sv3 1 0 1).toInt = ((st 1 0 1) : Int32).toInt := congrArg Int32.toInt ((hB_sv3.2 1 0 1 (show (101 : Nat) ∉ _ from by decide)))
        have hbhw_72 : (0 : Int) ≤ (sv3 1 0 1).toInt ∧ (sv3 1 0 1).toInt ≤ (800 : Int) := hB_sv3.1 1 0 1
        obtain ⟨hw_7_0, hw_7_1, hw_7_2, hw_7_3⟩ := hw_7
        refine lv_istore_n (lv' := [(1, .int r_7), (0, .ref (ad 3 0))]) hx hb dX7_advance_59 rfl hl (by decide) rfl (fun ls hl => ?_)
        refine lv_aload_n hx hb dX7_advance_60 rfl (lv_at hl 1 rfl) ?_
        refine lv_aload_n hx hb dX7_advance_61 rfl (lv_at hl 1 rfl) ?_
        refine gs_get (C := RX7) (T := TX7) (N := 6) hx hb hts inX7 hown hK hM 3 0 2 (by decide) rfl rfl (by decide) (hts _ gm_55) (fun _ h9 => h9) rfl dX7_advance_62 ?_
        have bf_8 : (0 : Int) ≤ (sv3 3 0 2).toInt ∧ (sv3 3 0 2).toInt ≤ (800 : Int) := hB_sv3.1 3 0 2
        refine lv_iconst (v := 1) hx hb dX7_advance_65 (by decide) ?_
        refine lv_iadd hx hb dX7_advance_66 ?_
        refine lv_topi (fun x_9 ex_9 => ?_)
        try have tx_9 : x_9.toInt = (sv3 3 0 2).toInt + 1 := by rw [ex_9]; exact gz_addP (x := (sv3 3 0 2).toInt) (y := 1) rfl (by decide) (by omega) (by omega)
        refine gs_put (C := RX7) (T := TX7) (N := 6) (ty := .int) (val := .int x_9) hx hb hts inX7 tyX7 tyX7_ok nmX7 hown hK hI hm hM hS 3 0 3 (by decide) rfl rfl (by decide) (hts _ gm_56) (fun _ h9 => h9) rfl (x_9 : Int32) rfl (by decide +kernel) rfl rfl (Nat.le_of_ble_eq_true rfl) dX7_advance_67 (fun st_10 H locs est_10 hM hS => ?_)
        have hB_st_10 : gBN bX kX [301, 302, 303] st st_10 := by rw [est_10]; exact hB_sv3.up (show (303 : Nat) ∈ _ from by decide) (show (0 : Int) ≤ x_9.toInt from by omega) (show x_9.toInt ≤ (801 : Int) from by omega)
        refine lv_iload_n hx hb dX7_advance_70 rfl (lv_at hl 0 rfl) ?_
        refine lv_iconst (v := (-1)) hx hb dX7_advance_71 (by decide) ?_
        refine lv_icmp_ne (tgt := 91) hx hb dX7_advance_72 (by decide) (fun c_11 => ?_) (fun c_11 => ?_)
        · have ic_11 := gz_ne (rfl : r_7.toInt = r_7.toInt) (by decide : ((-1) : Int32).toInt = -1) c_11
          refine lv_iload_n hx hb dX7_advance_91 rfl (lv_at hl 0 rfl) ?_
          refine lv_bipush (v := 58) hx hb dX7_advance_92 (by decide) ?_
          refine lv_icmp_eq (tgt := 109) hx hb dX7_advance_94 (by decide) (fun c_12 => ?_) (fun c_12 => ?_)
          · have ic_12 := gz_eq (rfl : r_7.toInt = r_7.toInt) (by decide : (58 : Int32).toInt = 58) c_12
            refine lv_aload_n hx hb dX7_advance_109 rfl (lv_at hl 1 rfl) ?_
            refine lv_iconst (v := 4) hx hb dX7_advance_110 (by decide) ?_
            refine gs_put (C := RX7) (T := TX7) (N := 6) (ty := .int) (val := .int 4) hx hb hts inX7 tyX7 tyX7_ok nmX7 hown hK hI hm hM hS 3 0 1 (by decide) rfl rfl (by decide) (hts _ gm_54) (fun _ h9 => h9) rfl (4 : Int32) rfl (by decide +kernel) rfl rfl (Nat.le_of_ble_eq_true rfl) dX7_advance_111 (fun st_13 H locs est_13 hM hS => ?_)
            have hB_st_13 : gBN bX kX [301, 302, 303] st st_13 := by rw [est_13]; exact hB_st_10.up (show (301 : Nat) ∈ _ from by decide) (gi_lo _) (gi_hi _)
            refine lv_goto (tgt := 143) hx hb dX7_advance_114 (by decide) ?_
            rw [← hQe]
            exact gs_vret hx hb hr hlocks hM hS ⟨hB_st_13, (by rw [show (st_13 3 0 1).toInt = 4 from ((congrArg Int32.toInt (((congrFun (congrFun (congrFun est_13 3) 0) 1).trans (gU_same _ _ _ _ _)))).trans (by decide)), show (st_13 3 0 2).toInt = (sv3 3 0 2).toInt from (congrArg Int32.toInt ((((congrFun (congrFun (congrFun est_13 3) 0) 2).trans (gU_other (by decide))).trans ((congrFun (congrFun (congrFun est_10 3) 0) 2).trans (gU_other (by decide)))))), show (st_13 3 0 3).toInt = x_9.toInt from (congrArg Int32.toInt ((((congrFun (congrFun (congrFun est_13 3) 0) 3).trans (gU_other (by decide))).trans ((congrFun (congrFun (congrFun est_10 3) 0) 3).trans (gU_same _ _ _ _ _)))))]; rw [show x_9.toInt = (sv3 3 0 2).toInt + 1 by omega]; exact cLex_sg (by have h8 := hv3_0; rw [tEnd_no (p := (sv3 3 0 2).toInt) (by first | exact Or.inl (by omega) | exact Or.inr (blB_f (by omega)))] at h8; exact h8.symm) (by omega)), (by have hq0 : (st_13 3 0 3).toInt = (x_9 : Int32).toInt := congrArg Int32.toInt ((((congrFun (congrFun (congrFun est_13 3) 0) 3).trans (gU_other (by decide))).trans ((congrFun (congrFun (congrFun est_10 3) 0) 3).trans (gU_same _ _ _ _ _)))); have hb1 : (0 : Int) ≤ (st_13 3 0 3).toInt ∧ (st_13 3 0 3).toInt ≤ (801 : Int) := hB_st_13.1 3 0 3; omega)⟩ (by exact Nat.le_refl _) (by exact Nat.le_refl _) dX7_advance_143
          · have ic_12 := gz_ne (rfl : r_7.toInt = r_7.toInt) (by decide : (58 : Int32).toInt = 58) c_12
            refine lv_iload_n hx hb dX7_advance_97 rfl (lv_at hl 0 rfl) ?_
            refine lv_bipush (v := 44) hx hb dX7_advance_98 (by decide) ?_
            refine lv_icmp_eq (tgt := 109) hx hb dX7_advance_100 (by decide) (fun c_14 => ?_) (fun c_14 => ?_)
            · have ic_14 := gz_eq (rfl : r_7.toInt = r_7.toInt) (by decide : (44 : Int32).toInt = 44) c_14
              refine lv_aload_n hx hb dX7_advance_109 rfl (lv_at hl 1 rfl) ?_
              refine lv_iconst (v := 4) hx hb dX7_advance_110 (by decide) ?_
              refine gs_put (C := RX7) (T := TX7) (N := 6) (ty := .int) (val := .int 4) hx hb hts inX7 tyX7 tyX7_ok nmX7 hown hK hI hm hM hS 3 0 1 (by decide) rfl rfl (by decide) (hts _ gm_54) (fun _ h9 => h9) rfl (4 : Int32) rfl (by decide +kernel) rfl rfl (Nat.le_of_ble_eq_true rfl) dX7_advance_111 (fun st_15 H locs est_15 hM hS => ?_)
              have hB_st_15 : gBN bX kX [301, 302, 303] st st_15 := by rw [est_15]; exact hB_st_10.up (show (301 : Nat) ∈ _ from by decide) (gi_lo _) (gi_hi _)
              refine lv_goto (tgt := 143) hx hb dX7_advance_114 (by decide) ?_
              rw [← hQe]
              exact gs_vret hx hb hr hlocks hM hS ⟨hB_st_15, (by rw [show (st_15 3 0 1).toInt = 4 from ((congrArg Int32.toInt (((congrFun (congrFun (congrFun est_15 3) 0) 1).trans (gU_same _ _ _ _ _)))).trans (by decide)), show (st_15 3 0 2).toInt = (sv3 3 0 2).toInt from (congrArg Int32.toInt ((((congrFun (congrFun (congrFun est_15 3) 0) 2).trans (gU_other (by decide))).trans ((congrFun (congrFun (congrFun est_10 3) 0) 2).trans (gU_other (by decide)))))), show (st_15 3 0 3).toInt = x_9.toInt from (congrArg Int32.toInt ((((congrFun (congrFun (congrFun est_15 3) 0) 3).trans (gU_other (by decide))).trans ((congrFun (congrFun (congrFun est_10 3) 0) 3).trans (gU_same _ _ _ _ _)))))]; rw [show x_9.toInt = (sv3 3 0 2).toInt + 1 by omega]; exact cLex_sg (by have h8 := hv3_0; rw [tEnd_no (p := (sv3 3 0 2).toInt) (by first | exact Or.inl (by omega) | exact Or.inr (blB_f (by omega)))] at h8; exact h8.symm) (by omega)), (by have hq0 : (st_15 3 0 3).toInt = (x_9 : Int32).toInt := congrArg Int32.toInt ((((congrFun (congrFun (congrFun est_15 3) 0) 3).trans (gU_other (by decide))).trans ((congrFun (congrFun (congrFun est_10 3) 0) 3).trans (gU_same _ _ _ _ _)))); have hb1 : (0 : Int) ≤ (st_15 3 0 3).toInt ∧ (st_15 3 0 3).toInt ≤ (801 : Int) := hB_st_15.1 3 0 3; omega)⟩ (by exact Nat.le_refl _) (by exact Nat.le_refl _) dX7_advance_143
            · have ic_14 := gz_ne (rfl : r_7.toInt = r_7.toInt) (by decide : (44 : Int32).toInt = 44) c_14
              refine lv_iload_n hx hb dX7_advance_103 rfl (lv_at hl 0 rfl) ?_
              refine lv_bipush (v := 59) hx hb dX7_advance_104 (by decide) ?_
              refine lv_icmp_ne (tgt := 117) hx hb dX7_advance_106 (by decide) (fun c_16 => ?_) (fun c_16 => ?_)
              · have ic_16 := gz_ne (rfl : r_7.toInt = r_7.toInt) (by decide : (59 : Int32).toInt = 59) c_16
                refine lv_iload_n hx hb dX7_advance_117 rfl (lv_at hl 0 rfl) ?_
                refine gs_calli (va_runS (As := [.int r_7]) (rest := []) ⟨hx, hb, hml, hown, hts⟩ (s_X7_isDigit l G cy sK sV ad H.size st_10 hB_st_10.1 r_7 r_7.toInt rfl ) ⟨(gz_cb (n := 1) hts gm_378 gm_3 gm_380 ⟨by decide +kernel, by decide +kernel, by decide +kernel⟩ ⟨Nat.le_of_ble_eq_true rfl, Nat.le_of_ble_eq_true rfl⟩), hts _ gm_379⟩ (gs_preS hK hov hE hI hM hm hS hA) rfl rfl hl.1 rfl (lv_room (Nat.le_of_ble_eq_true rfl)) dX7_advance_118 ⟨Nat.le_of_ble_eq_true rfl, Nat.le_of_ble_eq_true rfl⟩) hm hS hA (fun r_17 st_17 H locs hw_17 hM hS => ?_)
                obtain ⟨n_17, hw_17⟩ := hw_17
                have n_17 := gBN.nil n_17
                subst n_17
                rcases hw_17 with ⟨rfl, hw_17_0, hw_17_1⟩ | ⟨rfl, hw_17_0⟩
                · skip
                  refine lv_if_ne (tgt := 131) hx hb dX7_advance_121 (by decide) (fun _ => ?_) (fun h9 => absurd h9 (by decide))
                  refine lv_aload_n hx hb dX7_advance_131 rfl (lv_at hl 1 rfl) ?_
                  refine gs_callv (va_runV (As := []) (rest := []) ⟨hx, hb, hml, hown, hts⟩ (s_X7_readRun l G cy sK sV ad H.size st_10 hB_st_10.1  F N (((congrFun (congrFun est_10 2) 0).trans ((congrFun (gU_k (by decide)) 0).trans ((funext (fun j9 => hB_sv3.2 2 0 j9 (show (200 : Nat) ∉ _ from by decide))).trans rfl))).trans hF) ((congrArg Int32.toInt ((((congrFun (congrFun (congrFun est_10 1) 0) 1).trans (congrFun (congrFun (gU_k (by decide)) 0) 1)).trans (hB_sv3.2 1 0 1 (show (101 : Nat) ∉ _ from by decide))))).trans hN)) ⟨(gz_cb (n := 0) hts gm_384 gm_3 gm_387 ⟨by decide +kernel, by decide +kernel, by decide +kernel⟩ ⟨Nat.le_of_ble_eq_true rfl, Nat.le_of_ble_eq_true rfl⟩), hts _ gm_386, hts _ gs_1⟩ (gs_preV hK hov hE hI hM hm hS hA 3 0 (by decide) rfl rfl) rfl rfl hl.1 rfl (lv_room (Nat.le_of_ble_eq_true rfl)) dX7_advance_132 ⟨Nat.le_of_ble_eq_true rfl, Nat.le_of_ble_eq_true rfl⟩) hm hS hA (fun st_18 H locs hw_18 hM hS => ?_)
                  obtain ⟨n_18, hw_18⟩ := hw_18
                  have hB_st_18 : gBN bX kX [301, 302, 303] st st_18 := hB_st_10.call n_18 (by decide)
                  have hqhw_180 : (st_10 3 0 2).toInt = ((sv3 3 0 2) : Int32).toInt := congrArg Int32.toInt (((congrFun (congrFun (congrFun est_10 3) 0) 2).trans (gU_other (by decide))))
                  have hbhw_181 : (0 : Int) ≤ (st_10 3 0 2).toInt ∧ (st_10 3 0 2).toInt ≤ (800 : Int) := hB_st_10.1 3 0 2
                  obtain ⟨hw_18_0, hw_18_1, hw_18_2⟩ := hw_18
                  refine lv_goto (tgt := 143) hx hb dX7_advance_135 (by decide) ?_
                  rw [← hQe]
                  exact gs_vret hx hb hr hlocks hM hS ⟨hB_st_18, (by have h7 : (st_10 3 0 2).toInt = (sv3 3 0 2).toInt := (congrArg Int32.toInt (((congrFun (congrFun (congrFun est_10 3) 0) 2).trans (gU_other (by decide))))); have h6 := hw_18_1; have h5 := hw_18_2; rw [h7] at h6 h5; rw [show (st_18 3 0 2).toInt = (sv3 3 0 2).toInt from (congrArg Int32.toInt (((n_18.2 3 0 2 (show (302 : Nat) ∉ _ from by decide)).trans ((congrFun (congrFun (congrFun est_10 3) 0) 2).trans (gU_other (by decide))))))]; exact cLex_run (by have h8 := hv3_0; rw [tEnd_no (p := (sv3 3 0 2).toInt) (by first | exact Or.inl (by omega) | exact Or.inr (blB_f (by omega)))] at h8; exact h8.symm) (by omega) h6.symm h5.symm), (by have hb0 : (0 : Int) ≤ (st_18 3 0 3).toInt ∧ (st_18 3 0 3).toInt ≤ (801 : Int) := hB_st_18.1 3 0 3; omega)⟩ (by exact Nat.le_refl _) (by exact Nat.le_refl _) dX7_advance_143
                · skip
                  refine lv_if_ne (tgt := 131) hx hb dX7_advance_121 (by decide) (fun h9 => absurd (by decide) h9) (fun _ => ?_)
                  refine lv_iload_n hx hb dX7_advance_124 rfl (lv_at hl 0 rfl) ?_
                  refine gs_calli (va_runS (As := [.int r_7]) (rest := []) ⟨hx, hb, hml, hown, hts⟩ (s_X7_isLetter l G cy sK sV ad H.size st_10 hB_st_10.1 r_7 r_7.toInt rfl ) ⟨(gz_cb (n := 1) hts gm_381 gm_3 gm_383 ⟨by decide +kernel, by decide +kernel, by decide +kernel⟩ ⟨Nat.le_of_ble_eq_true rfl, Nat.le_of_ble_eq_true rfl⟩), hts _ gm_382⟩ (gs_preS hK hov hE hI hM hm hS hA) rfl rfl hl.1 rfl (lv_room (Nat.le_of_ble_eq_true rfl)) dX7_advance_125 ⟨Nat.le_of_ble_eq_true rfl, Nat.le_of_ble_eq_true rfl⟩) hm hS hA (fun r_19 st_19 H locs hw_19 hM hS => ?_)
                  obtain ⟨n_19, hw_19⟩ := hw_19
                  have n_19 := gBN.nil n_19
                  subst n_19
                  rcases hw_19 with ⟨rfl, hw_19_0⟩ | ⟨rfl, hw_19_0⟩
                  · skip
                    refine lv_if_eq (tgt := 138) hx hb dX7_advance_128 (by decide) (fun h9 => absurd h9 (by decide)) (fun _ => ?_)
                    refine lv_aload_n hx hb dX7_advance_131 rfl (lv_at hl 1 rfl) ?_
                    refine gs_callv (va_runV (As := []) (rest := []) ⟨hx, hb, hml, hown, hts⟩ (s_X7_readRun l G cy sK sV ad H.size st_10 hB_st_10.1  F N (((congrFun (congrFun est_10 2) 0).trans ((congrFun (gU_k (by decide)) 0).trans ((funext (fun j9 => hB_sv3.2 2 0 j9 (show (200 : Nat) ∉ _ from by decide))).trans rfl))).trans hF) ((congrArg Int32.toInt ((((congrFun (congrFun (congrFun est_10 1) 0) 1).trans (congrFun (congrFun (gU_k (by decide)) 0) 1)).trans (hB_sv3.2 1 0 1 (show (101 : Nat) ∉ _ from by decide))))).trans hN)) ⟨(gz_cb (n := 0) hts gm_384 gm_3 gm_387 ⟨by decide +kernel, by decide +kernel, by decide +kernel⟩ ⟨Nat.le_of_ble_eq_true rfl, Nat.le_of_ble_eq_true rfl⟩), hts _ gm_386, hts _ gs_1⟩ (gs_preV hK hov hE hI hM hm hS hA 3 0 (by decide) rfl rfl) rfl rfl hl.1 rfl (lv_room (Nat.le_of_ble_eq_true rfl)) dX7_advance_132 ⟨Nat.le_of_ble_eq_true rfl, Nat.le_of_ble_eq_true rfl⟩) hm hS hA (fun st_20 H locs hw_20 hM hS => ?_)
                    obtain ⟨n_20, hw_20⟩ := hw_20
                    have hB_st_20 : gBN bX kX [301, 302, 303] st st_20 := hB_st_10.call n_20 (by decide)
                    have hqhw_200 : (st_10 3 0 2).toInt = ((sv3 3 0 2) : Int32).toInt := congrArg Int32.toInt (((congrFun (congrFun (congrFun est_10 3) 0) 2).trans (gU_other (by decide))))
                    have hbhw_201 : (0 : Int) ≤ (st_10 3 0 2).toInt ∧ (st_10 3 0 2).toInt ≤ (800 : Int) := hB_st_10.1 3 0 2
                    obtain ⟨hw_20_0, hw_20_1, hw_20_2⟩ := hw_20
                    refine lv_goto (tgt := 143) hx hb dX7_advance_135 (by decide) ?_
                    rw [← hQe]
                    exact gs_vret hx hb hr hlocks hM hS ⟨hB_st_20, (by have h7 : (st_10 3 0 2).toInt = (sv3 3 0 2).toInt := (congrArg Int32.toInt (((congrFun (congrFun (congrFun est_10 3) 0) 2).trans (gU_other (by decide))))); have h6 := hw_20_1; have h5 := hw_20_2; rw [h7] at h6 h5; rw [show (st_20 3 0 2).toInt = (sv3 3 0 2).toInt from (congrArg Int32.toInt (((n_20.2 3 0 2 (show (302 : Nat) ∉ _ from by decide)).trans ((congrFun (congrFun (congrFun est_10 3) 0) 2).trans (gU_other (by decide))))))]; exact cLex_run (by have h8 := hv3_0; rw [tEnd_no (p := (sv3 3 0 2).toInt) (by first | exact Or.inl (by omega) | exact Or.inr (blB_f (by omega)))] at h8; exact h8.symm) (by omega) h6.symm h5.symm), (by have hb0 : (0 : Int) ≤ (st_20 3 0 3).toInt ∧ (st_20 3 0 3).toInt ≤ (801 : Int) := hB_st_20.1 3 0 3; omega)⟩ (by exact Nat.le_refl _) (by exact Nat.le_refl _) dX7_advance_143
                  · skip
                    refine lv_if_eq (tgt := 138) hx hb dX7_advance_128 (by decide) (fun _ => ?_) (fun h9 => absurd (by decide) h9)
                    refine lv_aload_n hx hb dX7_advance_138 rfl (lv_at hl 1 rfl) ?_
                    refine lv_iconst (v := 1) hx hb dX7_advance_139 (by decide) ?_
                    refine gs_put (C := RX7) (T := TX7) (N := 6) (ty := .int) (val := .int 1) hx hb hts inX7 tyX7 tyX7_ok nmX7 hown hK hI hm hM hS 3 0 1 (by decide) rfl rfl (by decide) (hts _ gm_54) (fun _ h9 => h9) rfl (1 : Int32) rfl (by decide +kernel) rfl rfl (Nat.le_of_ble_eq_true rfl) dX7_advance_140 (fun st_21 H locs est_21 hM hS => ?_)
                    have hB_st_21 : gBN bX kX [301, 302, 303] st st_21 := by rw [est_21]; exact hB_st_10.up (show (301 : Nat) ∈ _ from by decide) (gi_lo _) (gi_hi _)
                    rw [← hQe]
                    exact gs_vret hx hb hr hlocks hM hS ⟨hB_st_21, (by rw [show (st_21 3 0 1).toInt = 1 from ((congrArg Int32.toInt (((congrFun (congrFun (congrFun est_21 3) 0) 1).trans (gU_same _ _ _ _ _)))).trans (by decide)), show (st_21 3 0 2).toInt = (sv3 3 0 2).toInt from (congrArg Int32.toInt ((((congrFun (congrFun (congrFun est_21 3) 0) 2).trans (gU_other (by decide))).trans ((congrFun (congrFun (congrFun est_10 3) 0) 2).trans (gU_other (by decide)))))), show (st_21 3 0 3).toInt = x_9.toInt from (congrArg Int32.toInt ((((congrFun (congrFun (congrFun est_21 3) 0) 3).trans (gU_other (by decide))).trans ((congrFun (congrFun (congrFun est_10 3) 0) 3).trans (gU_same _ _ _ _ _)))))]; rw [show x_9.toInt = (sv3 3 0 2).toInt + 1 by omega]; exact cLex_no (by have h8 := hv3_0; rw [tEnd_no (p := (sv3 3 0 2).toInt) (by first | exact Or.inl (by omega) | exact Or.inr (blB_f (by omega)))] at h8; exact h8.symm) (by omega) (by omega) (by omega)), (by have hq0 : (st_21 3 0 3).toInt = (x_9 : Int32).toInt := congrArg Int32.toInt ((((congrFun (congrFun (congrFun est_21 3) 0) 3).trans (gU_other (by decide))).trans ((congrFun (congrFun (congrFun est_10 3) 0) 3).trans (gU_same _ _ _ _ _)))); have hb1 : (0 : Int) ≤ (st_21 3 0 3).toInt ∧ (st_21 3 0 3).toInt ≤ (801 : Int) := hB_st_21.1 3 0 3; omega)⟩ (by exact Nat.le_refl _) (by exact Nat.le_refl _) dX7_advance_143
              · have ic_16 := gz_eqn (rfl : r_7.toInt = r_7.toInt) (by decide : (59 : Int32).toInt = 59) c_16
                refine lv_aload_n hx hb dX7_advance_109 rfl (lv_at hl 1 rfl) ?_
                refine lv_iconst (v := 4) hx hb dX7_advance_110 (by decide) ?_
                refine gs_put (C := RX7) (T := TX7) (N := 6) (ty := .int) (val := .int 4) hx hb hts inX7 tyX7 tyX7_ok nmX7 hown hK hI hm hM hS 3 0 1 (by decide) rfl rfl (by decide) (hts _ gm_54) (fun _ h9 => h9) rfl (4 : Int32) rfl (by decide +kernel) rfl rfl (Nat.le_of_ble_eq_true rfl) dX7_advance_111 (fun st_22 H locs est_22 hM hS => ?_)
                have hB_st_22 : gBN bX kX [301, 302, 303] st st_22 := by rw [est_22]; exact hB_st_10.up (show (301 : Nat) ∈ _ from by decide) (gi_lo _) (gi_hi _)
                refine lv_goto (tgt := 143) hx hb dX7_advance_114 (by decide) ?_
                rw [← hQe]
                exact gs_vret hx hb hr hlocks hM hS ⟨hB_st_22, (by rw [show (st_22 3 0 1).toInt = 4 from ((congrArg Int32.toInt (((congrFun (congrFun (congrFun est_22 3) 0) 1).trans (gU_same _ _ _ _ _)))).trans (by decide)), show (st_22 3 0 2).toInt = (sv3 3 0 2).toInt from (congrArg Int32.toInt ((((congrFun (congrFun (congrFun est_22 3) 0) 2).trans (gU_other (by decide))).trans ((congrFun (congrFun (congrFun est_10 3) 0) 2).trans (gU_other (by decide)))))), show (st_22 3 0 3).toInt = x_9.toInt from (congrArg Int32.toInt ((((congrFun (congrFun (congrFun est_22 3) 0) 3).trans (gU_other (by decide))).trans ((congrFun (congrFun (congrFun est_10 3) 0) 3).trans (gU_same _ _ _ _ _)))))]; rw [show x_9.toInt = (sv3 3 0 2).toInt + 1 by omega]; exact cLex_sg (by have h8 := hv3_0; rw [tEnd_no (p := (sv3 3 0 2).toInt) (by first | exact Or.inl (by omega) | exact Or.inr (blB_f (by omega)))] at h8; exact h8.symm) (by omega)), (by have hq0 : (st_22 3 0 3).toInt = (x_9 : Int32).toInt := congrArg Int32.toInt ((((congrFun (congrFun (congrFun est_22 3) 0) 3).trans (gU_other (by decide))).trans ((congrFun (congrFun (congrFun est_10 3) 0) 3).trans (gU_same _ _ _ _ _)))); have hb1 : (0 : Int) ≤ (st_22 3 0 3).toInt ∧ (st_22 3 0 3).toInt ≤ (801 : Int) := hB_st_22.1 3 0 3; omega)⟩ (by exact Nat.le_refl _) (by exact Nat.le_refl _) dX7_advance_143
        · have ic_11 := gz_eqn (rfl : r_7.toInt = r_7.toInt) (by decide : ((-1) : Int32).toInt = -1) c_11
          refine lv_aload_n hx hb dX7_advance_75 rfl (lv_at hl 1 rfl) ?_
          refine lv_iconst (v := 0) hx hb dX7_advance_76 (by decide) ?_
          refine gs_put (C := RX7) (T := TX7) (N := 6) (ty := .int) (val := .int 0) hx hb hts inX7 tyX7 tyX7_ok nmX7 hown hK hI hm hM hS 3 0 1 (by decide) rfl rfl (by decide) (hts _ gm_54) (fun _ h9 => h9) rfl (0 : Int32) rfl (by decide +kernel) rfl rfl (Nat.le_of_ble_eq_true rfl) dX7_advance_77 (fun st_23 H locs est_23 hM hS => ?_)
          have hB_st_23 : gBN bX kX [301, 302, 303] st st_23 := by rw [est_23]; exact hB_st_10.up (show (301 : Nat) ∈ _ from by decide) (gi_lo _) (gi_hi _)
          refine lv_aload_n hx hb dX7_advance_80 rfl (lv_at hl 1 rfl) ?_
          refine lv_aload_n hx hb dX7_advance_81 rfl (lv_at hl 1 rfl) ?_
          refine gs_get (C := RX7) (T := TX7) (N := 6) hx hb hts inX7 hown hK hM 3 0 2 (by decide) rfl rfl (by decide) (hts _ gm_55) (fun _ h9 => h9) rfl dX7_advance_82 ?_
          refine lv_topi (fun x_24 ex_24 => ?_)
          have ex_24 : (sv3 3 0 2) = x_24 := Eq.symm (ex_24.trans (((congrFun (congrFun (congrFun est_23 3) 0) 2).trans (gU_other (by decide))).trans ((congrFun (congrFun (congrFun est_10 3) 0) 2).trans (gU_other (by decide)))))
          subst ex_24
          have bf_25 : (0 : Int) ≤ (sv3 3 0 2).toInt ∧ (sv3 3 0 2).toInt ≤ (800 : Int) := hB_sv3.1 3 0 2
          refine gs_put (C := RX7) (T := TX7) (N := 6) (ty := .int) (val := .int (sv3 3 0 2)) hx hb hts inX7 tyX7 tyX7_ok nmX7 hown hK hI hm hM hS 3 0 3 (by decide) rfl rfl (by decide) (hts _ gm_56) (fun _ h9 => h9) rfl ((sv3 3 0 2) : Int32) rfl (by decide +kernel) rfl rfl (Nat.le_of_ble_eq_true rfl) dX7_advance_85 (fun st_26 H locs est_26 hM hS => ?_)
          have hB_st_26 : gBN bX kX [301, 302, 303] st st_26 := by rw [est_26]; exact hB_st_23.up (show (303 : Nat) ∈ _ from by decide) (show (0 : Int) ≤ (sv3 3 0 2).toInt from by omega) (show (sv3 3 0 2).toInt ≤ (801 : Int) from by omega)
          refine lv_goto (tgt := 143) hx hb dX7_advance_88 (by decide) ?_
          rw [← hQe]
          exact gs_vret hx hb hr hlocks hM hS ⟨hB_st_26, (by rw [show (st_26 3 0 1).toInt = 0 from ((congrArg Int32.toInt ((((congrFun (congrFun (congrFun est_26 3) 0) 1).trans (gU_other (by decide))).trans ((congrFun (congrFun (congrFun est_23 3) 0) 1).trans (gU_same _ _ _ _ _))))).trans (by decide)), show (st_26 3 0 2).toInt = (sv3 3 0 2).toInt from (congrArg Int32.toInt ((((congrFun (congrFun (congrFun est_26 3) 0) 2).trans (gU_other (by decide))).trans (((congrFun (congrFun (congrFun est_23 3) 0) 2).trans (gU_other (by decide))).trans ((congrFun (congrFun (congrFun est_10 3) 0) 2).trans (gU_other (by decide))))))), show (st_26 3 0 3).toInt = (sv3 3 0 2).toInt from (congrArg Int32.toInt (((congrFun (congrFun (congrFun est_26 3) 0) 3).trans (gU_same _ _ _ _ _))))]; exact cLex_end (by have h8 := hv3_0; rw [tEnd_no (p := (sv3 3 0 2).toInt) (by first | exact Or.inl (by omega) | exact Or.inr (blB_f (by omega)))] at h8; exact h8.symm) (by omega)), (by have hq0 : (st_26 3 0 3).toInt = ((sv3 3 0 2) : Int32).toInt := congrArg Int32.toInt (((congrFun (congrFun (congrFun est_26 3) 0) 3).trans (gU_same _ _ _ _ _))); have hb1 : (0 : Int) ≤ (st_26 3 0 3).toInt ∧ (st_26 3 0 3).toInt ≤ (801 : Int) := hB_st_26.1 3 0 3; omega)⟩ (by exact Nat.le_refl _) (by exact Nat.le_refl _) dX7_advance_143
      · have ic_5 := gz_nle (by decide : (800 : Int32).toInt = 800) (rfl : (sv3 3 0 2).toInt = (sv3 3 0 2).toInt) c_5
        refine lv_aload_n hx hb dX7_advance_18 rfl (lv_at hl 0 rfl) ?_
        refine gs_get (C := RX7) (T := TX7) (N := 6) hx hb hts inX7 hown hK hM 3 0 0 (by decide) rfl rfl (by decide) (hts _ gm_53) (fun _ h9 => h9) rfl dX7_advance_19 ?_
        refine lv_aload_n hx hb dX7_advance_22 rfl (lv_at hl 0 rfl) ?_
        refine gs_get (C := RX7) (T := TX7) (N := 6) hx hb hts inX7 hown hK hM 3 0 2 (by decide) rfl rfl (by decide) (hts _ gm_55) (fun _ h9 => h9) rfl dX7_advance_23 ?_
        have bf_27 : (0 : Int) ≤ (sv3 3 0 2).toInt ∧ (sv3 3 0 2).toInt ≤ (800 : Int) := hB_sv3.1 3 0 2
        refine gs_calli (va_runV (As := [.int (sv3 3 0 2)]) (rest := []) ⟨hx, hb, hml, hown, hts⟩ (s_X8_byteAt l G cy sK sV ad H.size sv3 hB_sv3.1 (sv3 3 0 2) ((sv3 3 0 2).toInt) rfl F N (((funext (fun j9 => hB_sv3.2 2 0 j9 (show (200 : Nat) ∉ _ from by decide))).trans rfl).trans hF) ((congrArg Int32.toInt ((hB_sv3.2 1 0 1 (show (101 : Nat) ∉ _ from by decide)))).trans hN)) ⟨(gz_cb (n := 1) hts gm_371 gm_2 gm_374 ⟨by decide +kernel, by decide +kernel, by decide +kernel⟩ ⟨Nat.le_of_ble_eq_true rfl, Nat.le_of_ble_eq_true rfl⟩), hts _ gm_372, hts _ gm_373⟩ (gs_preV hK hov hE hI hM hm hS hA 1 0 (by decide) rfl rfl) rfl rfl hl.1 rfl (lv_room (Nat.le_of_ble_eq_true rfl)) dX7_advance_26 ⟨Nat.le_of_ble_eq_true rfl, Nat.le_of_ble_eq_true rfl⟩) hm hS hA (fun r_28 st_28 H locs hw_28 hM hS => ?_)
        obtain ⟨n_28, hw_28⟩ := hw_28
        have n_28 := gBN.nil n_28
        subst n_28
        have hbhw_280 : (0 : Int) ≤ (sv3 3 0 2).toInt ∧ (sv3 3 0 2).toInt ≤ (800 : Int) := hB_sv3.1 3 0 2
        have hqhw_281 : (sv3 1 0 1).toInt = ((st 1 0 1) : Int32).toInt := congrArg Int32.toInt ((hB_sv3.2 1 0 1 (show (101 : Nat) ∉ _ from by decide)))
        have hbhw_282 : (0 : Int) ≤ (sv3 1 0 1).toInt ∧ (sv3 1 0 1).toInt ≤ (800 : Int) := hB_sv3.1 1 0 1
        obtain ⟨hw_28_0, hw_28_1, hw_28_2, hw_28_3⟩ := hw_28
        refine gs_calli (va_runS (As := [.int r_28]) (rest := []) ⟨hx, hb, hml, hown, hts⟩ (s_X7_isBlank l G cy sK sV ad H.size sv3 hB_sv3.1 r_28 r_28.toInt rfl ) ⟨(gz_cb (n := 1) hts gm_375 gm_3 gm_377 ⟨by decide +kernel, by decide +kernel, by decide +kernel⟩ ⟨Nat.le_of_ble_eq_true rfl, Nat.le_of_ble_eq_true rfl⟩), hts _ gm_376⟩ (gs_preS hK hov hE hI hM hm hS hA) rfl rfl hl.1 rfl (lv_room (Nat.le_of_ble_eq_true rfl)) dX7_advance_29 ⟨Nat.le_of_ble_eq_true rfl, Nat.le_of_ble_eq_true rfl⟩) hm hS hA (fun r_29 st_29 H locs hw_29 hM hS => ?_)
        obtain ⟨n_29, hw_29⟩ := hw_29
        have n_29 := gBN.nil n_29
        subst n_29
        rcases hw_29 with ⟨rfl, hw_29_0⟩ | ⟨rfl, hw_29_0, hw_29_1⟩
        · skip
          refine lv_if_eq (tgt := 48) hx hb dX7_advance_32 (by decide) (fun h9 => absurd h9 (by decide)) (fun _ => ?_)
          refine lv_aload_n hx hb dX7_advance_35 rfl (lv_at hl 0 rfl) ?_
          refine lv_dup hx hb dX7_advance_36 rfl ?_
          refine gs_get (C := RX7) (T := TX7) (N := 6) hx hb hts inX7 hown hK hM 3 0 2 (by decide) rfl rfl (by decide) (hts _ gm_55) (fun _ h9 => h9) rfl dX7_advance_37 ?_
          have bf_30 : (0 : Int) ≤ (sv3 3 0 2).toInt ∧ (sv3 3 0 2).toInt ≤ (800 : Int) := hB_sv3.1 3 0 2
          refine lv_iconst (v := 1) hx hb dX7_advance_40 (by decide) ?_
          refine lv_iadd hx hb dX7_advance_41 ?_
          refine lv_topi (fun x_31 ex_31 => ?_)
          try have tx_31 : x_31.toInt = (sv3 3 0 2).toInt + 1 := by rw [ex_31]; exact gz_addP (x := (sv3 3 0 2).toInt) (y := 1) rfl (by decide) (by omega) (by omega)
          refine gs_put (C := RX7) (T := TX7) (N := 6) (ty := .int) (val := .int x_31) hx hb hts inX7 tyX7 tyX7_ok nmX7 hown hK hI hm hM hS 3 0 2 (by decide) rfl rfl (by decide) (hts _ gm_55) (fun _ h9 => h9) rfl (x_31 : Int32) rfl (by decide +kernel) rfl rfl (Nat.le_of_ble_eq_true rfl) dX7_advance_42 (fun st_32 H locs est_32 hM hS => ?_)
          have hB_st_32 : gBN bX kX [301, 302, 303] st st_32 := by rw [est_32]; exact hB_sv3.up (show (302 : Nat) ∈ _ from by decide) (show (0 : Int) ≤ x_31.toInt from by omega) (show x_31.toInt ≤ (800 : Int) from by omega)
          refine lv_goto (tgt := 8) hx hb dX7_advance_45 (by decide) ?_
          exact ih_3 st_32  H _ ls (by have hq0 : (st_32 3 0 2).toInt = (x_31 : Int32).toInt := congrArg Int32.toInt (((congrFun (congrFun (congrFun est_32 3) 0) 2).trans (gU_same _ _ _ _ _))); have hb1 : (0 : Int) ≤ (st_32 3 0 2).toInt ∧ (st_32 3 0 2).toInt ≤ (800 : Int) := hB_st_32.1 3 0 2; omega) hB_st_32 (by have h9 : (st_32 3 0 2).toInt = x_31.toInt := (congrArg Int32.toInt (((congrFun (congrFun (congrFun est_32 3) 0) 2).trans (gU_same _ _ _ _ _)))); rw [show (st_32 3 0 2).toInt = (sv3 3 0 2).toInt + 1 by omega, tEnd_go (by omega) (blB_t (by omega))]; exact hv3_0) hM hS (lv_sub hl [0] rfl)
        · skip
          refine lv_if_eq (tgt := 48) hx hb dX7_advance_32 (by decide) (fun _ => ?_) (fun h9 => absurd (by decide) h9)
          refine lv_aload_n hx hb dX7_advance_48 rfl (lv_at hl 0 rfl) ?_
          refine gs_get (C := RX7) (T := TX7) (N := 6) hx hb hts inX7 hown hK hM 3 0 0 (by decide) rfl rfl (by decide) (hts _ gm_53) (fun _ h9 => h9) rfl dX7_advance_49 ?_
          refine lv_aload_n hx hb dX7_advance_52 rfl (lv_at hl 0 rfl) ?_
          refine gs_get (C := RX7) (T := TX7) (N := 6) hx hb hts inX7 hown hK hM 3 0 2 (by decide) rfl rfl (by decide) (hts _ gm_55) (fun _ h9 => h9) rfl dX7_advance_53 ?_
          have bf_33 : (0 : Int) ≤ (sv3 3 0 2).toInt ∧ (sv3 3 0 2).toInt ≤ (800 : Int) := hB_sv3.1 3 0 2
          refine gs_calli (va_runV (As := [.int (sv3 3 0 2)]) (rest := []) ⟨hx, hb, hml, hown, hts⟩ (s_X8_byteAt l G cy sK sV ad H.size sv3 hB_sv3.1 (sv3 3 0 2) ((sv3 3 0 2).toInt) rfl F N (((funext (fun j9 => hB_sv3.2 2 0 j9 (show (200 : Nat) ∉ _ from by decide))).trans rfl).trans hF) ((congrArg Int32.toInt ((hB_sv3.2 1 0 1 (show (101 : Nat) ∉ _ from by decide)))).trans hN)) ⟨(gz_cb (n := 1) hts gm_371 gm_2 gm_374 ⟨by decide +kernel, by decide +kernel, by decide +kernel⟩ ⟨Nat.le_of_ble_eq_true rfl, Nat.le_of_ble_eq_true rfl⟩), hts _ gm_372, hts _ gm_373⟩ (gs_preV hK hov hE hI hM hm hS hA 1 0 (by decide) rfl rfl) rfl rfl hl.1 rfl (lv_room (Nat.le_of_ble_eq_true rfl)) dX7_advance_56 ⟨Nat.le_of_ble_eq_true rfl, Nat.le_of_ble_eq_true rfl⟩) hm hS hA (fun r_34 st_34 H locs hw_34 hM hS => ?_)
          obtain ⟨n_34, hw_34⟩ := hw_34
          have n_34 := gBN.nil n_34
          subst n_34
          obtain ⟨hw_34_0, hw_34_1, hw_34_2, hw_34_3⟩ := hw_34
          refine lv_istore_n (lv' := [(1, .int r_34), (0, .ref (ad 3 0))]) hx hb dX7_advance_59 rfl hl (by decide) rfl (fun ls hl => ?_)
          refine lv_aload_n hx hb dX7_advance_60 rfl (lv_at hl 1 rfl) ?_
          refine lv_aload_n hx hb dX7_advance_61 rfl (lv_at hl 1 rfl) ?_
          refine gs_get (C := RX7) (T := TX7) (N := 6) hx hb hts inX7 hown hK hM 3 0 2 (by decide) rfl rfl (by decide) (hts _ gm_55) (fun _ h9 => h9) rfl dX7_advance_62 ?_
          have bf_35 : (0 : Int) ≤ (sv3 3 0 2).toInt ∧ (sv3 3 0 2).toInt ≤ (800 : Int) := hB_sv3.1 3 0 2
          refine lv_iconst (v := 1) hx hb dX7_advance_65 (by decide) ?_
          refine lv_iadd hx hb dX7_advance_66 ?_
          refine lv_topi (fun x_36 ex_36 => ?_)
          try have tx_36 : x_36.toInt = (sv3 3 0 2).toInt + 1 := by rw [ex_36]; exact gz_addP (x := (sv3 3 0 2).toInt) (y := 1) rfl (by decide) (by omega) (by omega)
          refine gs_put (C := RX7) (T := TX7) (N := 6) (ty := .int) (val := .int x_36) hx hb hts inX7 tyX7 tyX7_ok nmX7 hown hK hI hm hM hS 3 0 3 (by decide) rfl rfl (by decide) (hts _ gm_56) (fun _ h9 => h9) rfl (x_36 : Int32) rfl (by decide +kernel) rfl rfl (Nat.le_of_ble_eq_true rfl) dX7_advance_67 (fun st_37 H locs est_37 hM hS => ?_)
          have hB_st_37 : gBN bX kX [301, 302, 303] st st_37 := by rw [est_37]; exact hB_sv3.up (show (303 : Nat) ∈ _ from by decide) (show (0 : Int) ≤ x_36.toInt from by omega) (show x_36.toInt ≤ (801 : Int) from by omega)
          refine lv_iload_n hx hb dX7_advance_70 rfl (lv_at hl 0 rfl) ?_
          refine lv_iconst (v := (-1)) hx hb dX7_advance_71 (by decide) ?_
          refine lv_icmp_ne (tgt := 91) hx hb dX7_advance_72 (by decide) (fun c_38 => ?_) (fun c_38 => ?_)
          · have ic_38 := gz_ne (rfl : r_34.toInt = r_34.toInt) (by decide : ((-1) : Int32).toInt = -1) c_38
            refine lv_iload_n hx hb dX7_advance_91 rfl (lv_at hl 0 rfl) ?_
            refine lv_bipush (v := 58) hx hb dX7_advance_92 (by decide) ?_
            refine lv_icmp_eq (tgt := 109) hx hb dX7_advance_94 (by decide) (fun c_39 => ?_) (fun c_39 => ?_)
            · have ic_39 := gz_eq (rfl : r_34.toInt = r_34.toInt) (by decide : (58 : Int32).toInt = 58) c_39
              refine lv_aload_n hx hb dX7_advance_109 rfl (lv_at hl 1 rfl) ?_
              refine lv_iconst (v := 4) hx hb dX7_advance_110 (by decide) ?_
              refine gs_put (C := RX7) (T := TX7) (N := 6) (ty := .int) (val := .int 4) hx hb hts inX7 tyX7 tyX7_ok nmX7 hown hK hI hm hM hS 3 0 1 (by decide) rfl rfl (by decide) (hts _ gm_54) (fun _ h9 => h9) rfl (4 : Int32) rfl (by decide +kernel) rfl rfl (Nat.le_of_ble_eq_true rfl) dX7_advance_111 (fun st_40 H locs est_40 hM hS => ?_)
              have hB_st_40 : gBN bX kX [301, 302, 303] st st_40 := by rw [est_40]; exact hB_st_37.up (show (301 : Nat) ∈ _ from by decide) (gi_lo _) (gi_hi _)
              refine lv_goto (tgt := 143) hx hb dX7_advance_114 (by decide) ?_
              rw [← hQe]
              exact gs_vret hx hb hr hlocks hM hS ⟨hB_st_40, (by rw [show (st_40 3 0 1).toInt = 4 from ((congrArg Int32.toInt (((congrFun (congrFun (congrFun est_40 3) 0) 1).trans (gU_same _ _ _ _ _)))).trans (by decide)), show (st_40 3 0 2).toInt = (sv3 3 0 2).toInt from (congrArg Int32.toInt ((((congrFun (congrFun (congrFun est_40 3) 0) 2).trans (gU_other (by decide))).trans ((congrFun (congrFun (congrFun est_37 3) 0) 2).trans (gU_other (by decide)))))), show (st_40 3 0 3).toInt = x_36.toInt from (congrArg Int32.toInt ((((congrFun (congrFun (congrFun est_40 3) 0) 3).trans (gU_other (by decide))).trans ((congrFun (congrFun (congrFun est_37 3) 0) 3).trans (gU_same _ _ _ _ _)))))]; rw [show x_36.toInt = (sv3 3 0 2).toInt + 1 by omega]; exact cLex_sg (by have h8 := hv3_0; rw [tEnd_no (p := (sv3 3 0 2).toInt) (by first | exact Or.inl (by omega) | exact Or.inr (blB_f (by omega)))] at h8; exact h8.symm) (by omega)), (by have hq0 : (st_40 3 0 3).toInt = (x_36 : Int32).toInt := congrArg Int32.toInt ((((congrFun (congrFun (congrFun est_40 3) 0) 3).trans (gU_other (by decide))).trans ((congrFun (congrFun (congrFun est_37 3) 0) 3).trans (gU_same _ _ _ _ _)))); have hb1 : (0 : Int) ≤ (st_40 3 0 3).toInt ∧ (st_40 3 0 3).toInt ≤ (801 : Int) := hB_st_40.1 3 0 3; omega)⟩ (by exact Nat.le_refl _) (by exact Nat.le_refl _) dX7_advance_143
            · have ic_39 := gz_ne (rfl : r_34.toInt = r_34.toInt) (by decide : (58 : Int32).toInt = 58) c_39
              refine lv_iload_n hx hb dX7_advance_97 rfl (lv_at hl 0 rfl) ?_
              refine lv_bipush (v := 44) hx hb dX7_advance_98 (by decide) ?_
              refine lv_icmp_eq (tgt := 109) hx hb dX7_advance_100 (by decide) (fun c_41 => ?_) (fun c_41 => ?_)
              · have ic_41 := gz_eq (rfl : r_34.toInt = r_34.toInt) (by decide : (44 : Int32).toInt = 44) c_41
                refine lv_aload_n hx hb dX7_advance_109 rfl (lv_at hl 1 rfl) ?_
                refine lv_iconst (v := 4) hx hb dX7_advance_110 (by decide) ?_
                refine gs_put (C := RX7) (T := TX7) (N := 6) (ty := .int) (val := .int 4) hx hb hts inX7 tyX7 tyX7_ok nmX7 hown hK hI hm hM hS 3 0 1 (by decide) rfl rfl (by decide) (hts _ gm_54) (fun _ h9 => h9) rfl (4 : Int32) rfl (by decide +kernel) rfl rfl (Nat.le_of_ble_eq_true rfl) dX7_advance_111 (fun st_42 H locs est_42 hM hS => ?_)
                have hB_st_42 : gBN bX kX [301, 302, 303] st st_42 := by rw [est_42]; exact hB_st_37.up (show (301 : Nat) ∈ _ from by decide) (gi_lo _) (gi_hi _)
                refine lv_goto (tgt := 143) hx hb dX7_advance_114 (by decide) ?_
                rw [← hQe]
                exact gs_vret hx hb hr hlocks hM hS ⟨hB_st_42, (by rw [show (st_42 3 0 1).toInt = 4 from ((congrArg Int32.toInt (((congrFun (congrFun (congrFun est_42 3) 0) 1).trans (gU_same _ _ _ _ _)))).trans (by decide)), show (st_42 3 0 2).toInt = (sv3 3 0 2).toInt from (congrArg Int32.toInt ((((congrFun (congrFun (congrFun est_42 3) 0) 2).trans (gU_other (by decide))).trans ((congrFun (congrFun (congrFun est_37 3) 0) 2).trans (gU_other (by decide)))))), show (st_42 3 0 3).toInt = x_36.toInt from (congrArg Int32.toInt ((((congrFun (congrFun (congrFun est_42 3) 0) 3).trans (gU_other (by decide))).trans ((congrFun (congrFun (congrFun est_37 3) 0) 3).trans (gU_same _ _ _ _ _)))))]; rw [show x_36.toInt = (sv3 3 0 2).toInt + 1 by omega]; exact cLex_sg (by have h8 := hv3_0; rw [tEnd_no (p := (sv3 3 0 2).toInt) (by first | exact Or.inl (by omega) | exact Or.inr (blB_f (by omega)))] at h8; exact h8.symm) (by omega)), (by have hq0 : (st_42 3 0 3).toInt = (x_36 : Int32).toInt := congrArg Int32.toInt ((((congrFun (congrFun (congrFun est_42 3) 0) 3).trans (gU_other (by decide))).trans ((congrFun (congrFun (congrFun est_37 3) 0) 3).trans (gU_same _ _ _ _ _)))); have hb1 : (0 : Int) ≤ (st_42 3 0 3).toInt ∧ (st_42 3 0 3).toInt ≤ (801 : Int) := hB_st_42.1 3 0 3; omega)⟩ (by exact Nat.le_refl _) (by exact Nat.le_refl _) dX7_advance_143
              · have ic_41 := gz_ne (rfl : r_34.toInt = r_34.toInt) (by decide : (44 : Int32).toInt = 44) c_41
                refine lv_iload_n hx hb dX7_advance_103 rfl (lv_at hl 0 rfl) ?_
                refine lv_bipush (v := 59) hx hb dX7_advance_104 (by decide) ?_
                refine lv_icmp_ne (tgt := 117) hx hb dX7_advance_106 (by decide) (fun c_43 => ?_) (fun c_43 => ?_)
                · have ic_43 := gz_ne (rfl : r_34.toInt = r_34.toInt) (by decide : (59 : Int32).toInt = 59) c_43
                  refine lv_iload_n hx hb dX7_advance_117 rfl (lv_at hl 0 rfl) ?_
                  refine gs_calli (va_runS (As := [.int r_34]) (rest := []) ⟨hx, hb, hml, hown, hts⟩ (s_X7_isDigit l G cy sK sV ad H.size st_37 hB_st_37.1 r_34 r_34.toInt rfl ) ⟨(gz_cb (n := 1) hts gm_378 gm_3 gm_380 ⟨by decide +kernel, by decide +kernel, by decide +kernel⟩ ⟨Nat.le_of_ble_eq_true rfl, Nat.le_of_ble_eq_true rfl⟩), hts _ gm_379⟩ (gs_preS hK hov hE hI hM hm hS hA) rfl rfl hl.1 rfl (lv_room (Nat.le_of_ble_eq_true rfl)) dX7_advance_118 ⟨Nat.le_of_ble_eq_true rfl, Nat.le_of_ble_eq_true rfl⟩) hm hS hA (fun r_44 st_44 H locs hw_44 hM hS => ?_)
                  obtain ⟨n_44, hw_44⟩ := hw_44
                  have n_44 := gBN.nil n_44
                  subst n_44
                  rcases hw_44 with ⟨rfl, hw_44_0, hw_44_1⟩ | ⟨rfl, hw_44_0⟩
                  · skip
                    refine lv_if_ne (tgt := 131) hx hb dX7_advance_121 (by decide) (fun _ => ?_) (fun h9 => absurd h9 (by decide))
                    refine lv_aload_n hx hb dX7_advance_131 rfl (lv_at hl 1 rfl) ?_
                    refine gs_callv (va_runV (As := []) (rest := []) ⟨hx, hb, hml, hown, hts⟩ (s_X7_readRun l G cy sK sV ad H.size st_37 hB_st_37.1  F N (((congrFun (congrFun est_37 2) 0).trans ((congrFun (gU_k (by decide)) 0).trans ((funext (fun j9 => hB_sv3.2 2 0 j9 (show (200 : Nat) ∉ _ from by decide))).trans rfl))).trans hF) ((congrArg Int32.toInt ((((congrFun (congrFun (congrFun est_37 1) 0) 1).trans (congrFun (congrFun (gU_k (by decide)) 0) 1)).trans (hB_sv3.2 1 0 1 (show (101 : Nat) ∉ _ from by decide))))).trans hN)) ⟨(gz_cb (n := 0) hts gm_384 gm_3 gm_387 ⟨by decide +kernel, by decide +kernel, by decide +kernel⟩ ⟨Nat.le_of_ble_eq_true rfl, Nat.le_of_ble_eq_true rfl⟩), hts _ gm_386, hts _ gs_1⟩ (gs_preV hK hov hE hI hM hm hS hA 3 0 (by decide) rfl rfl) rfl rfl hl.1 rfl (lv_room (Nat.le_of_ble_eq_true rfl)) dX7_advance_132 ⟨Nat.le_of_ble_eq_true rfl, Nat.le_of_ble_eq_true rfl⟩) hm hS hA (fun st_45 H locs hw_45 hM hS => ?_)
                    obtain ⟨n_45, hw_45⟩ := hw_45
                    have hB_st_45 : gBN bX kX [301, 302, 303] st st_45 := hB_st_37.call n_45 (by decide)
                    have hqhw_450 : (st_37 3 0 2).toInt = ((sv3 3 0 2) : Int32).toInt := congrArg Int32.toInt (((congrFun (congrFun (congrFun est_37 3) 0) 2).trans (gU_other (by decide))))
                    have hbhw_451 : (0 : Int) ≤ (st_37 3 0 2).toInt ∧ (st_37 3 0 2).toInt ≤ (800 : Int) := hB_st_37.1 3 0 2
                    obtain ⟨hw_45_0, hw_45_1, hw_45_2⟩ := hw_45
                    refine lv_goto (tgt := 143) hx hb dX7_advance_135 (by decide) ?_
                    rw [← hQe]
                    exact gs_vret hx hb hr hlocks hM hS ⟨hB_st_45, (by have h7 : (st_37 3 0 2).toInt = (sv3 3 0 2).toInt := (congrArg Int32.toInt (((congrFun (congrFun (congrFun est_37 3) 0) 2).trans (gU_other (by decide))))); have h6 := hw_45_1; have h5 := hw_45_2; rw [h7] at h6 h5; rw [show (st_45 3 0 2).toInt = (sv3 3 0 2).toInt from (congrArg Int32.toInt (((n_45.2 3 0 2 (show (302 : Nat) ∉ _ from by decide)).trans ((congrFun (congrFun (congrFun est_37 3) 0) 2).trans (gU_other (by decide))))))]; exact cLex_run (by have h8 := hv3_0; rw [tEnd_no (p := (sv3 3 0 2).toInt) (by first | exact Or.inl (by omega) | exact Or.inr (blB_f (by omega)))] at h8; exact h8.symm) (by omega) h6.symm h5.symm), (by have hb0 : (0 : Int) ≤ (st_45 3 0 3).toInt ∧ (st_45 3 0 3).toInt ≤ (801 : Int) := hB_st_45.1 3 0 3; omega)⟩ (by exact Nat.le_refl _) (by exact Nat.le_refl _) dX7_advance_143
                  · skip
                    refine lv_if_ne (tgt := 131) hx hb dX7_advance_121 (by decide) (fun h9 => absurd (by decide) h9) (fun _ => ?_)
                    refine lv_iload_n hx hb dX7_advance_124 rfl (lv_at hl 0 rfl) ?_
                    refine gs_calli (va_runS (As := [.int r_34]) (rest := []) ⟨hx, hb, hml, hown, hts⟩ (s_X7_isLetter l G cy sK sV ad H.size st_37 hB_st_37.1 r_34 r_34.toInt rfl ) ⟨(gz_cb (n := 1) hts gm_381 gm_3 gm_383 ⟨by decide +kernel, by decide +kernel, by decide +kernel⟩ ⟨Nat.le_of_ble_eq_true rfl, Nat.le_of_ble_eq_true rfl⟩), hts _ gm_382⟩ (gs_preS hK hov hE hI hM hm hS hA) rfl rfl hl.1 rfl (lv_room (Nat.le_of_ble_eq_true rfl)) dX7_advance_125 ⟨Nat.le_of_ble_eq_true rfl, Nat.le_of_ble_eq_true rfl⟩) hm hS hA (fun r_46 st_46 H locs hw_46 hM hS => ?_)
                    obtain ⟨n_46, hw_46⟩ := hw_46
                    have n_46 := gBN.nil n_46
                    subst n_46
                    rcases hw_46 with ⟨rfl, hw_46_0⟩ | ⟨rfl, hw_46_0⟩
                    · skip
                      refine lv_if_eq (tgt := 138) hx hb dX7_advance_128 (by decide) (fun h9 => absurd h9 (by decide)) (fun _ => ?_)
                      refine lv_aload_n hx hb dX7_advance_131 rfl (lv_at hl 1 rfl) ?_
                      refine gs_callv (va_runV (As := []) (rest := []) ⟨hx, hb, hml, hown, hts⟩ (s_X7_readRun l G cy sK sV ad H.size st_37 hB_st_37.1  F N (((congrFun (congrFun est_37 2) 0).trans ((congrFun (gU_k (by decide)) 0).trans ((funext (fun j9 => hB_sv3.2 2 0 j9 (show (200 : Nat) ∉ _ from by decide))).trans rfl))).trans hF) ((congrArg Int32.toInt ((((congrFun (congrFun (congrFun est_37 1) 0) 1).trans (congrFun (congrFun (gU_k (by decide)) 0) 1)).trans (hB_sv3.2 1 0 1 (show (101 : Nat) ∉ _ from by decide))))).trans hN)) ⟨(gz_cb (n := 0) hts gm_384 gm_3 gm_387 ⟨by decide +kernel, by decide +kernel, by decide +kernel⟩ ⟨Nat.le_of_ble_eq_true rfl, Nat.le_of_ble_eq_true rfl⟩), hts _ gm_386, hts _ gs_1⟩ (gs_preV hK hov hE hI hM hm hS hA 3 0 (by decide) rfl rfl) rfl rfl hl.1 rfl (lv_room (Nat.le_of_ble_eq_true rfl)) dX7_advance_132 ⟨Nat.le_of_ble_eq_true rfl, Nat.le_of_ble_eq_true rfl⟩) hm hS hA (fun st_47 H locs hw_47 hM hS => ?_)
                      obtain ⟨n_47, hw_47⟩ := hw_47
                      have hB_st_47 : gBN bX kX [301, 302, 303] st st_47 := hB_st_37.call n_47 (by decide)
                      have hqhw_470 : (st_37 3 0 2).toInt = ((sv3 3 0 2) : Int32).toInt := congrArg Int32.toInt (((congrFun (congrFun (congrFun est_37 3) 0) 2).trans (gU_other (by decide))))
                      have hbhw_471 : (0 : Int) ≤ (st_37 3 0 2).toInt ∧ (st_37 3 0 2).toInt ≤ (800 : Int) := hB_st_37.1 3 0 2
                      obtain ⟨hw_47_0, hw_47_1, hw_47_2⟩ := hw_47
                      refine lv_goto (tgt := 143) hx hb dX7_advance_135 (by decide) ?_
                      rw [← hQe]
                      exact gs_vret hx hb hr hlocks hM hS ⟨hB_st_47, (by have h7 : (st_37 3 0 2).toInt = (sv3 3 0 2).toInt := (congrArg Int32.toInt (((congrFun (congrFun (congrFun est_37 3) 0) 2).trans (gU_other (by decide))))); have h6 := hw_47_1; have h5 := hw_47_2; rw [h7] at h6 h5; rw [show (st_47 3 0 2).toInt = (sv3 3 0 2).toInt from (congrArg Int32.toInt (((n_47.2 3 0 2 (show (302 : Nat) ∉ _ from by decide)).trans ((congrFun (congrFun (congrFun est_37 3) 0) 2).trans (gU_other (by decide))))))]; exact cLex_run (by have h8 := hv3_0; rw [tEnd_no (p := (sv3 3 0 2).toInt) (by first | exact Or.inl (by omega) | exact Or.inr (blB_f (by omega)))] at h8; exact h8.symm) (by omega) h6.symm h5.symm), (by have hb0 : (0 : Int) ≤ (st_47 3 0 3).toInt ∧ (st_47 3 0 3).toInt ≤ (801 : Int) := hB_st_47.1 3 0 3; omega)⟩ (by exact Nat.le_refl _) (by exact Nat.le_refl _) dX7_advance_143
                    · skip
                      refine lv_if_eq (tgt := 138) hx hb dX7_advance_128 (by decide) (fun _ => ?_) (fun h9 => absurd (by decide) h9)
                      refine lv_aload_n hx hb dX7_advance_138 rfl (lv_at hl 1 rfl) ?_
                      refine lv_iconst (v := 1) hx hb dX7_advance_139 (by decide) ?_
                      refine gs_put (C := RX7) (T := TX7) (N := 6) (ty := .int) (val := .int 1) hx hb hts inX7 tyX7 tyX7_ok nmX7 hown hK hI hm hM hS 3 0 1 (by decide) rfl rfl (by decide) (hts _ gm_54) (fun _ h9 => h9) rfl (1 : Int32) rfl (by decide +kernel) rfl rfl (Nat.le_of_ble_eq_true rfl) dX7_advance_140 (fun st_48 H locs est_48 hM hS => ?_)
                      have hB_st_48 : gBN bX kX [301, 302, 303] st st_48 := by rw [est_48]; exact hB_st_37.up (show (301 : Nat) ∈ _ from by decide) (gi_lo _) (gi_hi _)
                      rw [← hQe]
                      exact gs_vret hx hb hr hlocks hM hS ⟨hB_st_48, (by rw [show (st_48 3 0 1).toInt = 1 from ((congrArg Int32.toInt (((congrFun (congrFun (congrFun est_48 3) 0) 1).trans (gU_same _ _ _ _ _)))).trans (by decide)), show (st_48 3 0 2).toInt = (sv3 3 0 2).toInt from (congrArg Int32.toInt ((((congrFun (congrFun (congrFun est_48 3) 0) 2).trans (gU_other (by decide))).trans ((congrFun (congrFun (congrFun est_37 3) 0) 2).trans (gU_other (by decide)))))), show (st_48 3 0 3).toInt = x_36.toInt from (congrArg Int32.toInt ((((congrFun (congrFun (congrFun est_48 3) 0) 3).trans (gU_other (by decide))).trans ((congrFun (congrFun (congrFun est_37 3) 0) 3).trans (gU_same _ _ _ _ _)))))]; rw [show x_36.toInt = (sv3 3 0 2).toInt + 1 by omega]; exact cLex_no (by have h8 := hv3_0; rw [tEnd_no (p := (sv3 3 0 2).toInt) (by first | exact Or.inl (by omega) | exact Or.inr (blB_f (by omega)))] at h8; exact h8.symm) (by omega) (by omega) (by omega)), (by have hq0 : (st_48 3 0 3).toInt = (x_36 : Int32).toInt := congrArg Int32.toInt ((((congrFun (congrFun (congrFun est_48 3) 0) 3).trans (gU_other (by decide))).trans ((congrFun (congrFun (congrFun est_37 3) 0) 3).trans (gU_same _ _ _ _ _)))); have hb1 : (0 : Int) ≤ (st_48 3 0 3).toInt ∧ (st_48 3 0 3).toInt ≤ (801 : Int) := hB_st_48.1 3 0 3; omega)⟩ (by exact Nat.le_refl _) (by exact Nat.le_refl _) dX7_advance_143
                · have ic_43 := gz_eqn (rfl : r_34.toInt = r_34.toInt) (by decide : (59 : Int32).toInt = 59) c_43
                  refine lv_aload_n hx hb dX7_advance_109 rfl (lv_at hl 1 rfl) ?_
                  refine lv_iconst (v := 4) hx hb dX7_advance_110 (by decide) ?_
                  refine gs_put (C := RX7) (T := TX7) (N := 6) (ty := .int) (val := .int 4) hx hb hts inX7 tyX7 tyX7_ok nmX7 hown hK hI hm hM hS 3 0 1 (by decide) rfl rfl (by decide) (hts _ gm_54) (fun _ h9 => h9) rfl (4 : Int32) rfl (by decide +kernel) rfl rfl (Nat.le_of_ble_eq_true rfl) dX7_advance_111 (fun st_49 H locs est_49 hM hS => ?_)
                  have hB_st_49 : gBN bX kX [301, 302, 303] st st_49 := by rw [est_49]; exact hB_st_37.up (show (301 : Nat) ∈ _ from by decide) (gi_lo _) (gi_hi _)
                  refine lv_goto (tgt := 143) hx hb dX7_advance_114 (by decide) ?_
                  rw [← hQe]
                  exact gs_vret hx hb hr hlocks hM hS ⟨hB_st_49, (by rw [show (st_49 3 0 1).toInt = 4 from ((congrArg Int32.toInt (((congrFun (congrFun (congrFun est_49 3) 0) 1).trans (gU_same _ _ _ _ _)))).trans (by decide)), show (st_49 3 0 2).toInt = (sv3 3 0 2).toInt from (congrArg Int32.toInt ((((congrFun (congrFun (congrFun est_49 3) 0) 2).trans (gU_other (by decide))).trans ((congrFun (congrFun (congrFun est_37 3) 0) 2).trans (gU_other (by decide)))))), show (st_49 3 0 3).toInt = x_36.toInt from (congrArg Int32.toInt ((((congrFun (congrFun (congrFun est_49 3) 0) 3).trans (gU_other (by decide))).trans ((congrFun (congrFun (congrFun est_37 3) 0) 3).trans (gU_same _ _ _ _ _)))))]; rw [show x_36.toInt = (sv3 3 0 2).toInt + 1 by omega]; exact cLex_sg (by have h8 := hv3_0; rw [tEnd_no (p := (sv3 3 0 2).toInt) (by first | exact Or.inl (by omega) | exact Or.inr (blB_f (by omega)))] at h8; exact h8.symm) (by omega)), (by have hq0 : (st_49 3 0 3).toInt = (x_36 : Int32).toInt := congrArg Int32.toInt ((((congrFun (congrFun (congrFun est_49 3) 0) 3).trans (gU_other (by decide))).trans ((congrFun (congrFun (congrFun est_37 3) 0) 3).trans (gU_same _ _ _ _ _)))); have hb1 : (0 : Int) ≤ (st_49 3 0 3).toInt ∧ (st_49 3 0 3).toInt ≤ (801 : Int) := hB_st_49.1 3 0 3; omega)⟩ (by exact Nat.le_refl _) (by exact Nat.le_refl _) dX7_advance_143
          · have ic_38 := gz_eqn (rfl : r_34.toInt = r_34.toInt) (by decide : ((-1) : Int32).toInt = -1) c_38
            refine lv_aload_n hx hb dX7_advance_75 rfl (lv_at hl 1 rfl) ?_
            refine lv_iconst (v := 0) hx hb dX7_advance_76 (by decide) ?_
            refine gs_put (C := RX7) (T := TX7) (N := 6) (ty := .int) (val := .int 0) hx hb hts inX7 tyX7 tyX7_ok nmX7 hown hK hI hm hM hS 3 0 1 (by decide) rfl rfl (by decide) (hts _ gm_54) (fun _ h9 => h9) rfl (0 : Int32) rfl (by decide +kernel) rfl rfl (Nat.le_of_ble_eq_true rfl) dX7_advance_77 (fun st_50 H locs est_50 hM hS => ?_)
            have hB_st_50 : gBN bX kX [301, 302, 303] st st_50 := by rw [est_50]; exact hB_st_37.up (show (301 : Nat) ∈ _ from by decide) (gi_lo _) (gi_hi _)
            refine lv_aload_n hx hb dX7_advance_80 rfl (lv_at hl 1 rfl) ?_
            refine lv_aload_n hx hb dX7_advance_81 rfl (lv_at hl 1 rfl) ?_
            refine gs_get (C := RX7) (T := TX7) (N := 6) hx hb hts inX7 hown hK hM 3 0 2 (by decide) rfl rfl (by decide) (hts _ gm_55) (fun _ h9 => h9) rfl dX7_advance_82 ?_
            refine lv_topi (fun x_51 ex_51 => ?_)
            have ex_51 : (sv3 3 0 2) = x_51 := Eq.symm (ex_51.trans (((congrFun (congrFun (congrFun est_50 3) 0) 2).trans (gU_other (by decide))).trans ((congrFun (congrFun (congrFun est_37 3) 0) 2).trans (gU_other (by decide)))))
            subst ex_51
            have bf_52 : (0 : Int) ≤ (sv3 3 0 2).toInt ∧ (sv3 3 0 2).toInt ≤ (800 : Int) := hB_sv3.1 3 0 2
            refine gs_put (C := RX7) (T := TX7) (N := 6) (ty := .int) (val := .int (sv3 3 0 2)) hx hb hts inX7 tyX7 tyX7_ok nmX7 hown hK hI hm hM hS 3 0 3 (by decide) rfl rfl (by decide) (hts _ gm_56) (fun _ h9 => h9) rfl ((sv3 3 0 2) : Int32) rfl (by decide +kernel) rfl rfl (Nat.le_of_ble_eq_true rfl) dX7_advance_85 (fun st_53 H locs est_53 hM hS => ?_)
            have hB_st_53 : gBN bX kX [301, 302, 303] st st_53 := by rw [est_53]; exact hB_st_50.up (show (303 : Nat) ∈ _ from by decide) (show (0 : Int) ≤ (sv3 3 0 2).toInt from by omega) (show (sv3 3 0 2).toInt ≤ (801 : Int) from by omega)
            refine lv_goto (tgt := 143) hx hb dX7_advance_88 (by decide) ?_
            rw [← hQe]
            exact gs_vret hx hb hr hlocks hM hS ⟨hB_st_53, (by rw [show (st_53 3 0 1).toInt = 0 from ((congrArg Int32.toInt ((((congrFun (congrFun (congrFun est_53 3) 0) 1).trans (gU_other (by decide))).trans ((congrFun (congrFun (congrFun est_50 3) 0) 1).trans (gU_same _ _ _ _ _))))).trans (by decide)), show (st_53 3 0 2).toInt = (sv3 3 0 2).toInt from (congrArg Int32.toInt ((((congrFun (congrFun (congrFun est_53 3) 0) 2).trans (gU_other (by decide))).trans (((congrFun (congrFun (congrFun est_50 3) 0) 2).trans (gU_other (by decide))).trans ((congrFun (congrFun (congrFun est_37 3) 0) 2).trans (gU_other (by decide))))))), show (st_53 3 0 3).toInt = (sv3 3 0 2).toInt from (congrArg Int32.toInt (((congrFun (congrFun (congrFun est_53 3) 0) 3).trans (gU_same _ _ _ _ _))))]; exact cLex_end (by have h8 := hv3_0; rw [tEnd_no (p := (sv3 3 0 2).toInt) (by first | exact Or.inl (by omega) | exact Or.inr (blB_f (by omega)))] at h8; exact h8.symm) (by omega)), (by have hq0 : (st_53 3 0 3).toInt = ((sv3 3 0 2) : Int32).toInt := congrArg Int32.toInt (((congrFun (congrFun (congrFun est_53 3) 0) 3).trans (gU_same _ _ _ _ _))); have hb1 : (0 : Int) ≤ (st_53 3 0 3).toInt ∧ (st_53 3 0 3).toInt ≤ (801 : Int) := hB_st_53.1 3 0 3; omega)⟩ (by exact Nat.le_refl _) (by exact Nat.le_refl _) dX7_advance_143
  exact lp3 ((800 - (st_2 3 0 2).toInt).toNat + 1) st_2  H _ ls (Nat.lt_succ_self _) hB_st_2 (by have h9 : (st_2 3 0 2).toInt = (st 3 0 3).toInt := (congrArg Int32.toInt (((congrFun (congrFun (congrFun est_2 3) 0) 2).trans (gU_same _ _ _ _ _)))); rw [h9]) hM hS (lv_sub hl [0] rfl)
