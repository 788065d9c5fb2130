theorem gm_11 : (Jvm.Cond.initialized "WellCourt$Planner") ∈ gz_T := gz_at 11 (by decide +kernel) rfl
theorem gm_243 : (Jvm.Cond.fieldLink "WellCourt$Planner" (51 : Nat) "WellCourt$Planner" "land" "LWellCourt$Land;") ∈ gz_T := gz_at 243 (by decide +kernel) rfl
theorem gm_244 : (Jvm.Cond.fieldLink "WellCourt$Planner" (55 : Nat) "WellCourt$Planner" "calendar" "LWellCourt$Calendar;") ∈ gz_T := gz_at 244 (by decide +kernel) rfl
theorem gm_245 : (Jvm.Cond.fieldLink "WellCourt$Planner" (59 : Nat) "WellCourt$Planner" "flock" "LWellCourt$Flock;") ∈ gz_T := gz_at 245 (by decide +kernel) rfl
theorem gm_246 : (Jvm.Cond.fieldLink "WellCourt$Planner" (63 : Nat) "WellCourt$Planner" "law" "LWellCourt$Law;") ∈ gz_T := gz_at 246 (by decide +kernel) rfl
theorem gm_247 : (Jvm.Cond.fieldLink "WellCourt$Planner" (11 : Nat) "WellCourt$Planner" "date" "I") ∈ gz_T := gz_at 247 (by decide +kernel) rfl
theorem gm_248 : (Jvm.Cond.fieldLink "WellCourt$Planner" (17 : Nat) "WellCourt$Planner" "days" "[LWellCourt$Day;") ∈ gz_T := gz_at 248 (by decide +kernel) rfl
theorem gm_249 : (Jvm.Cond.fieldLink "WellCourt$Planner" (23 : Nat) "WellCourt$Planner" "place" "[[I") ∈ gz_T := gz_at 249 (by decide +kernel) rfl
theorem gm_250 : (Jvm.Cond.fieldLink "WellCourt$Planner" (26 : Nat) "WellCourt$Planner" "arrives" "[[I") ∈ gz_T := gz_at 250 (by decide +kernel) rfl
theorem gm_251 : (Jvm.Cond.fieldLink "WellCourt$Planner" (29 : Nat) "WellCourt$Planner" "drank" "[[I") ∈ gz_T := gz_at 251 (by decide +kernel) rfl
theorem gm_252 : (Jvm.Cond.fieldLink "WellCourt$Planner" (32 : Nat) "WellCourt$Planner" "acts" "[I") ∈ gz_T := gz_at 252 (by decide +kernel) rfl
theorem gm_253 : (Jvm.Cond.fieldLink "WellCourt$Planner" (36 : Nat) "WellCourt$Planner" "looks" "I") ∈ gz_T := gz_at 253 (by decide +kernel) rfl
theorem gm_255 : (Jvm.Cond.fieldLink "WellCourt$Planner" (39 : Nat) "WellCourt$Planner" "reach" "I") ∈ gz_T := gz_at 255 (by decide +kernel) rfl
theorem gm_257 : (Jvm.Cond.fieldLink "WellCourt$Planner" (42 : Nat) "WellCourt$Planner" "found" "[I") ∈ gz_T := gz_at 257 (by decide +kernel) rfl
theorem gm_258 : (Jvm.Cond.fieldLink "WellCourt$Planner" (45 : Nat) "WellCourt$Planner" "foundDate" "I") ∈ gz_T := gz_at 258 (by decide +kernel) rfl
theorem gm_259 : (Jvm.Cond.fieldLink "WellCourt$Planner" (48 : Nat) "WellCourt$Planner" "foundDays" "I") ∈ gz_T := gz_at 259 (by decide +kernel) rfl
theorem gm_694 : (Jvm.Cond.static ({ cls := "WellCourt", name := "isHerd", desc := "(I)Z" } : Jvm.MethodName)) ∈ gz_T := gz_at 694 (by decide +kernel) rfl
theorem gm_695 : (Jvm.Cond.code ({ cls := "WellCourt", name := "isHerd", desc := "(I)Z" } : Jvm.MethodName) prog_1_method_32_code (1 : Nat) (Option.some Jvm.ClassFile.FieldType.boolean)) ∈ gz_T := gz_at 695 (by decide +kernel) rfl
theorem gm_843 : (Jvm.Cond.methodLink "WellCourt$Planner" (68 : Nat) ({ cls := "WellCourt$Day", name := "copyLevels", desc := "(LWellCourt$Day;)V" } : Jvm.MethodName)) ∈ gz_T := gz_at 843 (by decide +kernel) rfl
theorem gm_844 : (Jvm.Cond.instanceMethod ({ cls := "WellCourt$Day", name := "copyLevels", desc := "(LWellCourt$Day;)V" } : Jvm.MethodName)) ∈ gz_T := gz_at 844 (by decide +kernel) rfl
theorem gm_845 : (Jvm.Cond.selects "WellCourt$Day" ({ cls := "WellCourt$Day", name := "copyLevels", desc := "(LWellCourt$Day;)V" } : Jvm.MethodName) ({ cls := "WellCourt$Day", name := "copyLevels", desc := "(LWellCourt$Day;)V" } : Jvm.MethodName)) ∈ gz_T := gz_at 845 (by decide +kernel) rfl
theorem gm_846 : (Jvm.Cond.code ({ cls := "WellCourt$Day", name := "copyLevels", desc := "(LWellCourt$Day;)V" } : Jvm.MethodName) prog_3_method_2_code (2 : Nat) (Option.none : Option Jvm.ClassFile.FieldType)) ∈ gz_T := gz_at 846 (by decide +kernel) rfl
theorem gm_858 : (Jvm.Cond.methodLink "WellCourt$Planner" (113 : Nat) ({ cls := "WellCourt$Day", name := "grow", desc := "(LWellCourt$Day;LWellCourt$Land;)V" } : Jvm.MethodName)) ∈ gz_T := gz_at 858 (by decide +kernel) rfl
theorem gm_859 : (Jvm.Cond.methodLink "WellCourt$Planner" (117 : Nat) ({ cls := "WellCourt$Day", name := "settle", desc := "(LWellCourt$Law;LWellCourt$Calendar;I)V" } : Jvm.MethodName)) ∈ gz_T := gz_at 859 (by decide +kernel) rfl
theorem gm_865 : (Jvm.Cond.methodLink "WellCourt$Planner" (94 : Nat) ({ cls := "WellCourt$Planner", name := "rowOf", desc := "(I)I" } : Jvm.MethodName)) ∈ gz_T := gz_at 865 (by decide +kernel) rfl
theorem gm_866 : (Jvm.Cond.static ({ cls := "WellCourt$Planner", name := "rowOf", desc := "(I)I" } : Jvm.MethodName)) ∈ gz_T := gz_at 866 (by decide +kernel) rfl
theorem gm_867 : (Jvm.Cond.code ({ cls := "WellCourt$Planner", name := "rowOf", desc := "(I)I" } : Jvm.MethodName) prog_8_method_5_code (1 : Nat) (Option.some Jvm.ClassFile.FieldType.int)) ∈ gz_T := gz_at 867 (by decide +kernel) rfl
theorem gm_868 : (Jvm.Cond.methodLink "WellCourt$Planner" (121 : Nat) ({ cls := "WellCourt$Flock", name := "isThere", desc := "(I)Z" } : Jvm.MethodName)) ∈ gz_T := gz_at 868 (by decide +kernel) rfl
theorem gm_869 : (Jvm.Cond.methodLink "WellCourt$Planner" (124 : Nat) ({ cls := "WellCourt$Planner", name := "canDo", desc := "(III)Z" } : Jvm.MethodName)) ∈ gz_T := gz_at 869 (by decide +kernel) rfl
theorem gm_871 : (Jvm.Cond.instanceMethod ({ cls := "WellCourt$Planner", name := "canDo", desc := "(III)Z" } : Jvm.MethodName)) ∈ gz_T := gz_at 871 (by decide +kernel) rfl
theorem gm_872 : (Jvm.Cond.code ({ cls := "WellCourt$Planner", name := "canDo", desc := "(III)Z" } : Jvm.MethodName) prog_8_method_8_code (5 : Nat) (Option.some Jvm.ClassFile.FieldType.boolean)) ∈ gz_T := gz_at 872 (by decide +kernel) rfl
theorem gm_873 : (Jvm.Cond.methodLink "WellCourt$Planner" (137 : Nat) ({ cls := "WellCourt$Day", name := "isRight", desc := "(LWellCourt$Law;II)Z" } : Jvm.MethodName)) ∈ gz_T := gz_at 873 (by decide +kernel) rfl
theorem gn_89 : (Jvm.Cond.fieldLinkNest "WellCourt$Planner" (141 : Nat) "WellCourt$Land" "wayDays" "[[I" "WellCourt") ∈ gzN := gz_nest 89 (by decide +kernel) rfl
theorem gn_122 : (Jvm.Cond.fieldLinkNest "WellCourt$Planner" (128 : Nat) "WellCourt$Day" "level" "[I" "WellCourt") ∈ gzN := gz_nest 122 (by decide +kernel) rfl
theorem gn_158 : (Jvm.Cond.fieldLinkNest "WellCourt$Planner" (134 : Nat) "WellCourt$Flock" "clan" "[I" "WellCourt") ∈ gzN := gz_nest 158 (by decide +kernel) rfl
theorem gn_161 : (Jvm.Cond.fieldLinkNest "WellCourt$Planner" (131 : Nat) "WellCourt$Flock" "need" "[I" "WellCourt") ∈ gzN := gz_nest 161 (by decide +kernel) rfl
theorem gn_163 : (Jvm.Cond.fieldLinkNest "WellCourt$Planner" (146 : Nat) "WellCourt$Flock" "lasts" "[I" "WellCourt") ∈ gzN := gz_nest 163 (by decide +kernel) rfl
theorem gn_165 : (Jvm.Cond.fieldLinkNest "WellCourt$Planner" (72 : Nat) "WellCourt$Flock" "place" "[I" "WellCourt") ∈ gzN := gz_nest 165 (by decide +kernel) rfl
theorem gn_168 : (Jvm.Cond.fieldLinkNest "WellCourt$Planner" (76 : Nat) "WellCourt$Flock" "drank" "[I" "WellCourt") ∈ gzN := gz_nest 168 (by decide +kernel) rfl
theorem gn_720 : (Jvm.Cond.methodLinkNest "WellCourt$Planner" (110 : Nat) ({ cls := "WellCourt", name := "isHerd", desc := "(I)Z" } : Jvm.MethodName) "WellCourt") ∈ gzN := gz_nest 720 (by decide +kernel) rfl
theorem gs_26 : (Jvm.Cond.selects "WellCourt$Planner" ({ cls := "WellCourt$Planner", name := "canDo", desc := "(III)Z" } : Jvm.MethodName) ({ cls := "WellCourt$Planner", name := "canDo", desc := "(III)Z" } : Jvm.MethodName)) ∈ gz_T := gz_sel 26 (by decide +kernel) rfl
theorem inX6 : ∀ w ∈ u_ws RX6 TX6 15, w ∈ gz_T := gz_inX [260, 262, 264, 266, 268, 270, 272, 274, 276, 278, 280, 282, 284, 286, 288] (by decide +kernel) (by decide +kernel)
theorem dX6_actOf_0 : decode cX6_actOf 0 = .ok (.iload_n 1, 1) := by decide +kernel
theorem dX6_actOf_1 : decode cX6_actOf 1 = .ok (.invokestatic 110, 3) := by decide +kernel
theorem dX6_actOf_4 : decode cX6_actOf 4 = .ok (.ifCond .eq 24, 3) := by decide +kernel
theorem dX6_actOf_7 : decode cX6_actOf 7 = .ok (.iload_n 2, 1) := by decide +kernel
theorem dX6_actOf_8 : decode cX6_actOf 8 = .ok (.aload_n 0, 1) := by decide +kernel
theorem dX6_actOf_9 : decode cX6_actOf 9 = .ok (.getfield 45, 3) := by decide +kernel
theorem dX6_actOf_12 : decode cX6_actOf 12 = .ok (.if_icmp .le 16, 3) := by decide +kernel
theorem dX6_actOf_15 : decode cX6_actOf 15 = .ok (.iload_n 2, 1) := by decide +kernel
theorem dX6_actOf_16 : decode cX6_actOf 16 = .ok (.aload_n 0, 1) := by decide +kernel
theorem dX6_actOf_17 : decode cX6_actOf 17 = .ok (.getfield 45, 3) := by decide +kernel
theorem dX6_actOf_20 : decode cX6_actOf 20 = .ok (.aload_n 0, 1) := by decide +kernel
theorem dX6_actOf_21 : decode cX6_actOf 21 = .ok (.getfield 48, 3) := by decide +kernel
theorem dX6_actOf_24 : decode cX6_actOf 24 = .ok (.iadd, 1) := by decide +kernel
theorem dX6_actOf_25 : decode cX6_actOf 25 = .ok (.if_icmp .le 5, 3) := by decide +kernel
theorem dX6_actOf_28 : decode cX6_actOf 28 = .ok (.iconst (-1), 1) := by decide +kernel
theorem dX6_actOf_29 : decode cX6_actOf 29 = .ok (.ireturn, 1) := by decide +kernel
theorem dX6_actOf_30 : decode cX6_actOf 30 = .ok (.aload_n 0, 1) := by decide +kernel
theorem dX6_actOf_31 : decode cX6_actOf 31 = .ok (.getfield 42, 3) := by decide +kernel
theorem dX6_actOf_34 : decode cX6_actOf 34 = .ok (.iload_n 2, 1) := by decide +kernel
theorem dX6_actOf_35 : decode cX6_actOf 35 = .ok (.aload_n 0, 1) := by decide +kernel
theorem dX6_actOf_36 : decode cX6_actOf 36 = .ok (.getfield 45, 3) := by decide +kernel
theorem dX6_actOf_39 : decode cX6_actOf 39 = .ok (.isub, 1) := by decide +kernel
theorem dX6_actOf_40 : decode cX6_actOf 40 = .ok (.iconst 1, 1) := by decide +kernel
theorem dX6_actOf_41 : decode cX6_actOf 41 = .ok (.isub, 1) := by decide +kernel
theorem dX6_actOf_42 : decode cX6_actOf 42 = .ok (.iconst 4, 1) := by decide +kernel
theorem dX6_actOf_43 : decode cX6_actOf 43 = .ok (.imul, 1) := by decide +kernel
theorem dX6_actOf_44 : decode cX6_actOf 44 = .ok (.iload_n 1, 1) := by decide +kernel
theorem dX6_actOf_45 : decode cX6_actOf 45 = .ok (.iadd, 1) := by decide +kernel
theorem dX6_actOf_46 : decode cX6_actOf 46 = .ok (.iaload, 1) := by decide +kernel
theorem dX6_actOf_47 : decode cX6_actOf 47 = .ok (.ireturn, 1) := by decide +kernel
theorem dX6_canDo_0 : decode cX6_canDo 0 = .ok (.aload_n 0, 1) := by decide +kernel
theorem dX6_canDo_1 : decode cX6_canDo 1 = .ok (.getfield 23, 3) := by decide +kernel
theorem dX6_canDo_4 : decode cX6_canDo 4 = .ok (.iload_n 1, 1) := by decide +kernel
theorem dX6_canDo_5 : decode cX6_canDo 5 = .ok (.iconst 1, 1) := by decide +kernel
theorem dX6_canDo_6 : decode cX6_canDo 6 = .ok (.isub, 1) := by decide +kernel
theorem dX6_canDo_7 : decode cX6_canDo 7 = .ok (.aaload, 1) := by decide +kernel
theorem dX6_canDo_8 : decode cX6_canDo 8 = .ok (.iload_n 2, 1) := by decide +kernel
theorem dX6_canDo_9 : decode cX6_canDo 9 = .ok (.iaload, 1) := by decide +kernel
theorem dX6_canDo_10 : decode cX6_canDo 10 = .ok (.istore 4, 2) := by decide +kernel
theorem dX6_canDo_12 : decode cX6_canDo 12 = .ok (.iload_n 3, 1) := by decide +kernel
theorem dX6_canDo_13 : decode cX6_canDo 13 = .ok (.ifCond .ne 60, 3) := by decide +kernel
theorem dX6_canDo_16 : decode cX6_canDo 16 = .ok (.aload_n 0, 1) := by decide +kernel
theorem dX6_canDo_17 : decode cX6_canDo 17 = .ok (.getfield 17, 3) := by decide +kernel
theorem dX6_canDo_20 : decode cX6_canDo 20 = .ok (.iload_n 1, 1) := by decide +kernel
theorem dX6_canDo_21 : decode cX6_canDo 21 = .ok (.aaload, 1) := by decide +kernel
theorem dX6_canDo_22 : decode cX6_canDo 22 = .ok (.getfield 128, 3) := by decide +kernel
theorem dX6_canDo_25 : decode cX6_canDo 25 = .ok (.iload 4, 2) := by decide +kernel
theorem dX6_canDo_27 : decode cX6_canDo 27 = .ok (.iaload, 1) := by decide +kernel
theorem dX6_canDo_28 : decode cX6_canDo 28 = .ok (.aload_n 0, 1) := by decide +kernel
theorem dX6_canDo_29 : decode cX6_canDo 29 = .ok (.getfield 59, 3) := by decide +kernel
theorem dX6_canDo_32 : decode cX6_canDo 32 = .ok (.getfield 131, 3) := by decide +kernel
theorem dX6_canDo_35 : decode cX6_canDo 35 = .ok (.iload_n 2, 1) := by decide +kernel
theorem dX6_canDo_36 : decode cX6_canDo 36 = .ok (.iaload, 1) := by decide +kernel
theorem dX6_canDo_37 : decode cX6_canDo 37 = .ok (.if_icmp .lt 34, 3) := by decide +kernel
theorem dX6_canDo_40 : decode cX6_canDo 40 = .ok (.aload_n 0, 1) := by decide +kernel
theorem dX6_canDo_41 : decode cX6_canDo 41 = .ok (.getfield 17, 3) := by decide +kernel
theorem dX6_canDo_44 : decode cX6_canDo 44 = .ok (.iload_n 1, 1) := by decide +kernel
theorem dX6_canDo_45 : decode cX6_canDo 45 = .ok (.aaload, 1) := by decide +kernel
theorem dX6_canDo_46 : decode cX6_canDo 46 = .ok (.aload_n 0, 1) := by decide +kernel
theorem dX6_canDo_47 : decode cX6_canDo 47 = .ok (.getfield 63, 3) := by decide +kernel
theorem dX6_canDo_50 : decode cX6_canDo 50 = .ok (.iload 4, 2) := by decide +kernel
theorem dX6_canDo_52 : decode cX6_canDo 52 = .ok (.aload_n 0, 1) := by decide +kernel
theorem dX6_canDo_53 : decode cX6_canDo 53 = .ok (.getfield 59, 3) := by decide +kernel
theorem dX6_canDo_56 : decode cX6_canDo 56 = .ok (.getfield 134, 3) := by decide +kernel
theorem dX6_canDo_59 : decode cX6_canDo 59 = .ok (.iload_n 2, 1) := by decide +kernel
theorem dX6_canDo_60 : decode cX6_canDo 60 = .ok (.iaload, 1) := by decide +kernel
theorem dX6_canDo_61 : decode cX6_canDo 61 = .ok (.invokevirtual 137, 3) := by decide +kernel
theorem dX6_canDo_64 : decode cX6_canDo 64 = .ok (.ifCond .eq 7, 3) := by decide +kernel
theorem dX6_canDo_67 : decode cX6_canDo 67 = .ok (.iconst 1, 1) := by decide +kernel
theorem dX6_canDo_68 : decode cX6_canDo 68 = .ok (.goto 4, 3) := by decide +kernel
theorem dX6_canDo_71 : decode cX6_canDo 71 = .ok (.iconst 0, 1) := by decide +kernel
theorem dX6_canDo_72 : decode cX6_canDo 72 = .ok (.ireturn, 1) := by decide +kernel
theorem dX6_canDo_73 : decode cX6_canDo 73 = .ok (.iload_n 3, 1) := by decide +kernel
theorem dX6_canDo_74 : decode cX6_canDo 74 = .ok (.iconst 1, 1) := by decide +kernel
theorem dX6_canDo_75 : decode cX6_canDo 75 = .ok (.if_icmp .eq 20, 3) := by decide +kernel
theorem dX6_canDo_78 : decode cX6_canDo 78 = .ok (.aload_n 0, 1) := by decide +kernel
theorem dX6_canDo_79 : decode cX6_canDo 79 = .ok (.getfield 51, 3) := by decide +kernel
theorem dX6_canDo_82 : decode cX6_canDo 82 = .ok (.getfield 141, 3) := by decide +kernel
theorem dX6_canDo_85 : decode cX6_canDo 85 = .ok (.iload 4, 2) := by decide +kernel
theorem dX6_canDo_87 : decode cX6_canDo 87 = .ok (.aaload, 1) := by decide +kernel
theorem dX6_canDo_88 : decode cX6_canDo 88 = .ok (.iload_n 3, 1) := by decide +kernel
theorem dX6_canDo_89 : decode cX6_canDo 89 = .ok (.iconst 2, 1) := by decide +kernel
theorem dX6_canDo_90 : decode cX6_canDo 90 = .ok (.isub, 1) := by decide +kernel
theorem dX6_canDo_91 : decode cX6_canDo 91 = .ok (.iaload, 1) := by decide +kernel
theorem dX6_canDo_92 : decode cX6_canDo 92 = .ok (.ifCond .le 7, 3) := by decide +kernel
theorem dX6_canDo_95 : decode cX6_canDo 95 = .ok (.iconst 1, 1) := by decide +kernel
theorem dX6_canDo_96 : decode cX6_canDo 96 = .ok (.goto 4, 3) := by decide +kernel
theorem dX6_canDo_99 : decode cX6_canDo 99 = .ok (.iconst 0, 1) := by decide +kernel
theorem dX6_canDo_100 : decode cX6_canDo 100 = .ok (.ireturn, 1) := by decide +kernel
theorem dX6_isGood_0 : decode cX6_isGood 0 = .ok (.iconst 0, 1) := by decide +kernel
theorem dX6_isGood_1 : decode cX6_isGood 1 = .ok (.istore_n 2, 1) := by decide +kernel
theorem dX6_isGood_2 : decode cX6_isGood 2 = .ok (.iload_n 2, 1) := by decide +kernel
theorem dX6_isGood_3 : decode cX6_isGood 3 = .ok (.iconst 4, 1) := by decide +kernel
theorem dX6_isGood_4 : decode cX6_isGood 4 = .ok (.if_icmp .ge 49, 3) := by decide +kernel
theorem dX6_isGood_7 : decode cX6_isGood 7 = .ok (.aload_n 0, 1) := by decide +kernel
theorem dX6_isGood_8 : decode cX6_isGood 8 = .ok (.getfield 59, 3) := by decide +kernel
theorem dX6_isGood_11 : decode cX6_isGood 11 = .ok (.iload_n 2, 1) := by decide +kernel
theorem dX6_isGood_12 : decode cX6_isGood 12 = .ok (.invokevirtual 121, 3) := by decide +kernel
theorem dX6_isGood_15 : decode cX6_isGood 15 = .ok (.ifCond .eq 32, 3) := by decide +kernel
theorem dX6_isGood_18 : decode cX6_isGood 18 = .ok (.aload_n 0, 1) := by decide +kernel
theorem dX6_isGood_19 : decode cX6_isGood 19 = .ok (.getfield 11, 3) := by decide +kernel
theorem dX6_isGood_22 : decode cX6_isGood 22 = .ok (.iload_n 1, 1) := by decide +kernel
theorem dX6_isGood_23 : decode cX6_isGood 23 = .ok (.iadd, 1) := by decide +kernel
theorem dX6_isGood_24 : decode cX6_isGood 24 = .ok (.aload_n 0, 1) := by decide +kernel
theorem dX6_isGood_25 : decode cX6_isGood 25 = .ok (.getfield 29, 3) := by decide +kernel
theorem dX6_isGood_28 : decode cX6_isGood 28 = .ok (.iload_n 1, 1) := by decide +kernel
theorem dX6_isGood_29 : decode cX6_isGood 29 = .ok (.aaload, 1) := by decide +kernel
theorem dX6_isGood_30 : decode cX6_isGood 30 = .ok (.iload_n 2, 1) := by decide +kernel
theorem dX6_isGood_31 : decode cX6_isGood 31 = .ok (.iaload, 1) := by decide +kernel
theorem dX6_isGood_32 : decode cX6_isGood 32 = .ok (.isub, 1) := by decide +kernel
theorem dX6_isGood_33 : decode cX6_isGood 33 = .ok (.aload_n 0, 1) := by decide +kernel
theorem dX6_isGood_34 : decode cX6_isGood 34 = .ok (.getfield 59, 3) := by decide +kernel
theorem dX6_isGood_37 : decode cX6_isGood 37 = .ok (.getfield 146, 3) := by decide +kernel
theorem dX6_isGood_40 : decode cX6_isGood 40 = .ok (.iload_n 2, 1) := by decide +kernel
theorem dX6_isGood_41 : decode cX6_isGood 41 = .ok (.iaload, 1) := by decide +kernel
theorem dX6_isGood_42 : decode cX6_isGood 42 = .ok (.if_icmp .le 5, 3) := by decide +kernel
theorem dX6_isGood_45 : decode cX6_isGood 45 = .ok (.iconst 0, 1) := by decide +kernel
theorem dX6_isGood_46 : decode cX6_isGood 46 = .ok (.ireturn, 1) := by decide +kernel
theorem dX6_isGood_47 : decode cX6_isGood 47 = .ok (.iinc 2 1, 3) := by decide +kernel
theorem dX6_isGood_50 : decode cX6_isGood 50 = .ok (.goto (-48), 3) := by decide +kernel
theorem dX6_isGood_53 : decode cX6_isGood 53 = .ok (.iconst 1, 1) := by decide +kernel
theorem dX6_isGood_54 : decode cX6_isGood 54 = .ok (.ireturn, 1) := by decide +kernel
theorem dX6_keepFound_0 : decode cX6_keepFound 0 = .ok (.aload_n 0, 1) := by decide +kernel
theorem dX6_keepFound_1 : decode cX6_keepFound 1 = .ok (.aload_n 0, 1) := by decide +kernel
theorem dX6_keepFound_2 : decode cX6_keepFound 2 = .ok (.getfield 11, 3) := by decide +kernel
theorem dX6_keepFound_5 : decode cX6_keepFound 5 = .ok (.putfield 45, 3) := by decide +kernel
theorem dX6_keepFound_8 : decode cX6_keepFound 8 = .ok (.aload_n 0, 1) := by decide +kernel
theorem dX6_keepFound_9 : decode cX6_keepFound 9 = .ok (.iload_n 1, 1) := by decide +kernel
theorem dX6_keepFound_10 : decode cX6_keepFound 10 = .ok (.putfield 48, 3) := by decide +kernel
theorem dX6_keepFound_13 : decode cX6_keepFound 13 = .ok (.iconst 0, 1) := by decide +kernel
theorem dX6_keepFound_14 : decode cX6_keepFound 14 = .ok (.istore_n 2, 1) := by decide +kernel
theorem dX6_keepFound_15 : decode cX6_keepFound 15 = .ok (.iload_n 2, 1) := by decide +kernel
theorem dX6_keepFound_16 : decode cX6_keepFound 16 = .ok (.iload_n 1, 1) := by decide +kernel
theorem dX6_keepFound_17 : decode cX6_keepFound 17 = .ok (.iconst 4, 1) := by decide +kernel
theorem dX6_keepFound_18 : decode cX6_keepFound 18 = .ok (.imul, 1) := by decide +kernel
theorem dX6_keepFound_19 : decode cX6_keepFound 19 = .ok (.if_icmp .ge 44, 3) := by decide +kernel
theorem dX6_keepFound_22 : decode cX6_keepFound 22 = .ok (.iload_n 2, 1) := by decide +kernel
theorem dX6_keepFound_23 : decode cX6_keepFound 23 = .ok (.bipush 56, 2) := by decide +kernel
theorem dX6_keepFound_25 : decode cX6_keepFound 25 = .ok (.if_icmp .ge 38, 3) := by decide +kernel
theorem dX6_keepFound_28 : decode cX6_keepFound 28 = .ok (.aload_n 0, 1) := by decide +kernel
theorem dX6_keepFound_29 : decode cX6_keepFound 29 = .ok (.getfield 42, 3) := by decide +kernel
theorem dX6_keepFound_32 : decode cX6_keepFound 32 = .ok (.iload_n 2, 1) := by decide +kernel
theorem dX6_keepFound_33 : decode cX6_keepFound 33 = .ok (.aload_n 0, 1) := by decide +kernel
theorem dX6_keepFound_34 : decode cX6_keepFound 34 = .ok (.getfield 59, 3) := by decide +kernel
theorem dX6_keepFound_37 : decode cX6_keepFound 37 = .ok (.iload_n 2, 1) := by decide +kernel
theorem dX6_keepFound_38 : decode cX6_keepFound 38 = .ok (.iconst 4, 1) := by decide +kernel
theorem dX6_keepFound_39 : decode cX6_keepFound 39 = .ok (.irem, 1) := by decide +kernel
theorem dX6_keepFound_40 : decode cX6_keepFound 40 = .ok (.invokevirtual 121, 3) := by decide +kernel
theorem dX6_keepFound_43 : decode cX6_keepFound 43 = .ok (.ifCond .eq 12, 3) := by decide +kernel
theorem dX6_keepFound_46 : decode cX6_keepFound 46 = .ok (.aload_n 0, 1) := by decide +kernel
theorem dX6_keepFound_47 : decode cX6_keepFound 47 = .ok (.getfield 32, 3) := by decide +kernel
theorem dX6_keepFound_50 : decode cX6_keepFound 50 = .ok (.iload_n 2, 1) := by decide +kernel
theorem dX6_keepFound_51 : decode cX6_keepFound 51 = .ok (.iaload, 1) := by decide +kernel
theorem dX6_keepFound_52 : decode cX6_keepFound 52 = .ok (.goto 4, 3) := by decide +kernel
theorem dX6_keepFound_55 : decode cX6_keepFound 55 = .ok (.iconst (-1), 1) := by decide +kernel
theorem dX6_keepFound_56 : decode cX6_keepFound 56 = .ok (.iastore, 1) := by decide +kernel
theorem dX6_keepFound_57 : decode cX6_keepFound 57 = .ok (.iinc 2 1, 3) := by decide +kernel
theorem dX6_keepFound_60 : decode cX6_keepFound 60 = .ok (.goto (-45), 3) := by decide +kernel
theorem dX6_keepFound_63 : decode cX6_keepFound 63 = .ok (.return_, 1) := by decide +kernel
theorem dX6_nextAct_0 : decode cX6_nextAct 0 = .ok (.iload_n 1, 1) := by decide +kernel
theorem dX6_nextAct_1 : decode cX6_nextAct 1 = .ok (.invokestatic 94, 3) := by decide +kernel
theorem dX6_nextAct_4 : decode cX6_nextAct 4 = .ok (.istore_n 2, 1) := by decide +kernel
theorem dX6_nextAct_5 : decode cX6_nextAct 5 = .ok (.iload_n 1, 1) := by decide +kernel
theorem dX6_nextAct_6 : decode cX6_nextAct 6 = .ok (.iconst 4, 1) := by decide +kernel
theorem dX6_nextAct_7 : decode cX6_nextAct 7 = .ok (.irem, 1) := by decide +kernel
theorem dX6_nextAct_8 : decode cX6_nextAct 8 = .ok (.istore_n 3, 1) := by decide +kernel
theorem dX6_nextAct_9 : decode cX6_nextAct 9 = .ok (.aload_n 0, 1) := by decide +kernel
theorem dX6_nextAct_10 : decode cX6_nextAct 10 = .ok (.getfield 32, 3) := by decide +kernel
theorem dX6_nextAct_13 : decode cX6_nextAct 13 = .ok (.iload_n 1, 1) := by decide +kernel
theorem dX6_nextAct_14 : decode cX6_nextAct 14 = .ok (.iaload, 1) := by decide +kernel
theorem dX6_nextAct_15 : decode cX6_nextAct 15 = .ok (.istore 4, 2) := by decide +kernel
theorem dX6_nextAct_17 : decode cX6_nextAct 17 = .ok (.aload_n 0, 1) := by decide +kernel
theorem dX6_nextAct_18 : decode cX6_nextAct 18 = .ok (.getfield 59, 3) := by decide +kernel
theorem dX6_nextAct_21 : decode cX6_nextAct 21 = .ok (.iload_n 3, 1) := by decide +kernel
theorem dX6_nextAct_22 : decode cX6_nextAct 22 = .ok (.invokevirtual 121, 3) := by decide +kernel
theorem dX6_nextAct_25 : decode cX6_nextAct 25 = .ok (.ifCond .eq 17, 3) := by decide +kernel
theorem dX6_nextAct_28 : decode cX6_nextAct 28 = .ok (.aload_n 0, 1) := by decide +kernel
theorem dX6_nextAct_29 : decode cX6_nextAct 29 = .ok (.getfield 26, 3) := by decide +kernel
theorem dX6_nextAct_32 : decode cX6_nextAct 32 = .ok (.iload_n 2, 1) := by decide +kernel
theorem dX6_nextAct_33 : decode cX6_nextAct 33 = .ok (.iconst 1, 1) := by decide +kernel
theorem dX6_nextAct_34 : decode cX6_nextAct 34 = .ok (.isub, 1) := by decide +kernel
theorem dX6_nextAct_35 : decode cX6_nextAct 35 = .ok (.aaload, 1) := by decide +kernel
theorem dX6_nextAct_36 : decode cX6_nextAct 36 = .ok (.iload_n 3, 1) := by decide +kernel
theorem dX6_nextAct_37 : decode cX6_nextAct 37 = .ok (.iaload, 1) := by decide +kernel
theorem dX6_nextAct_38 : decode cX6_nextAct 38 = .ok (.iload_n 2, 1) := by decide +kernel
theorem dX6_nextAct_39 : decode cX6_nextAct 39 = .ok (.if_icmp .le 16, 3) := by decide +kernel
theorem dX6_nextAct_42 : decode cX6_nextAct 42 = .ok (.iload 4, 2) := by decide +kernel
theorem dX6_nextAct_44 : decode cX6_nextAct 44 = .ok (.iconst (-1), 1) := by decide +kernel
theorem dX6_nextAct_45 : decode cX6_nextAct 45 = .ok (.if_icmp .ne 8, 3) := by decide +kernel
theorem dX6_nextAct_48 : decode cX6_nextAct 48 = .ok (.bipush 9, 2) := by decide +kernel
theorem dX6_nextAct_50 : decode cX6_nextAct 50 = .ok (.goto 4, 3) := by decide +kernel
theorem dX6_nextAct_53 : decode cX6_nextAct 53 = .ok (.iconst (-1), 1) := by decide +kernel
theorem dX6_nextAct_54 : decode cX6_nextAct 54 = .ok (.ireturn, 1) := by decide +kernel
theorem dX6_nextAct_55 : decode cX6_nextAct 55 = .ok (.iload 4, 2) := by decide +kernel
theorem dX6_nextAct_57 : decode cX6_nextAct 57 = .ok (.iconst 1, 1) := by decide +kernel
theorem dX6_nextAct_58 : decode cX6_nextAct 58 = .ok (.iadd, 1) := by decide +kernel
theorem dX6_nextAct_59 : decode cX6_nextAct 59 = .ok (.istore 5, 2) := by decide +kernel
theorem dX6_nextAct_61 : decode cX6_nextAct 61 = .ok (.iload 5, 2) := by decide +kernel
theorem dX6_nextAct_63 : decode cX6_nextAct 63 = .ok (.bipush 7, 2) := by decide +kernel
theorem dX6_nextAct_65 : decode cX6_nextAct 65 = .ok (.if_icmp .gt 23, 3) := by decide +kernel
theorem dX6_nextAct_68 : decode cX6_nextAct 68 = .ok (.aload_n 0, 1) := by decide +kernel
theorem dX6_nextAct_69 : decode cX6_nextAct 69 = .ok (.iload_n 2, 1) := by decide +kernel
theorem dX6_nextAct_70 : decode cX6_nextAct 70 = .ok (.iload_n 3, 1) := by decide +kernel
theorem dX6_nextAct_71 : decode cX6_nextAct 71 = .ok (.iload 5, 2) := by decide +kernel
theorem dX6_nextAct_73 : decode cX6_nextAct 73 = .ok (.invokevirtual 124, 3) := by decide +kernel
theorem dX6_nextAct_76 : decode cX6_nextAct 76 = .ok (.ifCond .eq 6, 3) := by decide +kernel
theorem dX6_nextAct_79 : decode cX6_nextAct 79 = .ok (.iload 5, 2) := by decide +kernel
theorem dX6_nextAct_81 : decode cX6_nextAct 81 = .ok (.ireturn, 1) := by decide +kernel
theorem dX6_nextAct_82 : decode cX6_nextAct 82 = .ok (.iinc 5 1, 3) := by decide +kernel
theorem dX6_nextAct_85 : decode cX6_nextAct 85 = .ok (.goto (-24), 3) := by decide +kernel
theorem dX6_nextAct_88 : decode cX6_nextAct 88 = .ok (.iconst (-1), 1) := by decide +kernel
theorem dX6_nextAct_89 : decode cX6_nextAct 89 = .ok (.ireturn, 1) := by decide +kernel
theorem dX6_openDay_0 : decode cX6_openDay 0 = .ok (.iload_n 1, 1) := by decide +kernel
theorem dX6_openDay_1 : decode cX6_openDay 1 = .ok (.iconst 1, 1) := by decide +kernel
theorem dX6_openDay_2 : decode cX6_openDay 2 = .ok (.if_icmp .lt 9, 3) := by decide +kernel
theorem dX6_openDay_5 : decode cX6_openDay 5 = .ok (.iload_n 1, 1) := by decide +kernel
theorem dX6_openDay_6 : decode cX6_openDay 6 = .ok (.bipush 14, 2) := by decide +kernel
theorem dX6_openDay_8 : decode cX6_openDay 8 = .ok (.if_icmp .le 4, 3) := by decide +kernel
theorem dX6_openDay_11 : decode cX6_openDay 11 = .ok (.return_, 1) := by decide +kernel
theorem dX6_openDay_12 : decode cX6_openDay 12 = .ok (.aload_n 0, 1) := by decide +kernel
theorem dX6_openDay_13 : decode cX6_openDay 13 = .ok (.getfield 17, 3) := by decide +kernel
theorem dX6_openDay_16 : decode cX6_openDay 16 = .ok (.iload_n 1, 1) := by decide +kernel
theorem dX6_openDay_17 : decode cX6_openDay 17 = .ok (.aaload, 1) := by decide +kernel
theorem dX6_openDay_18 : decode cX6_openDay 18 = .ok (.aload_n 0, 1) := by decide +kernel
theorem dX6_openDay_19 : decode cX6_openDay 19 = .ok (.getfield 17, 3) := by decide +kernel
theorem dX6_openDay_22 : decode cX6_openDay 22 = .ok (.iload_n 1, 1) := by decide +kernel
theorem dX6_openDay_23 : decode cX6_openDay 23 = .ok (.iconst 1, 1) := by decide +kernel
theorem dX6_openDay_24 : decode cX6_openDay 24 = .ok (.isub, 1) := by decide +kernel
theorem dX6_openDay_25 : decode cX6_openDay 25 = .ok (.aaload, 1) := by decide +kernel
theorem dX6_openDay_26 : decode cX6_openDay 26 = .ok (.aload_n 0, 1) := by decide +kernel
theorem dX6_openDay_27 : decode cX6_openDay 27 = .ok (.getfield 51, 3) := by decide +kernel
theorem dX6_openDay_30 : decode cX6_openDay 30 = .ok (.invokevirtual 113, 3) := by decide +kernel
theorem dX6_openDay_33 : decode cX6_openDay 33 = .ok (.aload_n 0, 1) := by decide +kernel
theorem dX6_openDay_34 : decode cX6_openDay 34 = .ok (.getfield 17, 3) := by decide +kernel
theorem dX6_openDay_37 : decode cX6_openDay 37 = .ok (.iload_n 1, 1) := by decide +kernel
theorem dX6_openDay_38 : decode cX6_openDay 38 = .ok (.aaload, 1) := by decide +kernel
theorem dX6_openDay_39 : decode cX6_openDay 39 = .ok (.aload_n 0, 1) := by decide +kernel
theorem dX6_openDay_40 : decode cX6_openDay 40 = .ok (.getfield 63, 3) := by decide +kernel
theorem dX6_openDay_43 : decode cX6_openDay 43 = .ok (.aload_n 0, 1) := by decide +kernel
theorem dX6_openDay_44 : decode cX6_openDay 44 = .ok (.getfield 55, 3) := by decide +kernel
theorem dX6_openDay_47 : decode cX6_openDay 47 = .ok (.aload_n 0, 1) := by decide +kernel
theorem dX6_openDay_48 : decode cX6_openDay 48 = .ok (.getfield 11, 3) := by decide +kernel
theorem dX6_openDay_51 : decode cX6_openDay 51 = .ok (.iload_n 1, 1) := by decide +kernel
theorem dX6_openDay_52 : decode cX6_openDay 52 = .ok (.iadd, 1) := by decide +kernel
theorem dX6_openDay_53 : decode cX6_openDay 53 = .ok (.invokevirtual 117, 3) := by decide +kernel
theorem dX6_openDay_56 : decode cX6_openDay 56 = .ok (.return_, 1) := by decide +kernel
theorem dX6_perform_0 : decode cX6_perform 0 = .ok (.iload_n 1, 1) := by decide +kernel
theorem dX6_perform_1 : decode cX6_perform 1 = .ok (.invokestatic 94, 3) := by decide +kernel
theorem dX6_perform_4 : decode cX6_perform 4 = .ok (.istore_n 3, 1) := by decide +kernel
theorem dX6_perform_5 : decode cX6_perform 5 = .ok (.iload_n 1, 1) := by decide +kernel
theorem dX6_perform_6 : decode cX6_perform 6 = .ok (.iconst 4, 1) := by decide +kernel
theorem dX6_perform_7 : decode cX6_perform 7 = .ok (.irem, 1) := by decide +kernel
theorem dX6_perform_8 : decode cX6_perform 8 = .ok (.istore 4, 2) := by decide +kernel
theorem dX6_perform_10 : decode cX6_perform 10 = .ok (.aload_n 0, 1) := by decide +kernel
theorem dX6_perform_11 : decode cX6_perform 11 = .ok (.getfield 23, 3) := by decide +kernel
theorem dX6_perform_14 : decode cX6_perform 14 = .ok (.iload_n 3, 1) := by decide +kernel
theorem dX6_perform_15 : decode cX6_perform 15 = .ok (.iconst 1, 1) := by decide +kernel
theorem dX6_perform_16 : decode cX6_perform 16 = .ok (.isub, 1) := by decide +kernel
theorem dX6_perform_17 : decode cX6_perform 17 = .ok (.aaload, 1) := by decide +kernel
theorem dX6_perform_18 : decode cX6_perform 18 = .ok (.iload 4, 2) := by decide +kernel
theorem dX6_perform_20 : decode cX6_perform 20 = .ok (.iaload, 1) := by decide +kernel
theorem dX6_perform_21 : decode cX6_perform 21 = .ok (.istore 5, 2) := by decide +kernel
theorem dX6_perform_23 : decode cX6_perform 23 = .ok (.aload_n 0, 1) := by decide +kernel
theorem dX6_perform_24 : decode cX6_perform 24 = .ok (.getfield 32, 3) := by decide +kernel
theorem dX6_perform_27 : decode cX6_perform 27 = .ok (.iload_n 1, 1) := by decide +kernel
theorem dX6_perform_28 : decode cX6_perform 28 = .ok (.iload_n 2, 1) := by decide +kernel
theorem dX6_perform_29 : decode cX6_perform 29 = .ok (.iastore, 1) := by decide +kernel
theorem dX6_perform_30 : decode cX6_perform 30 = .ok (.aload_n 0, 1) := by decide +kernel
theorem dX6_perform_31 : decode cX6_perform 31 = .ok (.getfield 23, 3) := by decide +kernel
theorem dX6_perform_34 : decode cX6_perform 34 = .ok (.iload_n 3, 1) := by decide +kernel
theorem dX6_perform_35 : decode cX6_perform 35 = .ok (.aaload, 1) := by decide +kernel
theorem dX6_perform_36 : decode cX6_perform 36 = .ok (.iload 4, 2) := by decide +kernel
theorem dX6_perform_38 : decode cX6_perform 38 = .ok (.iload 5, 2) := by decide +kernel
theorem dX6_perform_40 : decode cX6_perform 40 = .ok (.iastore, 1) := by decide +kernel
theorem dX6_perform_41 : decode cX6_perform 41 = .ok (.aload_n 0, 1) := by decide +kernel
theorem dX6_perform_42 : decode cX6_perform 42 = .ok (.getfield 26, 3) := by decide +kernel
theorem dX6_perform_45 : decode cX6_perform 45 = .ok (.iload_n 3, 1) := by decide +kernel
theorem dX6_perform_46 : decode cX6_perform 46 = .ok (.aaload, 1) := by decide +kernel
theorem dX6_perform_47 : decode cX6_perform 47 = .ok (.iload 4, 2) := by decide +kernel
theorem dX6_perform_49 : decode cX6_perform 49 = .ok (.aload_n 0, 1) := by decide +kernel
theorem dX6_perform_50 : decode cX6_perform 50 = .ok (.getfield 26, 3) := by decide +kernel
theorem dX6_perform_53 : decode cX6_perform 53 = .ok (.iload_n 3, 1) := by decide +kernel
theorem dX6_perform_54 : decode cX6_perform 54 = .ok (.iconst 1, 1) := by decide +kernel
theorem dX6_perform_55 : decode cX6_perform 55 = .ok (.isub, 1) := by decide +kernel
theorem dX6_perform_56 : decode cX6_perform 56 = .ok (.aaload, 1) := by decide +kernel
theorem dX6_perform_57 : decode cX6_perform 57 = .ok (.iload 4, 2) := by decide +kernel
theorem dX6_perform_59 : decode cX6_perform 59 = .ok (.iaload, 1) := by decide +kernel
theorem dX6_perform_60 : decode cX6_perform 60 = .ok (.iastore, 1) := by decide +kernel
theorem dX6_perform_61 : decode cX6_perform 61 = .ok (.aload_n 0, 1) := by decide +kernel
theorem dX6_perform_62 : decode cX6_perform 62 = .ok (.getfield 29, 3) := by decide +kernel
theorem dX6_perform_65 : decode cX6_perform 65 = .ok (.iload_n 3, 1) := by decide +kernel
theorem dX6_perform_66 : decode cX6_perform 66 = .ok (.aaload, 1) := by decide +kernel
theorem dX6_perform_67 : decode cX6_perform 67 = .ok (.iload 4, 2) := by decide +kernel
theorem dX6_perform_69 : decode cX6_perform 69 = .ok (.aload_n 0, 1) := by decide +kernel
theorem dX6_perform_70 : decode cX6_perform 70 = .ok (.getfield 29, 3) := by decide +kernel
theorem dX6_perform_73 : decode cX6_perform 73 = .ok (.iload_n 3, 1) := by decide +kernel
theorem dX6_perform_74 : decode cX6_perform 74 = .ok (.iconst 1, 1) := by decide +kernel
theorem dX6_perform_75 : decode cX6_perform 75 = .ok (.isub, 1) := by decide +kernel
theorem dX6_perform_76 : decode cX6_perform 76 = .ok (.aaload, 1) := by decide +kernel
theorem dX6_perform_77 : decode cX6_perform 77 = .ok (.iload 4, 2) := by decide +kernel
theorem dX6_perform_79 : decode cX6_perform 79 = .ok (.iaload, 1) := by decide +kernel
theorem dX6_perform_80 : decode cX6_perform 80 = .ok (.iastore, 1) := by decide +kernel
theorem dX6_perform_81 : decode cX6_perform 81 = .ok (.iload_n 2, 1) := by decide +kernel
theorem dX6_perform_82 : decode cX6_perform 82 = .ok (.ifCond .ne 46, 3) := by decide +kernel
theorem dX6_perform_85 : decode cX6_perform 85 = .ok (.aload_n 0, 1) := by decide +kernel
theorem dX6_perform_86 : decode cX6_perform 86 = .ok (.getfield 17, 3) := by decide +kernel
theorem dX6_perform_89 : decode cX6_perform 89 = .ok (.iload_n 3, 1) := by decide +kernel
theorem dX6_perform_90 : decode cX6_perform 90 = .ok (.aaload, 1) := by decide +kernel
theorem dX6_perform_91 : decode cX6_perform 91 = .ok (.getfield 128, 3) := by decide +kernel
theorem dX6_perform_94 : decode cX6_perform 94 = .ok (.iload 5, 2) := by decide +kernel
theorem dX6_perform_96 : decode cX6_perform 96 = .ok (.dup2, 1) := by decide +kernel
theorem dX6_perform_97 : decode cX6_perform 97 = .ok (.iaload, 1) := by decide +kernel
theorem dX6_perform_98 : decode cX6_perform 98 = .ok (.aload_n 0, 1) := by decide +kernel
theorem dX6_perform_99 : decode cX6_perform 99 = .ok (.getfield 59, 3) := by decide +kernel
theorem dX6_perform_102 : decode cX6_perform 102 = .ok (.getfield 131, 3) := by decide +kernel
theorem dX6_perform_105 : decode cX6_perform 105 = .ok (.iload 4, 2) := by decide +kernel
theorem dX6_perform_107 : decode cX6_perform 107 = .ok (.iaload, 1) := by decide +kernel
theorem dX6_perform_108 : decode cX6_perform 108 = .ok (.isub, 1) := by decide +kernel
theorem dX6_perform_109 : decode cX6_perform 109 = .ok (.iastore, 1) := by decide +kernel
theorem dX6_perform_110 : decode cX6_perform 110 = .ok (.aload_n 0, 1) := by decide +kernel
theorem dX6_perform_111 : decode cX6_perform 111 = .ok (.getfield 29, 3) := by decide +kernel
theorem dX6_perform_114 : decode cX6_perform 114 = .ok (.iload_n 3, 1) := by decide +kernel
theorem dX6_perform_115 : decode cX6_perform 115 = .ok (.aaload, 1) := by decide +kernel
theorem dX6_perform_116 : decode cX6_perform 116 = .ok (.iload 4, 2) := by decide +kernel
theorem dX6_perform_118 : decode cX6_perform 118 = .ok (.aload_n 0, 1) := by decide +kernel
theorem dX6_perform_119 : decode cX6_perform 119 = .ok (.getfield 11, 3) := by decide +kernel
theorem dX6_perform_122 : decode cX6_perform 122 = .ok (.iload_n 3, 1) := by decide +kernel
theorem dX6_perform_123 : decode cX6_perform 123 = .ok (.iadd, 1) := by decide +kernel
theorem dX6_perform_124 : decode cX6_perform 124 = .ok (.iastore, 1) := by decide +kernel
theorem dX6_perform_125 : decode cX6_perform 125 = .ok (.goto 51, 3) := by decide +kernel
theorem dX6_perform_128 : decode cX6_perform 128 = .ok (.iload_n 2, 1) := by decide +kernel
theorem dX6_perform_129 : decode cX6_perform 129 = .ok (.iconst 2, 1) := by decide +kernel
theorem dX6_perform_130 : decode cX6_perform 130 = .ok (.if_icmp .lt 46, 3) := by decide +kernel
theorem dX6_perform_133 : decode cX6_perform 133 = .ok (.iload_n 2, 1) := by decide +kernel
theorem dX6_perform_134 : decode cX6_perform 134 = .ok (.bipush 7, 2) := by decide +kernel
theorem dX6_perform_136 : decode cX6_perform 136 = .ok (.if_icmp .gt 40, 3) := by decide +kernel
theorem dX6_perform_139 : decode cX6_perform 139 = .ok (.aload_n 0, 1) := by decide +kernel
theorem dX6_perform_140 : decode cX6_perform 140 = .ok (.getfield 23, 3) := by decide +kernel
theorem dX6_perform_143 : decode cX6_perform 143 = .ok (.iload_n 3, 1) := by decide +kernel
theorem dX6_perform_144 : decode cX6_perform 144 = .ok (.aaload, 1) := by decide +kernel
theorem dX6_perform_145 : decode cX6_perform 145 = .ok (.iload 4, 2) := by decide +kernel
theorem dX6_perform_147 : decode cX6_perform 147 = .ok (.iload_n 2, 1) := by decide +kernel
theorem dX6_perform_148 : decode cX6_perform 148 = .ok (.iconst 2, 1) := by decide +kernel
theorem dX6_perform_149 : decode cX6_perform 149 = .ok (.isub, 1) := by decide +kernel
theorem dX6_perform_150 : decode cX6_perform 150 = .ok (.iastore, 1) := by decide +kernel
theorem dX6_perform_151 : decode cX6_perform 151 = .ok (.aload_n 0, 1) := by decide +kernel
theorem dX6_perform_152 : decode cX6_perform 152 = .ok (.getfield 26, 3) := by decide +kernel
theorem dX6_perform_155 : decode cX6_perform 155 = .ok (.iload_n 3, 1) := by decide +kernel
theorem dX6_perform_156 : decode cX6_perform 156 = .ok (.aaload, 1) := by decide +kernel
theorem dX6_perform_157 : decode cX6_perform 157 = .ok (.iload 4, 2) := by decide +kernel
theorem dX6_perform_159 : decode cX6_perform 159 = .ok (.iload_n 3, 1) := by decide +kernel
theorem dX6_perform_160 : decode cX6_perform 160 = .ok (.aload_n 0, 1) := by decide +kernel
theorem dX6_perform_161 : decode cX6_perform 161 = .ok (.getfield 51, 3) := by decide +kernel
theorem dX6_perform_164 : decode cX6_perform 164 = .ok (.getfield 141, 3) := by decide +kernel
theorem dX6_perform_167 : decode cX6_perform 167 = .ok (.iload 5, 2) := by decide +kernel
theorem dX6_perform_169 : decode cX6_perform 169 = .ok (.aaload, 1) := by decide +kernel
theorem dX6_perform_170 : decode cX6_perform 170 = .ok (.iload_n 2, 1) := by decide +kernel
theorem dX6_perform_171 : decode cX6_perform 171 = .ok (.iconst 2, 1) := by decide +kernel
theorem dX6_perform_172 : decode cX6_perform 172 = .ok (.isub, 1) := by decide +kernel
theorem dX6_perform_173 : decode cX6_perform 173 = .ok (.iaload, 1) := by decide +kernel
theorem dX6_perform_174 : decode cX6_perform 174 = .ok (.iadd, 1) := by decide +kernel
theorem dX6_perform_175 : decode cX6_perform 175 = .ok (.iastore, 1) := by decide +kernel
theorem dX6_perform_176 : decode cX6_perform 176 = .ok (.return_, 1) := by decide +kernel
theorem dX6_rowOf_0 : decode cX6_rowOf 0 = .ok (.iload_n 0, 1) := by decide +kernel
theorem dX6_rowOf_1 : decode cX6_rowOf 1 = .ok (.iconst 4, 1) := by decide +kernel
theorem dX6_rowOf_2 : decode cX6_rowOf 2 = .ok (.idiv, 1) := by decide +kernel
theorem dX6_rowOf_3 : decode cX6_rowOf 3 = .ok (.iconst 1, 1) := by decide +kernel
theorem dX6_rowOf_4 : decode cX6_rowOf 4 = .ok (.iadd, 1) := by decide +kernel
theorem dX6_rowOf_5 : decode cX6_rowOf 5 = .ok (.ireturn, 1) := by decide +kernel
theorem dX6_start_0 : decode cX6_start 0 = .ok (.aload_n 0, 1) := by decide +kernel
theorem dX6_start_1 : decode cX6_start 1 = .ok (.aload_n 1, 1) := by decide +kernel
theorem dX6_start_2 : decode cX6_start 2 = .ok (.putfield 63, 3) := by decide +kernel
theorem dX6_start_5 : decode cX6_start 5 = .ok (.aload_n 0, 1) := by decide +kernel
theorem dX6_start_6 : decode cX6_start 6 = .ok (.iload_n 3, 1) := by decide +kernel
theorem dX6_start_7 : decode cX6_start 7 = .ok (.putfield 11, 3) := by decide +kernel
theorem dX6_start_10 : decode cX6_start 10 = .ok (.aload_n 0, 1) := by decide +kernel
theorem dX6_start_11 : decode cX6_start 11 = .ok (.iconst 0, 1) := by decide +kernel
theorem dX6_start_12 : decode cX6_start 12 = .ok (.putfield 36, 3) := by decide +kernel
theorem dX6_start_15 : decode cX6_start 15 = .ok (.aload_n 0, 1) := by decide +kernel
theorem dX6_start_16 : decode cX6_start 16 = .ok (.iconst 0, 1) := by decide +kernel
theorem dX6_start_17 : decode cX6_start 17 = .ok (.putfield 39, 3) := by decide +kernel
theorem dX6_start_20 : decode cX6_start 20 = .ok (.aload_n 0, 1) := by decide +kernel
theorem dX6_start_21 : decode cX6_start 21 = .ok (.getfield 17, 3) := by decide +kernel
theorem dX6_start_24 : decode cX6_start 24 = .ok (.iconst 0, 1) := by decide +kernel
theorem dX6_start_25 : decode cX6_start 25 = .ok (.aaload, 1) := by decide +kernel
theorem dX6_start_26 : decode cX6_start 26 = .ok (.aload_n 2, 1) := by decide +kernel
theorem dX6_start_27 : decode cX6_start 27 = .ok (.invokevirtual 68, 3) := by decide +kernel
theorem dX6_start_30 : decode cX6_start 30 = .ok (.iconst 0, 1) := by decide +kernel
theorem dX6_start_31 : decode cX6_start 31 = .ok (.istore 4, 2) := by decide +kernel
theorem dX6_start_33 : decode cX6_start 33 = .ok (.iload 4, 2) := by decide +kernel
theorem dX6_start_35 : decode cX6_start 35 = .ok (.iconst 4, 1) := by decide +kernel
theorem dX6_start_36 : decode cX6_start 36 = .ok (.if_icmp .ge 57, 3) := by decide +kernel
theorem dX6_start_39 : decode cX6_start 39 = .ok (.aload_n 0, 1) := by decide +kernel
theorem dX6_start_40 : decode cX6_start 40 = .ok (.getfield 23, 3) := by decide +kernel
theorem dX6_start_43 : decode cX6_start 43 = .ok (.iconst 0, 1) := by decide +kernel
theorem dX6_start_44 : decode cX6_start 44 = .ok (.aaload, 1) := by decide +kernel
theorem dX6_start_45 : decode cX6_start 45 = .ok (.iload 4, 2) := by decide +kernel
theorem dX6_start_47 : decode cX6_start 47 = .ok (.aload_n 0, 1) := by decide +kernel
theorem dX6_start_48 : decode cX6_start 48 = .ok (.getfield 59, 3) := by decide +kernel
theorem dX6_start_51 : decode cX6_start 51 = .ok (.getfield 72, 3) := by decide +kernel
theorem dX6_start_54 : decode cX6_start 54 = .ok (.iload 4, 2) := by decide +kernel
theorem dX6_start_56 : decode cX6_start 56 = .ok (.iaload, 1) := by decide +kernel
theorem dX6_start_57 : decode cX6_start 57 = .ok (.iastore, 1) := by decide +kernel
theorem dX6_start_58 : decode cX6_start 58 = .ok (.aload_n 0, 1) := by decide +kernel
theorem dX6_start_59 : decode cX6_start 59 = .ok (.getfield 26, 3) := by decide +kernel
theorem dX6_start_62 : decode cX6_start 62 = .ok (.iconst 0, 1) := by decide +kernel
theorem dX6_start_63 : decode cX6_start 63 = .ok (.aaload, 1) := by decide +kernel
theorem dX6_start_64 : decode cX6_start 64 = .ok (.iload 4, 2) := by decide +kernel
theorem dX6_start_66 : decode cX6_start 66 = .ok (.iconst 0, 1) := by decide +kernel
theorem dX6_start_67 : decode cX6_start 67 = .ok (.iastore, 1) := by decide +kernel
theorem dX6_start_68 : decode cX6_start 68 = .ok (.aload_n 0, 1) := by decide +kernel
theorem dX6_start_69 : decode cX6_start 69 = .ok (.getfield 29, 3) := by decide +kernel
theorem dX6_start_72 : decode cX6_start 72 = .ok (.iconst 0, 1) := by decide +kernel
theorem dX6_start_73 : decode cX6_start 73 = .ok (.aaload, 1) := by decide +kernel
theorem dX6_start_74 : decode cX6_start 74 = .ok (.iload 4, 2) := by decide +kernel
theorem dX6_start_76 : decode cX6_start 76 = .ok (.aload_n 0, 1) := by decide +kernel
theorem dX6_start_77 : decode cX6_start 77 = .ok (.getfield 59, 3) := by decide +kernel
theorem dX6_start_80 : decode cX6_start 80 = .ok (.getfield 76, 3) := by decide +kernel
theorem dX6_start_83 : decode cX6_start 83 = .ok (.iload 4, 2) := by decide +kernel
theorem dX6_start_85 : decode cX6_start 85 = .ok (.iaload, 1) := by decide +kernel
theorem dX6_start_86 : decode cX6_start 86 = .ok (.iastore, 1) := by decide +kernel
theorem dX6_start_87 : decode cX6_start 87 = .ok (.iinc 4 1, 3) := by decide +kernel
theorem dX6_start_90 : decode cX6_start 90 = .ok (.goto (-57), 3) := by decide +kernel
theorem dX6_start_93 : decode cX6_start 93 = .ok (.return_, 1) := by decide +kernel
theorem dX6_undo_0 : decode cX6_undo 0 = .ok (.aload_n 0, 1) := by decide +kernel
theorem dX6_undo_1 : decode cX6_undo 1 = .ok (.getfield 32, 3) := by decide +kernel
theorem dX6_undo_4 : decode cX6_undo 4 = .ok (.iload_n 1, 1) := by decide +kernel
theorem dX6_undo_5 : decode cX6_undo 5 = .ok (.iaload, 1) := by decide +kernel
theorem dX6_undo_6 : decode cX6_undo 6 = .ok (.ifCond .ne 42, 3) := by decide +kernel
theorem dX6_undo_9 : decode cX6_undo 9 = .ok (.iload_n 1, 1) := by decide +kernel
theorem dX6_undo_10 : decode cX6_undo 10 = .ok (.invokestatic 94, 3) := by decide +kernel
theorem dX6_undo_13 : decode cX6_undo 13 = .ok (.istore_n 2, 1) := by decide +kernel
theorem dX6_undo_14 : decode cX6_undo 14 = .ok (.iload_n 1, 1) := by decide +kernel
theorem dX6_undo_15 : decode cX6_undo 15 = .ok (.iconst 4, 1) := by decide +kernel
theorem dX6_undo_16 : decode cX6_undo 16 = .ok (.irem, 1) := by decide +kernel
theorem dX6_undo_17 : decode cX6_undo 17 = .ok (.istore_n 3, 1) := by decide +kernel
theorem dX6_undo_18 : decode cX6_undo 18 = .ok (.aload_n 0, 1) := by decide +kernel
theorem dX6_undo_19 : decode cX6_undo 19 = .ok (.getfield 17, 3) := by decide +kernel
theorem dX6_undo_22 : decode cX6_undo 22 = .ok (.iload_n 2, 1) := by decide +kernel
theorem dX6_undo_23 : decode cX6_undo 23 = .ok (.aaload, 1) := by decide +kernel
theorem dX6_undo_24 : decode cX6_undo 24 = .ok (.getfield 128, 3) := by decide +kernel
theorem dX6_undo_27 : decode cX6_undo 27 = .ok (.aload_n 0, 1) := by decide +kernel
theorem dX6_undo_28 : decode cX6_undo 28 = .ok (.getfield 23, 3) := by decide +kernel
theorem dX6_undo_31 : decode cX6_undo 31 = .ok (.iload_n 2, 1) := by decide +kernel
theorem dX6_undo_32 : decode cX6_undo 32 = .ok (.aaload, 1) := by decide +kernel
theorem dX6_undo_33 : decode cX6_undo 33 = .ok (.iload_n 3, 1) := by decide +kernel
theorem dX6_undo_34 : decode cX6_undo 34 = .ok (.iaload, 1) := by decide +kernel
theorem dX6_undo_35 : decode cX6_undo 35 = .ok (.dup2, 1) := by decide +kernel
theorem dX6_undo_36 : decode cX6_undo 36 = .ok (.iaload, 1) := by decide +kernel
theorem dX6_undo_37 : decode cX6_undo 37 = .ok (.aload_n 0, 1) := by decide +kernel
theorem dX6_undo_38 : decode cX6_undo 38 = .ok (.getfield 59, 3) := by decide +kernel
theorem dX6_undo_41 : decode cX6_undo 41 = .ok (.getfield 131, 3) := by decide +kernel
theorem dX6_undo_44 : decode cX6_undo 44 = .ok (.iload_n 3, 1) := by decide +kernel
theorem dX6_undo_45 : decode cX6_undo 45 = .ok (.iaload, 1) := by decide +kernel
theorem dX6_undo_46 : decode cX6_undo 46 = .ok (.iadd, 1) := by decide +kernel
theorem dX6_undo_47 : decode cX6_undo 47 = .ok (.iastore, 1) := by decide +kernel
theorem dX6_undo_48 : decode cX6_undo 48 = .ok (.return_, 1) := by decide +kernel
set_option maxHeartbeats 4000000 in
set_option maxRecDepth 100000 in
/-- WellCourt$Planner.start -/
theorem s_X6_start (l : Launch) (G : va_G) (cy : Nat → ClassId) (sK sV : Nat → Nat) (ad : Nat → Nat → Nat) (sz : Nat) (st : gS) (hB : gBd bX st) (z : Int32) (x : Int32) (Xx : Int) (kx : x.toInt = Xx) (hz_z : (0 : Int) ≤ z.toInt ∧ z.toInt ≤ (1 : Int)) (hx0 : 0 ≤ Xx) (hx1 : Xx ≤ 199) : gsMv l yX6_start cX6_start 5 ({ frames := 2, cells := 0, slots := 0, locals := 71 } : Room) G cy sK sV (shX cy ad) cnX ad sz [.ref (ad 38 0), .ref (ad 25 z.toNatClampNeg), .ref (ad 12 15), .int x] st (fun (u : gS) => gBN bX kX [1300, 3803, 3804, 3810, 3811, 4100, 4300, 4500] st u ∧ ((tdX st u) ∧ (u 38 0 4 = x) ∧ (u 38 0 3 = z))) := by
  refine gs_start (fun A => gsQv G (shX cy ad) cnX ad _ A) (by decide) (Nat.le_of_ble_eq_true rfl) ?_
  intro p e s m below meth c A ls H hx hb hr hml hlocks hown hts hK hov hE hI hM hm hS hA hl
  have hl : lv_has ls 5 [(0, .ref (ad 38 0)), (1, .ref (ad 25 z.toNatClampNeg)), (2, .ref (ad 12 15)), (3, .int x)] := hl
  have hB_st : gBN bX kX [1300, 3803, 3804, 3810, 3811, 4100, 4300, 4500] st st := gBN.rf hB
  generalize hQe : MQ below _ _ s _ _ A = Q
  refine lv_aload_n hx hb dX6_start_0 rfl (lv_at hl 0 rfl) ?_
  refine lv_aload_n hx hb dX6_start_1 rfl (lv_at hl 1 rfl) ?_
  refine gs_put (C := RX6) (T := TX6) (N := 15) (ty := .object "WellCourt$Law") (val := .ref (ad 25 z.toNatClampNeg)) hx hb hts inX6 tyX6 tyX6_ok nmX6 hown hK hI hm hM hS 38 0 3 (by decide) rfl rfl (by decide) (hts _ gm_246) (fun _ h9 => h9) rfl (z : Int32) rfl (by decide +kernel) rfl rfl (Nat.le_of_ble_eq_true rfl) dX6_start_2 (fun st_1 H locs est_1 hM hS => ?_)
  have hB_st_1 : gBN bX kX [1300, 3803, 3804, 3810, 3811, 4100, 4300, 4500] st st_1 := by rw [est_1]; exact hB_st.up (show (3803 : Nat) ∈ _ from by decide) (show (0 : Int) ≤ z.toInt from by omega) (show z.toInt ≤ (1 : Int) from by omega)
  refine lv_aload_n hx hb dX6_start_5 rfl (lv_at hl 0 rfl) ?_
  refine lv_iload_n hx hb dX6_start_6 rfl (lv_at hl 3 rfl) ?_
  refine gs_put (C := RX6) (T := TX6) (N := 15) (ty := .int) (val := .int x) hx hb hts inX6 tyX6 tyX6_ok nmX6 hown hK hI hm hM hS 38 0 4 (by decide) rfl rfl (by decide) (hts _ gm_247) (fun _ h9 => h9) rfl (x : Int32) rfl (by decide +kernel) rfl rfl (Nat.le_of_ble_eq_true rfl) dX6_start_7 (fun st_2 H locs est_2 hM hS => ?_)
  have hB_st_2 : gBN bX kX [1300, 3803, 3804, 3810, 3811, 4100, 4300, 4500] st st_2 := by rw [est_2]; exact hB_st_1.up (show (3804 : Nat) ∈ _ from by decide) (show (0 : Int) ≤ x.toInt from by omega) (show x.toInt ≤ (199 : Int) from by omega)
  refine lv_aload_n hx hb dX6_start_10 rfl (lv_at hl 0 rfl) ?_
  refine lv_iconst (v := 0) hx hb dX6_start_11 (by decide) ?_
  refine gs_put (C := RX6) (T := TX6) (N := 15) (ty := .int) (val := .int 0) hx hb hts inX6 tyX6 tyX6_ok nmX6 hown hK hI hm hM hS 38 0 10 (by decide) rfl rfl (by decide) (hts _ gm_253) (fun _ h9 => h9) rfl (0 : Int32) rfl (by decide +kernel) rfl rfl (Nat.le_of_ble_eq_true rfl) dX6_start_12 (fun st_3 H locs est_3 hM hS => ?_)
  have hB_st_3 : gBN bX kX [1300, 3803, 3804, 3810, 3811, 4100, 4300, 4500] st st_3 := by rw [est_3]; exact hB_st_2.up (show (3810 : Nat) ∈ _ from by decide) (gi_lo _) (gi_hi _)
  refine lv_aload_n hx hb dX6_start_15 rfl (lv_at hl 0 rfl) ?_
  refine lv_iconst (v := 0) hx hb dX6_start_16 (by decide) ?_
  refine gs_put (C := RX6) (T := TX6) (N := 15) (ty := .int) (val := .int 0) hx hb hts inX6 tyX6 tyX6_ok nmX6 hown hK hI hm hM hS 38 0 11 (by decide) rfl rfl (by decide) (hts _ gm_255) (fun _ h9 => h9) rfl (0 : Int32) rfl (by decide +kernel) rfl rfl (Nat.le_of_ble_eq_true rfl) dX6_start_17 (fun st_4 H locs est_4 hM hS => ?_)
  have hB_st_4 : gBN bX kX [1300, 3803, 3804, 3810, 3811, 4100, 4300, 4500] st st_4 := by rw [est_4]; exact hB_st_3.up (show (3811 : Nat) ∈ _ from by decide) (gi_lo _) (gi_hi _)
  refine lv_aload_n hx hb dX6_start_20 rfl (lv_at hl 0 rfl) ?_
  refine gs_get (C := RX6) (T := TX6) (N := 15) hx hb hts inX6 hown hK hM 38 0 5 (by decide) rfl rfl (by decide) (hts _ gm_248) (fun _ h9 => h9) rfl dX6_start_21 ?_
  refine lv_iconst (v := 0) hx hb dX6_start_24 (by decide) ?_
  refine gs_aldd hx hb hK hM 39 0 (by decide) rfl (vp_in_iff.mpr (by decide)) (a := ad 12 0) rfl dX6_start_25 ?_
  refine lv_aload_n hx hb dX6_start_26 rfl (lv_at hl 2 rfl) ?_
  refine gs_callv (va_runV (As := [.ref (ad 12 15)]) (rest := []) ⟨hx, hb, hml, hown, hts⟩ (s_X1_copyLevels l G cy sK sV ad H.size st_4 hB_st_4.1 0 15 (by decide) (by decide) (by first | decide | omega)) ⟨(gz_cb (n := 1) hts gm_843 gm_7 gm_846 ⟨by decide +kernel, by decide +kernel, by decide +kernel⟩ ⟨Nat.le_of_ble_eq_true rfl, Nat.le_of_ble_eq_true rfl⟩), hts _ gm_844, hts _ gm_845⟩ (gs_preV hK hov hE hI hM hm hS hA 12 0 (by decide) rfl rfl) rfl rfl hl.1 rfl (lv_room (Nat.le_of_ble_eq_true rfl)) dX6_start_27 ⟨Nat.le_of_ble_eq_true rfl, Nat.le_of_ble_eq_true rfl⟩) hm hS hA (fun st_5 H locs hw_5 hM hS => ?_)
  obtain ⟨n_5, hw_5⟩ := hw_5
  have hB_st_5 : gBN bX kX [1300, 3803, 3804, 3810, 3811, 4100, 4300, 4500] st st_5 := hB_st_4.call n_5 (by decide)
  have hw_5_0 := hw_5
  refine lv_iconst (v := 0) hx hb dX6_start_30 (by decide) ?_
  refine lv_istore (lv' := [(4, .int 0), (0, .ref (ad 38 0)), (1, .ref (ad 25 z.toNatClampNeg)), (2, .ref (ad 12 15)), (3, .int x)]) hx hb dX6_start_31 hl (by decide) rfl (fun ls hl => ?_)
  have lp6 : ∀ (n6 : Nat) (sv6 : gS) (y6_0 : Int32) (H : Heap) (locs : List Loc) (ls : Array Slot), (4 - y6_0.toInt).toNat < n6 → gBN bX kX [1300, 3803, 3804, 3810, 3811, 4100, 4300, 4500] st sv6 → (0 ≤ y6_0.toInt) → (sv6 38 0 4 = x) → (sv6 38 0 3 = z) → (tdX st sv6) → gM G (shX cy ad) cnX ad sv6 H → va_S A s.heap H locs → lv_has ls 5 [(4, .int y6_0), (0, .ref (ad 38 0)), (1, .ref (ad 25 z.toNatClampNeg)), (2, .ref (ad 12 15)), (3, .int x)] → W p l e ({ frames := 2, cells := 0, slots := 0, locals := 71 } : Room) s m [.ref (ad 38 0), .ref (ad 25 z.toNatClampNeg), .ref (ad 12 15), .int x].toArray below meth c H locs 0 0 Q (F0 m 33 ls []) := by
    intro n6
    induction n6 with
    | zero => intro sv6 y6_0 H locs ls h9; exact absurd h9 (Nat.not_lt_zero _)
    | succ n6 ih_6 =>
      intro sv6 y6_0 H locs ls hme6 hB_sv6 hv6_0 hv6_1 hv6_2 hv6_3 hM hS hl
      refine lv_iload hx hb dX6_start_33 (lv_at hl 0 rfl) ?_
      refine lv_iconst (v := 4) hx hb dX6_start_35 (by decide) ?_
      refine lv_icmp_ge (tgt := 93) hx hb dX6_start_36 (by decide) (fun c_7 => ?_) (fun c_7 => ?_)
      · have ic_7 := gz_le (by decide : (4 : Int32).toInt = 4) (rfl : y6_0.toInt = y6_0.toInt) c_7
        rw [← hQe]
        exact gs_vret hx hb hr hlocks hM hS ⟨hB_sv6, hv6_3, hv6_1, hv6_2⟩ (by exact Nat.le_refl _) (by exact Nat.le_refl _) dX6_start_93
      · have ic_7 := gz_nle (by decide : (4 : Int32).toInt = 4) (rfl : y6_0.toInt = y6_0.toInt) c_7
        refine lv_aload_n hx hb dX6_start_39 rfl (lv_at hl 1 rfl) ?_
        refine gs_get (C := RX6) (T := TX6) (N := 15) hx hb hts inX6 hown hK hM 38 0 6 (by decide) rfl rfl (by decide) (hts _ gm_249) (fun _ h9 => h9) rfl dX6_start_40 ?_
        refine lv_iconst (v := 0) hx hb dX6_start_43 (by decide) ?_
        refine gs_alda hx hb hK hM 40 0 (by decide) rfl (vp_in_iff.mpr (by decide)) (a := ad 41 0) rfl dX6_start_44 ?_
        refine lv_iload hx hb dX6_start_45 (lv_at hl 0 rfl) ?_
        refine lv_aload_n hx hb dX6_start_47 rfl (lv_at hl 1 rfl) ?_
        refine gs_get (C := RX6) (T := TX6) (N := 15) hx hb hts inX6 hown hK hM 38 0 2 (by decide) rfl rfl (by decide) (hts _ gm_245) (fun _ h9 => h9) rfl dX6_start_48 ?_
        refine gs_getN (host := "WellCourt") (C := RX2) (T := TX2) (N := 5) hx hb hts inX2 hown hK hM 19 0 3 (by decide) rfl rfl (by decide) (va_Nw.use rfl (hov.2.2 _ gn_165)) (fun _ h9 => h9) rfl dX6_start_51 ?_
        refine lv_iload hx hb dX6_start_54 (lv_at hl 0 rfl) ?_
        refine gs_iald hx hb hK hM 23 0 (by decide) rfl (vp_in_iff.mpr ⟨by omega, by omega⟩) dX6_start_56 ?_
        refine lv_topi (fun x_8 ex_8 => ?_)
        have qx_8 : x_8.toInt = (sv6 23 0 (y6_0.toNatClampNeg)).toInt := congrArg Int32.toInt ex_8
        have bx_8 : (0 : Int) ≤ x_8.toInt ∧ x_8.toInt ≤ (5 : Int) := by rw [qx_8]; exact hB_sv6.1 23 0 (y6_0.toNatClampNeg)
        have rx_8 : x_8.toInt = ((st 23 0 (y6_0.toNatClampNeg)) : Int32).toInt := by rw [ex_8]; exact congrArg Int32.toInt ((hB_sv6.2 23 0 (y6_0.toNatClampNeg) (show (2300 : Nat) ∉ _ from by decide)))
        refine gs_iast hx hb hK hI hm hM hS 41 0 (by decide) (fun _ => rfl) (vp_in_iff.mpr ⟨by omega, by omega⟩) dX6_start_57 (fun st_9 H locs est_9 hM hS => ?_)
        have hB_st_9 : gBN bX kX [1300, 3803, 3804, 3810, 3811, 4100, 4300, 4500] st st_9 := by rw [est_9]; exact hB_sv6.up (show (4100 : Nat) ∈ _ from by decide) (show (0 : Int) ≤ x_8.toInt from by omega) (show x_8.toInt ≤ (5 : Int) from by omega)
        refine lv_aload_n hx hb dX6_start_58 rfl (lv_at hl 1 rfl) ?_
        refine gs_get (C := RX6) (T := TX6) (N := 15) hx hb hts inX6 hown hK hM 38 0 7 (by decide) rfl rfl (by decide) (hts _ gm_250) (fun _ h9 => h9) rfl dX6_start_59 ?_
        refine lv_iconst (v := 0) hx hb dX6_start_62 (by decide) ?_
        refine gs_alda hx hb hK hM 42 0 (by decide) rfl (vp_in_iff.mpr (by decide)) (a := ad 43 0) rfl dX6_start_63 ?_
        refine lv_iload hx hb dX6_start_64 (lv_at hl 0 rfl) ?_
        refine lv_iconst (v := 0) hx hb dX6_start_66 (by decide) ?_
        refine gs_iast hx hb hK hI hm hM hS 43 0 (by decide) (fun _ => rfl) (vp_in_iff.mpr ⟨by omega, by omega⟩) dX6_start_67 (fun st_10 H locs est_10 hM hS => ?_)
        have hB_st_10 : gBN bX kX [1300, 3803, 3804, 3810, 3811, 4100, 4300, 4500] st st_10 := by rw [est_10]; exact hB_st_9.up (show (4300 : Nat) ∈ _ from by decide) (gi_lo _) (gi_hi _)
        refine lv_aload_n hx hb dX6_start_68 rfl (lv_at hl 1 rfl) ?_
        refine gs_get (C := RX6) (T := TX6) (N := 15) hx hb hts inX6 hown hK hM 38 0 8 (by decide) rfl rfl (by decide) (hts _ gm_251) (fun _ h9 => h9) rfl dX6_start_69 ?_
        refine lv_iconst (v := 0) hx hb dX6_start_72 (by decide) ?_
        refine gs_alda hx hb hK hM 44 0 (by decide) rfl (vp_in_iff.mpr (by decide)) (a := ad 45 0) rfl dX6_start_73 ?_
        refine lv_iload hx hb dX6_start_74 (lv_at hl 0 rfl) ?_
        refine lv_aload_n hx hb dX6_start_76 rfl (lv_at hl 1 rfl) ?_
        refine gs_get (C := RX6) (T := TX6) (N := 15) hx hb hts inX6 hown hK hM 38 0 2 (by decide) rfl rfl (by decide) (hts _ gm_245) (fun _ h9 => h9) rfl dX6_start_77 ?_
        refine gs_getN (host := "WellCourt") (C := RX2) (T := TX2) (N := 5) hx hb hts inX2 hown hK hM 19 0 4 (by decide) rfl rfl (by decide) (va_Nw.use rfl (hov.2.2 _ gn_168)) (fun _ h9 => h9) rfl dX6_start_80 ?_
        refine lv_iload hx hb dX6_start_83 (lv_at hl 0 rfl) ?_
        refine gs_iald hx hb hK hM 24 0 (by decide) rfl (vp_in_iff.mpr ⟨by omega, by omega⟩) dX6_start_85 ?_
        refine lv_topi (fun x_11 ex_11 => ?_)
        have qx_11 : x_11.toInt = (st_10 24 0 (y6_0.toNatClampNeg)).toInt := congrArg Int32.toInt ex_11
        have rx_11 : x_11.toInt = ((st 24 0 (y6_0.toNatClampNeg)) : Int32).toInt := by rw [ex_11]; exact congrArg Int32.toInt ((((congrFun (congrFun (congrFun est_10 24) 0) (y6_0.toNatClampNeg)).trans (congrFun (congrFun (gU_k (by decide)) 0) (y6_0.toNatClampNeg))).trans (((congrFun (congrFun (congrFun est_9 24) 0) (y6_0.toNatClampNeg)).trans (congrFun (congrFun (gU_k (by decide)) 0) (y6_0.toNatClampNeg))).trans (hB_sv6.2 24 0 (y6_0.toNatClampNeg) (show (2400 : Nat) ∉ _ from by decide)))))
        refine gs_iast hx hb hK hI hm hM hS 45 0 (by decide) (fun _ => rfl) (vp_in_iff.mpr ⟨by omega, by omega⟩) dX6_start_86 (fun st_12 H locs est_12 hM hS => ?_)
        have hB_st_12 : gBN bX kX [1300, 3803, 3804, 3810, 3811, 4100, 4300, 4500] st st_12 := by rw [est_12]; exact hB_st_10.up (show (4500 : Nat) ∈ _ from by decide) (gi_lo _) (gi_hi _)
        obtain ⟨x_13, ex_13⟩ : ∃ y : Int32, y = y6_0 + 1 := ⟨_, rfl⟩
        try have tx_13 : x_13.toInt = y6_0.toInt + 1 := by rw [ex_13]; exact gz_addP (x := y6_0.toInt) (y := 1) rfl (by decide) (by omega) (by omega)
        refine lv_iinc (v := (x_13)) (lv' := [(4, .int x_13), (0, .ref (ad 38 0)), (1, .ref (ad 25 z.toNatClampNeg)), (2, .ref (ad 12 15)), (3, .int x)]) hx hb dX6_start_87 hl (k := 0) rfl (by rw [ex_13]; rfl) (by decide) rfl (fun ls hl => ?_)
        refine lv_goto (tgt := 33) hx hb dX6_start_90 (by decide) ?_
        exact ih_6 st_12 (x_13 : Int32) H _ ls (by omega) hB_st_12 (by omega) ((((congrFun (congrFun (congrFun est_12 38) 0) 4).trans (congrFun (congrFun (gU_k (by decide)) 0) 4)).trans (((congrFun (congrFun (congrFun est_10 38) 0) 4).trans (congrFun (congrFun (gU_k (by decide)) 0) 4)).trans ((congrFun (congrFun (congrFun est_9 38) 0) 4).trans (congrFun (congrFun (gU_k (by decide)) 0) 4)))).trans hv6_1) ((((congrFun (congrFun (congrFun est_12 38) 0) 3).trans (congrFun (congrFun (gU_k (by decide)) 0) 3)).trans (((congrFun (congrFun (congrFun est_10 38) 0) 3).trans (congrFun (congrFun (gU_k (by decide)) 0) 3)).trans ((congrFun (congrFun (congrFun est_9 38) 0) 3).trans (congrFun (congrFun (gU_k (by decide)) 0) 3)))).trans hv6_2) (tdX.trans (tdX.trans (tdX.trans hv6_3 (tdX.upk est_9 (by decide))) (tdX.upk est_10 (by decide))) (tdX.upk est_12 (by decide))) hM hS (lv_sub hl [0, 1, 2, 3, 4] rfl)
  exact lp6 ((4 - ((0 : Int32) : Int32).toInt).toNat + 1) st_5 ((0 : Int32) : Int32) H _ ls (Nat.lt_succ_self _) hB_st_5 (by have hl0 : (0 : Int32).toInt = 0 := (by decide); omega) ((n_5.2 38 0 4 (show (3804 : Nat) ∉ _ from by decide)).trans (((congrFun (congrFun (congrFun est_4 38) 0) 4).trans (gU_other (by decide))).trans (((congrFun (congrFun (congrFun est_3 38) 0) 4).trans (gU_other (by decide))).trans ((congrFun (congrFun (congrFun est_2 38) 0) 4).trans (gU_same _ _ _ _ _))))) ((n_5.2 38 0 3 (show (3803 : Nat) ∉ _ from by decide)).trans (((congrFun (congrFun (congrFun est_4 38) 0) 3).trans (gU_other (by decide))).trans (((congrFun (congrFun (congrFun est_3 38) 0) 3).trans (gU_other (by decide))).trans (((congrFun (congrFun (congrFun est_2 38) 0) 3).trans (gU_other (by decide))).trans ((congrFun (congrFun (congrFun est_1 38) 0) 3).trans (gU_same _ _ _ _ _)))))) (tdX.trans (tdX.trans (tdX.trans (tdX.trans (tdX.trans tdX.rf (tdX.upk est_1 (by decide))) (tdX.upk est_2 (by decide))) (tdX.upk est_3 (by decide))) (tdX.upk est_4 (by decide))) (tdX.day hw_5_0 (by first | decide | omega))) hM hS (lv_sub hl [0, 1, 2, 3, 4] rfl)

set_option maxHeartbeats 4000000 in
set_option maxRecDepth 100000 in
/-- WellCourt$Planner.rowOf -/
theorem s_X6_rowOf (l : Launch) (G : va_G) (cy : Nat → ClassId) (sK sV : Nat → Nat) (ad : Nat → Nat → Nat) (sz : Nat) (st : gS) (hB : gBd bX st) (x : Int32) (Xx : Int) (kx : x.toInt = Xx) (hx0 : 0 ≤ Xx) (hx1 : Xx ≤ 55) : gsMi l yX6_rowOf cX6_rowOf 1 (some .int) ({ frames := 0, cells := 0, slots := 0, locals := 0 } : Room) G cy sK sV (shX cy ad) cnX ad sz [.int x] st (fun (r : Int32) (u : gS) => gBN bX kX [] st u ∧ ((1 ≤ r.toInt) ∧ (r.toInt ≤ 14) ∧ (4 * r.toInt ≤ Xx + 4) ∧ (Xx < 4 * r.toInt))) := by
  refine gs_start (fun A => gsQi G (shX cy ad) cnX ad _ A) (by decide) (Nat.le_of_ble_eq_true rfl) ?_
  intro p e s m below meth c A ls H hx hb hr hml hlocks hown hts hK hov hE hI hM hm hS hA hl
  have hl : lv_has ls 1 [(0, .int x)] := hl
  have hB_st : gBN bX kX [] st st := gBN.rf hB
  refine lv_iload_n hx hb dX6_rowOf_0 rfl (lv_at hl 0 rfl) ?_
  refine lv_iconst (v := 4) hx hb dX6_rowOf_1 (by decide) ?_
  refine lv_idiv hx hb dX6_rowOf_2 (by decide) ?_
  refine lv_topi (fun x_1 ex_1 => ?_)
  try have tx_1 := gs_div (y := 4) (by decide) (show 0 ≤ x.toInt from by omega) (by omega) ex_1
  refine lv_iconst (v := 1) hx hb dX6_rowOf_3 (by decide) ?_
  refine lv_iadd hx hb dX6_rowOf_4 ?_
  refine lv_topi (fun x_2 ex_2 => ?_)
  try have tx_2 : x_2.toInt = x_1.toInt + 1 := by rw [ex_2]; exact gz_addP (x := x_1.toInt) (y := 1) rfl (by decide) (by omega) (by omega)
  exact gs_iret hx hb hr hlocks hM hS rfl ⟨hB_st, (by omega), (by omega), (by omega), (by omega)⟩ (by exact Nat.le_refl _) (by exact Nat.le_refl _) dX6_rowOf_5

set_option maxHeartbeats 4000000 in
set_option maxRecDepth 100000 in
/-- WellCourt$Planner.openDay -/
theorem s_X6_openDay (l : Launch) (G : va_G) (cy : Nat → ClassId) (sK sV : Nat → Nat) (ad : Nat → Nat → Nat) (sz : Nat) (st : gS) (hB : gBd bX st) (x : Int32) (Xx : Int) (kx : x.toInt = Xx) (hdr : (st 38 0 4).toInt + Xx ≤ 199) (rs : List Rl) (hLp : LXa rs st (st 38 0 3).toNatClampNeg) (hwf : ∀ r ∈ rs, wfR r) : gsMv l yX6_openDay cX6_openDay 2 ({ frames := 3, cells := 0, slots := 0, locals := 67 } : Room) G cy sK sV (shX cy ad) cnX ad sz [.ref (ad 38 0), .int x] st (fun (u : gS) => gBN bX kX [1300, 1400, 1500] st u ∧ ((tdX st u))) := by
  refine gs_start (fun A => gsQv G (shX cy ad) cnX ad _ A) (by decide) (Nat.le_of_ble_eq_true rfl) ?_
  intro p e s m below meth c A ls H hx hb hr hml hlocks hown hts hK hov hE hI hM hm hS hA hl
  have hl : lv_has ls 2 [(0, .ref (ad 38 0)), (1, .int x)] := hl
  have hB_st : gBN bX kX [1300, 1400, 1500] st st := gBN.rf hB
  refine lv_iload_n hx hb dX6_openDay_0 rfl (lv_at hl 1 rfl) ?_
  refine lv_iconst (v := 1) hx hb dX6_openDay_1 (by decide) ?_
  refine lv_icmp_lt (tgt := 11) hx hb dX6_openDay_2 (by decide) (fun c_1 => ?_) (fun c_1 => ?_)
  · have ic_1 := gz_lt (rfl : x.toInt = x.toInt) (by decide : (1 : Int32).toInt = 1) c_1
    exact gs_vret hx hb hr hlocks hM hS ⟨hB_st, tdX.rf⟩ (by exact Nat.le_refl _) (by exact Nat.le_refl _) dX6_openDay_11
  · have ic_1 := gz_nlt (rfl : x.toInt = x.toInt) (by decide : (1 : Int32).toInt = 1) c_1
    refine lv_iload_n hx hb dX6_openDay_5 rfl (lv_at hl 1 rfl) ?_
    refine lv_bipush (v := 14) hx hb dX6_openDay_6 (by decide) ?_
    refine lv_icmp_le (tgt := 12) hx hb dX6_openDay_8 (by decide) (fun c_2 => ?_) (fun c_2 => ?_)
    · have ic_2 := gz_le (rfl : x.toInt = x.toInt) (by decide : (14 : Int32).toInt = 14) c_2
      refine lv_aload_n hx hb dX6_openDay_12 rfl (lv_at hl 0 rfl) ?_
      refine gs_get (C := RX6) (T := TX6) (N := 15) hx hb hts inX6 hown hK hM 38 0 5 (by decide) rfl rfl (by decide) (hts _ gm_248) (fun _ h9 => h9) rfl dX6_openDay_13 ?_
      refine lv_iload_n hx hb dX6_openDay_16 rfl (lv_at hl 1 rfl) ?_
      have h_3 : x.toNatClampNeg < 15 := gs_lt (vp_in_iff.mpr ⟨by omega, by omega⟩)
      refine gs_aldd hx hb hK hM 39 0 (by decide) rfl (vp_in_iff.mpr ⟨by omega, by omega⟩) (a := ad 12 x.toNatClampNeg) (if_pos h_3) dX6_openDay_17 ?_
      refine lv_aload_n hx hb dX6_openDay_18 rfl (lv_at hl 0 rfl) ?_
      refine gs_get (C := RX6) (T := TX6) (N := 15) hx hb hts inX6 hown hK hM 38 0 5 (by decide) rfl rfl (by decide) (hts _ gm_248) (fun _ h9 => h9) rfl dX6_openDay_19 ?_
      refine lv_iload_n hx hb dX6_openDay_22 rfl (lv_at hl 1 rfl) ?_
      refine lv_iconst (v := 1) hx hb dX6_openDay_23 (by decide) ?_
      refine lv_isub hx hb dX6_openDay_24 ?_
      refine lv_topi (fun x_4 ex_4 => ?_)
      try have tx_4 : x_4.toInt = x.toInt - 1 := by rw [ex_4]; exact gz_subP (x := x.toInt) (y := 1) rfl (by decide) (by omega) (by omega)
      have h_5 : x_4.toNatClampNeg < 15 := gs_lt (vp_in_iff.mpr ⟨by omega, by omega⟩)
      refine gs_aldd hx hb hK hM 39 0 (by decide) rfl (vp_in_iff.mpr ⟨by omega, by omega⟩) (a := ad 12 x_4.toNatClampNeg) (if_pos h_5) dX6_openDay_25 ?_
      refine lv_aload_n hx hb dX6_openDay_26 rfl (lv_at hl 0 rfl) ?_
      refine gs_get (C := RX6) (T := TX6) (N := 15) hx hb hts inX6 hown hK hM 38 0 0 (by decide) rfl rfl (by decide) (hts _ gm_243) (fun _ h9 => h9) rfl dX6_openDay_27 ?_
      refine gs_callv (va_runV (As := [.ref (ad 12 x_4.toNatClampNeg), .ref (ad 4 0)]) (rest := []) ⟨hx, hb, hml, hown, hts⟩ (s_X1_grow l G cy sK sV ad H.size st hB_st.1 x.toNatClampNeg x_4.toNatClampNeg (Nat.lt_trans h_3 (by decide)) (Nat.lt_trans h_5 (by decide)) ) ⟨(gz_cb (n := 2) hts gm_858 gm_7 gm_578 ⟨by decide +kernel, by decide +kernel, by decide +kernel⟩ ⟨Nat.le_of_ble_eq_true rfl, Nat.le_of_ble_eq_true rfl⟩), hts _ gm_576, hts _ gm_577⟩ (gs_preV hK hov hE hI hM hm hS hA 12 x.toNatClampNeg (Nat.lt_trans h_3 (by decide)) rfl rfl) rfl rfl hl.1 rfl (lv_room (Nat.le_of_ble_eq_true rfl)) dX6_openDay_30 ⟨Nat.le_of_ble_eq_true rfl, Nat.le_of_ble_eq_true rfl⟩) hm hS hA (fun st_6 H locs hw_6 hM hS => ?_)
      obtain ⟨n_6, hw_6⟩ := hw_6
      have hB_st_6 : gBN bX kX [1300, 1400, 1500] st st_6 := hB_st.call n_6 (by decide)
      obtain ⟨hw_6_0, hw_6_1, hw_6_2⟩ := hw_6
      refine lv_aload_n hx hb dX6_openDay_33 rfl (lv_at hl 0 rfl) ?_
      refine gs_get (C := RX6) (T := TX6) (N := 15) hx hb hts inX6 hown hK hM 38 0 5 (by decide) rfl rfl (by decide) (hts _ gm_248) (fun _ h9 => h9) rfl dX6_openDay_34 ?_
      refine lv_iload_n hx hb dX6_openDay_37 rfl (lv_at hl 1 rfl) ?_
      have h_7 : x.toNatClampNeg < 15 := gs_lt (vp_in_iff.mpr ⟨by omega, by omega⟩)
      refine gs_aldd hx hb hK hM 39 0 (by decide) rfl (vp_in_iff.mpr ⟨by omega, by omega⟩) (a := ad 12 x.toNatClampNeg) (if_pos h_7) dX6_openDay_38 ?_
      refine lv_aload_n hx hb dX6_openDay_39 rfl (lv_at hl 0 rfl) ?_
      refine gs_get (C := RX6) (T := TX6) (N := 15) hx hb hts inX6 hown hK hM 38 0 3 (by decide) rfl rfl (by decide) (hts _ gm_246) (fun _ h9 => h9) rfl dX6_openDay_40 ?_
      have h_8 : (0 : Int) ≤ (st_6 38 0 3).toInt ∧ (st_6 38 0 3).toInt ≤ (1 : Int) := hB_st_6.1 38 0 3
      refine lv_aload_n hx hb dX6_openDay_43 rfl (lv_at hl 0 rfl) ?_
      refine gs_get (C := RX6) (T := TX6) (N := 15) hx hb hts inX6 hown hK hM 38 0 1 (by decide) rfl rfl (by decide) (hts _ gm_244) (fun _ h9 => h9) rfl dX6_openDay_44 ?_
      refine lv_aload_n hx hb dX6_openDay_47 rfl (lv_at hl 0 rfl) ?_
      refine gs_get (C := RX6) (T := TX6) (N := 15) hx hb hts inX6 hown hK hM 38 0 4 (by decide) rfl rfl (by decide) (hts _ gm_247) (fun _ h9 => h9) rfl dX6_openDay_48 ?_
      refine lv_topi (fun x_9 ex_9 => ?_)
      have ex_9 : (st 38 0 4) = x_9 := Eq.symm (ex_9.trans (n_6.2 38 0 4 (show (3804 : Nat) ∉ _ from by decide)))
      subst ex_9
      have bf_10 : (0 : Int) ≤ (st 38 0 4).toInt ∧ (st 38 0 4).toInt ≤ (199 : Int) := hB_st.1 38 0 4
      refine lv_iload_n hx hb dX6_openDay_51 rfl (lv_at hl 1 rfl) ?_
      refine lv_iadd hx hb dX6_openDay_52 ?_
      refine lv_topi (fun x_11 ex_11 => ?_)
      try have tx_11 : x_11.toInt = (st 38 0 4).toInt + x.toInt := by rw [ex_11]; exact gz_addI (x := (st 38 0 4).toInt) (y := x.toInt) rfl rfl (by omega) (by omega)
      refine gs_callv (va_runV (As := [.ref (ad 25 ((st_6 38 0 3).toNatClampNeg)), .ref (ad 9 0), .int x_11]) (rest := []) ⟨hx, hb, hml, hown, hts⟩ (s_X1_settle l G cy sK sV ad H.size st_6 hB_st_6.1 x.toNatClampNeg (st_6 38 0 3) x_11 x_11.toInt rfl (Nat.lt_trans h_7 (by decide)) h_8 (by first | decide | omega) (by first | decide | omega) rs (show LXa rs st_6 (st_6 38 0 3).toNatClampNeg from (by rw [show st_6 38 0 3 = st 38 0 3 from (n_6.2 38 0 3 (show (3803 : Nat) ∉ _ from by decide))]; exact (LXa.keep hLp n_6.2 (by decide)))).2.2.2.1) ⟨(gz_cb (n := 3) hts gm_859 gm_7 gm_550 ⟨by decide +kernel, by decide +kernel, by decide +kernel⟩ ⟨Nat.le_of_ble_eq_true rfl, Nat.le_of_ble_eq_true rfl⟩), hts _ gm_548, hts _ gm_549⟩ (gs_preV hK hov hE hI hM hm hS hA 12 x.toNatClampNeg (Nat.lt_trans h_7 (by decide)) rfl rfl) rfl rfl hl.1 rfl (lv_room (Nat.le_of_ble_eq_true rfl)) dX6_openDay_53 ⟨Nat.le_of_ble_eq_true rfl, Nat.le_of_ble_eq_true rfl⟩) hm hS hA (fun st_12 H locs hw_12 hM hS => ?_)
      obtain ⟨n_12, hw_12⟩ := hw_12
      have hB_st_12 : gBN bX kX [1300, 1400, 1500] st st_12 := hB_st_6.call n_12 (by decide)
      obtain ⟨hw_12_0, hw_12_1⟩ := hw_12
      exact gs_vret hx hb hr hlocks hM hS ⟨hB_st_12, (tdX.trans (tdX.trans tdX.rf (tdX.day hw_6_2 (by first | decide | omega))) (tdX.day hw_12_1 (by first | decide | omega)))⟩ (by exact Nat.le_refl _) (by exact Nat.le_refl _) dX6_openDay_56
    · have ic_2 := gz_nle (rfl : x.toInt = x.toInt) (by decide : (14 : Int32).toInt = 14) c_2
      exact gs_vret hx hb hr hlocks hM hS ⟨hB_st, tdX.rf⟩ (by exact Nat.le_refl _) (by exact Nat.le_refl _) dX6_openDay_11

set_option maxHeartbeats 4000000 in
set_option maxRecDepth 100000 in
/-- WellCourt$Planner.canDo -/
theorem s_X6_canDo (l : Launch) (G : va_G) (cy : Nat → ClassId) (sK sV : Nat → Nat) (ad : Nat → Nat → Nat) (sz : Nat) (st : gS) (hB : gBd bX st) (x : Int32) (y : Int32) (w : Int32) (Xx : Int) (Xy : Int) (Xw : Int) (kx : x.toInt = Xx) (ky : y.toInt = Xy) (kw : w.toInt = Xw) (hx0 : 1 ≤ Xx) (hx1 : Xx ≤ 14) (hy0 : 0 ≤ Xy) (hy1 : Xy ≤ 3) (hw0 : 0 ≤ Xw) (hw1 : Xw ≤ 7) (rs : List Rl) (hLp : LXa rs st (st 38 0 3).toNatClampNeg) (hwf : ∀ r ∈ rs, wfR r) : gsMi l yX6_canDo cX6_canDo 5 (some .boolean) ({ frames := 3, cells := 0, slots := 0, locals := 66 } : Room) G cy sK sV (shX cy ad) cnX ad sz [.ref (ad 38 0), .int x, .int y, .int w] st (fun (r : Int32) (u : gS) => gBN bX kX [] st u ∧ ((r = 1) ∨ (r = 0))) := by
  refine gs_start (fun A => gsQi G (shX cy ad) cnX ad _ A) (by decide) (Nat.le_of_ble_eq_true rfl) ?_
  intro p e s m below meth c A ls H hx hb hr hml hlocks hown hts hK hov hE hI hM hm hS hA hl
  have hl : lv_has ls 5 [(0, .ref (ad 38 0)), (1, .int x), (2, .int y), (3, .int w)] := hl
  have hB_st : gBN bX kX [] st st := gBN.rf hB
  refine lv_aload_n hx hb dX6_canDo_0 rfl (lv_at hl 0 rfl) ?_
  refine gs_get (C := RX6) (T := TX6) (N := 15) hx hb hts inX6 hown hK hM 38 0 6 (by decide) rfl rfl (by decide) (hts _ gm_249) (fun _ h9 => h9) rfl dX6_canDo_1 ?_
  refine lv_iload_n hx hb dX6_canDo_4 rfl (lv_at hl 1 rfl) ?_
  refine lv_iconst (v := 1) hx hb dX6_canDo_5 (by decide) ?_
  refine lv_isub hx hb dX6_canDo_6 ?_
  refine lv_topi (fun x_1 ex_1 => ?_)
  try have tx_1 : x_1.toInt = x.toInt - 1 := by rw [ex_1]; exact gz_subP (x := x.toInt) (y := 1) rfl (by decide) (by omega) (by omega)
  have h_2 : x_1.toNatClampNeg < 15 := gs_lt (vp_in_iff.mpr ⟨by omega, by omega⟩)
  refine gs_alda hx hb hK hM 40 0 (by decide) rfl (vp_in_iff.mpr ⟨by omega, by omega⟩) (a := ad 41 x_1.toNatClampNeg) (if_pos h_2) dX6_canDo_7 ?_
  refine lv_iload_n hx hb dX6_canDo_8 rfl (lv_at hl 2 rfl) ?_
  refine gs_iald hx hb hK hM 41 x_1.toNatClampNeg h_2 rfl (vp_in_iff.mpr ⟨by omega, by omega⟩) dX6_canDo_9 ?_
  refine lv_topi (fun x_3 ex_3 => ?_)
  have qx_3 : x_3.toInt = (st 41 x_1.toNatClampNeg (y.toNatClampNeg)).toInt := congrArg Int32.toInt ex_3
  have bx_3 : (0 : Int) ≤ x_3.toInt ∧ x_3.toInt ≤ (5 : Int) := by rw [qx_3]; exact hB_st.1 41 x_1.toNatClampNeg (y.toNatClampNeg)
  refine lv_istore (lv' := [(4, .int x_3), (0, .ref (ad 38 0)), (1, .int x), (2, .int y), (3, .int w)]) hx hb dX6_canDo_10 hl (by decide) rfl (fun ls hl => ?_)
  refine lv_iload_n hx hb dX6_canDo_12 rfl (lv_at hl 4 rfl) ?_
  refine lv_if_ne (tgt := 73) hx hb dX6_canDo_13 (by decide) (fun c_4 => ?_) (fun c_4 => ?_)
  · have ic_4 := gz_ne (rfl : w.toInt = w.toInt) (by decide : (0 : Int32).toInt = 0) c_4
    refine lv_iload_n hx hb dX6_canDo_73 rfl (lv_at hl 4 rfl) ?_
    refine lv_iconst (v := 1) hx hb dX6_canDo_74 (by decide) ?_
    refine lv_icmp_eq (tgt := 95) hx hb dX6_canDo_75 (by decide) (fun c_5 => ?_) (fun c_5 => ?_)
    · have ic_5 := gz_eq (rfl : w.toInt = w.toInt) (by decide : (1 : Int32).toInt = 1) c_5
      refine lv_iconst (v := 1) hx hb dX6_canDo_95 (by decide) ?_
      refine lv_goto (tgt := 100) hx hb dX6_canDo_96 (by decide) ?_
      exact gs_iret hx hb hr hlocks hM hS (by decide) ⟨hB_st, (Or.inl rfl)⟩ (by exact Nat.le_refl _) (by exact Nat.le_refl _) dX6_canDo_100
    · have ic_5 := gz_ne (rfl : w.toInt = w.toInt) (by decide : (1 : Int32).toInt = 1) c_5
      refine lv_aload_n hx hb dX6_canDo_78 rfl (lv_at hl 1 rfl) ?_
      refine gs_get (C := RX6) (T := TX6) (N := 15) hx hb hts inX6 hown hK hM 38 0 0 (by decide) rfl rfl (by decide) (hts _ gm_243) (fun _ h9 => h9) rfl dX6_canDo_79 ?_
      refine gs_getN (host := "WellCourt") (C := RX3) (T := TX3) (N := 3) hx hb hts inX3 hown hK hM 4 0 2 (by decide) rfl rfl (by decide) (va_Nw.use rfl (hov.2.2 _ gn_89)) (fun _ h9 => h9) rfl dX6_canDo_82 ?_
      refine lv_iload hx hb dX6_canDo_85 (lv_at hl 0 rfl) ?_
      have h_6 : x_3.toNatClampNeg < 6 := gs_lt (vp_in_iff.mpr ⟨by omega, by omega⟩)
      refine gs_alda hx hb hK hM 7 0 (by decide) rfl (vp_in_iff.mpr ⟨by omega, by omega⟩) (a := ad 8 x_3.toNatClampNeg) (if_pos h_6) dX6_canDo_87 ?_
      refine lv_iload_n hx hb dX6_canDo_88 rfl (lv_at hl 4 rfl) ?_
      refine lv_iconst (v := 2) hx hb dX6_canDo_89 (by decide) ?_
      refine lv_isub hx hb dX6_canDo_90 ?_
      refine lv_topi (fun x_7 ex_7 => ?_)
      try have tx_7 : x_7.toInt = w.toInt - 2 := by rw [ex_7]; exact gz_subP (x := w.toInt) (y := 2) rfl (by decide) (by omega) (by omega)
      refine gs_iald hx hb hK hM 8 x_3.toNatClampNeg h_6 rfl (vp_in_iff.mpr ⟨by omega, by omega⟩) dX6_canDo_91 ?_
      refine lv_topi (fun x_8 ex_8 => ?_)
      have qx_8 : x_8.toInt = (st 8 x_3.toNatClampNeg (x_7.toNatClampNeg)).toInt := congrArg Int32.toInt ex_8
      refine lv_if_le (tgt := 99) hx hb dX6_canDo_92 (by decide) (fun c_9 => ?_) (fun c_9 => ?_)
      · have ic_9 := gz_le (rfl : x_8.toInt = x_8.toInt) (by decide : (0 : Int32).toInt = 0) c_9
        refine lv_iconst (v := 0) hx hb dX6_canDo_99 (by decide) ?_
        exact gs_iret hx hb hr hlocks hM hS (by decide) ⟨hB_st, (Or.inr (rfl))⟩ (by exact Nat.le_refl _) (by exact Nat.le_refl _) dX6_canDo_100
      · have ic_9 := gz_nle (rfl : x_8.toInt = x_8.toInt) (by decide : (0 : Int32).toInt = 0) c_9
        refine lv_iconst (v := 1) hx hb dX6_canDo_95 (by decide) ?_
        refine lv_goto (tgt := 100) hx hb dX6_canDo_96 (by decide) ?_
        exact gs_iret hx hb hr hlocks hM hS (by decide) ⟨hB_st, (Or.inl rfl)⟩ (by exact Nat.le_refl _) (by exact Nat.le_refl _) dX6_canDo_100
  · have ic_4 := gz_eqn (rfl : w.toInt = w.toInt) (by decide : (0 : Int32).toInt = 0) c_4
    refine lv_aload_n hx hb dX6_canDo_16 rfl (lv_at hl 1 rfl) ?_
    refine gs_get (C := RX6) (T := TX6) (N := 15) hx hb hts inX6 hown hK hM 38 0 5 (by decide) rfl rfl (by decide) (hts _ gm_248) (fun _ h9 => h9) rfl dX6_canDo_17 ?_
    refine lv_iload_n hx hb dX6_canDo_20 rfl (lv_at hl 2 rfl) ?_
    have h_10 : x.toNatClampNeg < 15 := gs_lt (vp_in_iff.mpr ⟨by omega, by omega⟩)
    refine gs_aldd hx hb hK hM 39 0 (by decide) rfl (vp_in_iff.mpr ⟨by omega, by omega⟩) (a := ad 12 x.toNatClampNeg) (if_pos h_10) dX6_canDo_21 ?_
    refine gs_getN (host := "WellCourt") (C := RX1) (T := TX1) (N := 3) hx hb hts inX1 hown hK hM 12 x.toNatClampNeg 0 (Nat.lt_trans h_10 (by decide)) rfl rfl (by decide) (va_Nw.use rfl (hov.2.2 _ gn_122)) (fun _ h9 => h9) rfl dX6_canDo_22 ?_
    refine lv_iload hx hb dX6_canDo_25 (lv_at hl 0 rfl) ?_
    refine gs_iald hx hb hK hM 13 x.toNatClampNeg (Nat.lt_trans h_10 (by decide)) rfl (vp_in_iff.mpr ⟨by omega, by omega⟩) dX6_canDo_27 ?_
    refine lv_topi (fun x_11 ex_11 => ?_)
    have qx_11 : x_11.toInt = (st 13 x.toNatClampNeg (x_3.toNatClampNeg)).toInt := congrArg Int32.toInt ex_11
    refine lv_aload_n hx hb dX6_canDo_28 rfl (lv_at hl 1 rfl) ?_
    refine gs_get (C := RX6) (T := TX6) (N := 15) hx hb hts inX6 hown hK hM 38 0 2 (by decide) rfl rfl (by decide) (hts _ gm_245) (fun _ h9 => h9) rfl dX6_canDo_29 ?_
    refine gs_getN (host := "WellCourt") (C := RX2) (T := TX2) (N := 5) hx hb hts inX2 hown hK hM 19 0 1 (by decide) rfl rfl (by decide) (va_Nw.use rfl (hov.2.2 _ gn_161)) (fun _ h9 => h9) rfl dX6_canDo_32 ?_
    refine lv_iload_n hx hb dX6_canDo_35 rfl (lv_at hl 3 rfl) ?_
    refine gs_iald hx hb hK hM 21 0 (by decide) rfl (vp_in_iff.mpr ⟨by omega, by omega⟩) dX6_canDo_36 ?_
    refine lv_topi (fun x_12 ex_12 => ?_)
    have qx_12 : x_12.toInt = (st 21 0 (y.toNatClampNeg)).toInt := congrArg Int32.toInt ex_12
    refine lv_icmp_lt (tgt := 71) hx hb dX6_canDo_37 (by decide) (fun c_13 => ?_) (fun c_13 => ?_)
    · have ic_13 := gz_lt (rfl : x_11.toInt = x_11.toInt) (rfl : x_12.toInt = x_12.toInt) c_13
      have lc_13 := gi_hi x_12
      refine lv_iconst (v := 0) hx hb dX6_canDo_71 (by decide) ?_
      exact gs_iret hx hb hr hlocks hM hS (by decide) ⟨hB_st, (Or.inr (rfl))⟩ (by exact Nat.le_refl _) (by exact Nat.le_refl _) dX6_canDo_72
    · have ic_13 := gz_nlt (rfl : x_11.toInt = x_11.toInt) (rfl : x_12.toInt = x_12.toInt) c_13
      refine lv_aload_n hx hb dX6_canDo_40 rfl (lv_at hl 1 rfl) ?_
      refine gs_get (C := RX6) (T := TX6) (N := 15) hx hb hts inX6 hown hK hM 38 0 5 (by decide) rfl rfl (by decide) (hts _ gm_248) (fun _ h9 => h9) rfl dX6_canDo_41 ?_
      refine lv_iload_n hx hb dX6_canDo_44 rfl (lv_at hl 2 rfl) ?_
      have h_14 : x.toNatClampNeg < 15 := gs_lt (vp_in_iff.mpr ⟨by omega, by omega⟩)
      refine gs_aldd hx hb hK hM 39 0 (by decide) rfl (vp_in_iff.mpr ⟨by omega, by omega⟩) (a := ad 12 x.toNatClampNeg) (if_pos h_14) dX6_canDo_45 ?_
      refine lv_aload_n hx hb dX6_canDo_46 rfl (lv_at hl 1 rfl) ?_
      refine gs_get (C := RX6) (T := TX6) (N := 15) hx hb hts inX6 hown hK hM 38 0 3 (by decide) rfl rfl (by decide) (hts _ gm_246) (fun _ h9 => h9) rfl dX6_canDo_47 ?_
      have h_15 : (0 : Int) ≤ (st 38 0 3).toInt ∧ (st 38 0 3).toInt ≤ (1 : Int) := hB_st.1 38 0 3
      refine lv_iload hx hb dX6_canDo_50 (lv_at hl 0 rfl) ?_
      refine lv_aload_n hx hb dX6_canDo_52 rfl (lv_at hl 1 rfl) ?_
      refine gs_get (C := RX6) (T := TX6) (N := 15) hx hb hts inX6 hown hK hM 38 0 2 (by decide) rfl rfl (by decide) (hts _ gm_245) (fun _ h9 => h9) rfl dX6_canDo_53 ?_
      refine gs_getN (host := "WellCourt") (C := RX2) (T := TX2) (N := 5) hx hb hts inX2 hown hK hM 19 0 0 (by decide) rfl rfl (by decide) (va_Nw.use rfl (hov.2.2 _ gn_158)) (fun _ h9 => h9) rfl dX6_canDo_56 ?_
      refine lv_iload_n hx hb dX6_canDo_59 rfl (lv_at hl 3 rfl) ?_
      refine gs_iald hx hb hK hM 20 0 (by decide) rfl (vp_in_iff.mpr ⟨by omega, by omega⟩) dX6_canDo_60 ?_
      refine lv_topi (fun x_16 ex_16 => ?_)
      have qx_16 : x_16.toInt = (st 20 0 (y.toNatClampNeg)).toInt := congrArg Int32.toInt ex_16
      refine gs_calli (va_runV (As := [.ref (ad 25 ((st 38 0 3).toNatClampNeg)), .int x_3, .int x_16]) (rest := []) ⟨hx, hb, hml, hown, hts⟩ (s_X1_isRight l G cy sK sV ad H.size st hB_st.1 x.toNatClampNeg (st 38 0 3) x_3 x_16 x_3.toInt x_16.toInt rfl rfl (Nat.lt_trans h_14 (by decide)) h_15 (by first | decide | omega) (by first | decide | omega) rs hLp.2.1 hLp.2.2.1 hwf) ⟨(gz_cb (n := 3) hts gm_873 gm_7 gm_608 ⟨by decide +kernel, by decide +kernel, by decide +kernel⟩ ⟨Nat.le_of_ble_eq_true rfl, Nat.le_of_ble_eq_true rfl⟩), hts _ gm_606, hts _ gm_607⟩ (gs_preV hK hov hE hI hM hm hS hA 12 x.toNatClampNeg (Nat.lt_trans h_14 (by decide)) rfl rfl) rfl rfl hl.1 rfl (lv_room (Nat.le_of_ble_eq_true rfl)) dX6_canDo_61 ⟨Nat.le_of_ble_eq_true rfl, Nat.le_of_ble_eq_true rfl⟩) hm hS hA (fun r_17 st_17 H locs hw_17 hM hS => ?_)
      obtain ⟨n_17, hw_17⟩ := hw_17
      have n_17 := gBN.nil n_17
      subst n_17
      rcases hw_17 with ⟨rfl, hw_17_0⟩ | ⟨rfl, hw_17_0⟩
      · skip
        refine lv_if_eq (tgt := 71) hx hb dX6_canDo_64 (by decide) (fun h9 => absurd h9 (by decide)) (fun _ => ?_)
        refine lv_iconst (v := 1) hx hb dX6_canDo_67 (by decide) ?_
        refine lv_goto (tgt := 72) hx hb dX6_canDo_68 (by decide) ?_
        exact gs_iret hx hb hr hlocks hM hS (by decide) ⟨hB_st, (Or.inl rfl)⟩ (by exact Nat.le_refl _) (by exact Nat.le_refl _) dX6_canDo_72
      · skip
        refine lv_if_eq (tgt := 71) hx hb dX6_canDo_64 (by decide) (fun _ => ?_) (fun h9 => absurd (by decide) h9)
        refine lv_iconst (v := 0) hx hb dX6_canDo_71 (by decide) ?_
        exact gs_iret hx hb hr hlocks hM hS (by decide) ⟨hB_st, (Or.inr (rfl))⟩ (by exact Nat.le_refl _) (by exact Nat.le_refl _) dX6_canDo_72

set_option maxHeartbeats 4000000 in
set_option maxRecDepth 100000 in
/-- WellCourt$Planner.nextAct -/
theorem s_X6_nextAct (l : Launch) (G : va_G) (cy : Nat → ClassId) (sK sV : Nat → Nat) (ad : Nat → Nat → Nat) (sz : Nat) (st : gS) (hB : gBd bX st) (x : Int32) (Xx : Int) (kx : x.toInt = Xx) (hx0 : 0 ≤ Xx) (hx1 : Xx ≤ 55) (rs : List Rl) (hLp : LXa rs st (st 38 0 3).toNatClampNeg) (hwf : ∀ r ∈ rs, wfR r) : gsMi l yX6_nextAct cX6_nextAct 6 (some .int) ({ frames := 4, cells := 0, slots := 0, locals := 90 } : Room) G cy sK sV (shX cy ad) cnX ad sz [.ref (ad 38 0), .int x] st (fun (r : Int32) (u : gS) => gBN bX kX [] st u ∧ ((r.toInt = -1 ∨ r.toInt = 9 ∨ (0 ≤ r.toInt ∧ r.toInt ≤ 7)))) := by
  refine gs_start (fun A => gsQi G (shX cy ad) cnX ad _ A) (by decide) (Nat.le_of_ble_eq_true rfl) ?_
  intro p e s m below meth c A ls H hx hb hr hml hlocks hown hts hK hov hE hI hM hm hS hA hl
  have hl : lv_has ls 6 [(0, .ref (ad 38 0)), (1, .int x)] := hl
  have hB_st : gBN bX kX [] st st := gBN.rf hB
  generalize hQe : MQ below _ _ s _ _ A = Q
  refine lv_iload_n hx hb dX6_nextAct_0 rfl (lv_at hl 1 rfl) ?_
  refine gs_calli (va_runS (As := [.int x]) (rest := []) ⟨hx, hb, hml, hown, hts⟩ (s_X6_rowOf l G cy sK sV ad H.size st hB_st.1 x x.toInt rfl (by first | decide | omega) (by first | decide | omega)) ⟨(gz_cb (n := 1) hts gm_865 gm_11 gm_867 ⟨by decide +kernel, by decide +kernel, by decide +kernel⟩ ⟨Nat.le_of_ble_eq_true rfl, Nat.le_of_ble_eq_true rfl⟩), hts _ gm_866⟩ (gs_preS hK hov hE hI hM hm hS hA) rfl rfl hl.1 rfl (lv_room (Nat.le_of_ble_eq_true rfl)) dX6_nextAct_1 ⟨Nat.le_of_ble_eq_true rfl, Nat.le_of_ble_eq_true rfl⟩) hm hS hA (fun r_1 st_1 H locs hw_1 hM hS => ?_)
  obtain ⟨n_1, hw_1⟩ := hw_1
  have n_1 := gBN.nil n_1
  subst n_1
  obtain ⟨hw_1_0, hw_1_1, hw_1_2, hw_1_3⟩ := hw_1
  refine lv_istore_n (lv' := [(2, .int r_1), (0, .ref (ad 38 0)), (1, .int x)]) hx hb dX6_nextAct_4 rfl hl (by decide) rfl (fun ls hl => ?_)
  refine lv_iload_n hx hb dX6_nextAct_5 rfl (lv_at hl 2 rfl) ?_
  refine lv_iconst (v := 4) hx hb dX6_nextAct_6 (by decide) ?_
  refine lv_irem hx hb dX6_nextAct_7 (by decide) ?_
  refine lv_topi (fun x_2 ex_2 => ?_)
  try have tx_2 := gs_rem (y := 4) (by decide) (show 0 ≤ x.toInt from by omega) (by omega) ex_2
  refine lv_istore_n (lv' := [(3, .int x_2), (2, .int r_1), (0, .ref (ad 38 0)), (1, .int x)]) hx hb dX6_nextAct_8 rfl hl (by decide) rfl (fun ls hl => ?_)
  refine lv_aload_n hx hb dX6_nextAct_9 rfl (lv_at hl 2 rfl) ?_
  refine gs_get (C := RX6) (T := TX6) (N := 15) hx hb hts inX6 hown hK hM 38 0 9 (by decide) rfl rfl (by decide) (hts _ gm_252) (fun _ h9 => h9) rfl dX6_nextAct_10 ?_
  refine lv_iload_n hx hb dX6_nextAct_13 rfl (lv_at hl 3 rfl) ?_
  refine gs_iald hx hb hK hM 46 0 (by decide) rfl (vp_in_iff.mpr ⟨by omega, by omega⟩) dX6_nextAct_14 ?_
  refine lv_topi (fun x_3 ex_3 => ?_)
  have qx_3 : x_3.toInt = (st 46 0 (x.toNatClampNeg)).toInt := congrArg Int32.toInt ex_3
  have bx_3 : (-1 : Int) ≤ x_3.toInt ∧ x_3.toInt ≤ (9 : Int) := by rw [qx_3]; exact hB_st.1 46 0 (x.toNatClampNeg)
  refine lv_istore (lv' := [(4, .int x_3), (3, .int x_2), (2, .int r_1), (0, .ref (ad 38 0)), (1, .int x)]) hx hb dX6_nextAct_15 hl (by decide) rfl (fun ls hl => ?_)
  refine lv_aload_n hx hb dX6_nextAct_17 rfl (lv_at hl 3 rfl) ?_
  refine gs_get (C := RX6) (T := TX6) (N := 15) hx hb hts inX6 hown hK hM 38 0 2 (by decide) rfl rfl (by decide) (hts _ gm_245) (fun _ h9 => h9) rfl dX6_nextAct_18 ?_
  refine lv_iload_n hx hb dX6_nextAct_21 rfl (lv_at hl 1 rfl) ?_
  refine gs_calli (va_runV (As := [.int x_2]) (rest := []) ⟨hx, hb, hml, hown, hts⟩ (s_X2_isThere l G cy sK sV ad H.size st hB_st.1 x_2 x_2.toInt rfl (by first | decide | omega) (by first | decide | omega)) ⟨(gz_cb (n := 1) hts gm_868 gm_9 gm_707 ⟨by decide +kernel, by decide +kernel, by decide +kernel⟩ ⟨Nat.le_of_ble_eq_true rfl, Nat.le_of_ble_eq_true rfl⟩), hts _ gm_705, hts _ gm_706⟩ (gs_preV hK hov hE hI hM hm hS hA 19 0 (by decide) rfl rfl) rfl rfl hl.1 rfl (lv_room (Nat.le_of_ble_eq_true rfl)) dX6_nextAct_22 ⟨Nat.le_of_ble_eq_true rfl, Nat.le_of_ble_eq_true rfl⟩) hm hS hA (fun r_4 st_4 H locs hw_4 hM hS => ?_)
  obtain ⟨n_4, hw_4⟩ := hw_4
  have n_4 := gBN.nil n_4
  subst n_4
  rcases hw_4 with ⟨rfl, hw_4_0⟩ | ⟨rfl, hw_4_0⟩
  · skip
    refine lv_if_eq (tgt := 42) hx hb dX6_nextAct_25 (by decide) (fun h9 => absurd h9 (by decide)) (fun _ => ?_)
    refine lv_aload_n hx hb dX6_nextAct_28 rfl (lv_at hl 3 rfl) ?_
    refine gs_get (C := RX6) (T := TX6) (N := 15) hx hb hts inX6 hown hK hM 38 0 7 (by decide) rfl rfl (by decide) (hts _ gm_250) (fun _ h9 => h9) rfl dX6_nextAct_29 ?_
    refine lv_iload_n hx hb dX6_nextAct_32 rfl (lv_at hl 2 rfl) ?_
    refine lv_iconst (v := 1) hx hb dX6_nextAct_33 (by decide) ?_
    refine lv_isub hx hb dX6_nextAct_34 ?_
    refine lv_topi (fun x_5 ex_5 => ?_)
    try have tx_5 : x_5.toInt = r_1.toInt - 1 := by rw [ex_5]; exact gz_subP (x := r_1.toInt) (y := 1) rfl (by decide) (by omega) (by omega)
    have h_6 : x_5.toNatClampNeg < 15 := gs_lt (vp_in_iff.mpr ⟨by omega, by omega⟩)
    refine gs_alda hx hb hK hM 42 0 (by decide) rfl (vp_in_iff.mpr ⟨by omega, by omega⟩) (a := ad 43 x_5.toNatClampNeg) (if_pos h_6) dX6_nextAct_35 ?_
    refine lv_iload_n hx hb dX6_nextAct_36 rfl (lv_at hl 1 rfl) ?_
    refine gs_iald hx hb hK hM 43 x_5.toNatClampNeg h_6 rfl (vp_in_iff.mpr ⟨by omega, by omega⟩) dX6_nextAct_37 ?_
    refine lv_topi (fun x_7 ex_7 => ?_)
    have qx_7 : x_7.toInt = (st 43 x_5.toNatClampNeg (x_2.toNatClampNeg)).toInt := congrArg Int32.toInt ex_7
    refine lv_iload_n hx hb dX6_nextAct_38 rfl (lv_at hl 2 rfl) ?_
    refine lv_icmp_le (tgt := 55) hx hb dX6_nextAct_39 (by decide) (fun c_8 => ?_) (fun c_8 => ?_)
    · have ic_8 := gz_le (rfl : x_7.toInt = x_7.toInt) (rfl : r_1.toInt = r_1.toInt) c_8
      refine lv_iload hx hb dX6_nextAct_55 (lv_at hl 0 rfl) ?_
      refine lv_iconst (v := 1) hx hb dX6_nextAct_57 (by decide) ?_
      refine lv_iadd hx hb dX6_nextAct_58 ?_
      refine lv_topi (fun x_9 ex_9 => ?_)
      try have tx_9 : x_9.toInt = x_3.toInt + 1 := by rw [ex_9]; exact gz_addP (x := x_3.toInt) (y := 1) rfl (by decide) (by omega) (by omega)
      refine lv_istore (lv' := [(5, .int x_9), (4, .int x_3), (3, .int x_2), (2, .int r_1), (0, .ref (ad 38 0)), (1, .int x)]) hx hb dX6_nextAct_59 hl (by decide) rfl (fun ls hl => ?_)
      have lp10 : ∀ (n10 : Nat) (sv10 : gS) (y10_0 : Int32) (H : Heap) (locs : List Loc) (ls : Array Slot), (8 - y10_0.toInt).toNat < n10 → gBN bX kX [] st sv10 → (0 ≤ y10_0.toInt) → gM G (shX cy ad) cnX ad sv10 H → va_S A s.heap H locs → lv_has ls 6 [(5, .int y10_0), (4, .int x_3), (3, .int x_2), (2, .int r_1), (0, .ref (ad 38 0)), (1, .int x)] → W p l e ({ frames := 4, cells := 0, slots := 0, locals := 90 } : Room) s m [.ref (ad 38 0), .int x].toArray below meth c H locs 0 0 Q (F0 m 61 ls []) := by
        intro n10
        induction n10 with
        | zero => intro sv10 y10_0 H locs ls h9; exact absurd h9 (Nat.not_lt_zero _)
        | succ n10 ih_10 =>
          intro sv10 y10_0 H locs ls hme10 hB_sv10 hv10_0 hM hS hl
          refine lv_iload hx hb dX6_nextAct_61 (lv_at hl 0 rfl) ?_
          refine lv_bipush (v := 7) hx hb dX6_nextAct_63 (by decide) ?_
          refine lv_icmp_gt (tgt := 88) hx hb dX6_nextAct_65 (by decide) (fun c_11 => ?_) (fun c_11 => ?_)
          · have ic_11 := gz_lt (by decide : (7 : Int32).toInt = 7) (rfl : y10_0.toInt = y10_0.toInt) c_11
            refine lv_iconst (v := (-1)) hx hb dX6_nextAct_88 (by decide) ?_
            rw [← hQe]
            exact gs_iret hx hb hr hlocks hM hS rfl ⟨hB_sv10, (by have hl0 : ((-1) : Int32).toInt = -1 := (by decide); omega)⟩ (by exact Nat.le_refl _) (by exact Nat.le_refl _) dX6_nextAct_89
          · have ic_11 := gz_nlt (by decide : (7 : Int32).toInt = 7) (rfl : y10_0.toInt = y10_0.toInt) c_11
            refine lv_aload_n hx hb dX6_nextAct_68 rfl (lv_at hl 4 rfl) ?_
            refine lv_iload_n hx hb dX6_nextAct_69 rfl (lv_at hl 3 rfl) ?_
            refine lv_iload_n hx hb dX6_nextAct_70 rfl (lv_at hl 2 rfl) ?_
            refine lv_iload hx hb dX6_nextAct_71 (lv_at hl 0 rfl) ?_
            refine gs_calli (va_runV (As := [.int r_1, .int x_2, .int y10_0]) (rest := []) ⟨hx, hb, hml, hown, hts⟩ (s_X6_canDo l G cy sK sV ad H.size sv10 hB_sv10.1 r_1 x_2 y10_0 r_1.toInt x_2.toInt y10_0.toInt rfl rfl rfl (by first | decide | omega) (by first | decide | omega) (by first | decide | omega) (by first | decide | omega) (by first | decide | omega) (by first | decide | omega) rs (show LXa rs sv10 (sv10 38 0 3).toNatClampNeg from (by rw [show sv10 38 0 3 = st 38 0 3 from (hB_sv10.2 38 0 3 (show (3803 : Nat) ∉ _ from by decide))]; exact (LXa.keep hLp hB_sv10.2 (by decide)))) hwf) ⟨(gz_cb (n := 3) hts gm_869 gm_11 gm_872 ⟨by decide +kernel, by decide +kernel, by decide +kernel⟩ ⟨Nat.le_of_ble_eq_true rfl, Nat.le_of_ble_eq_true rfl⟩), hts _ gm_871, hts _ gs_26⟩ (gs_preV hK hov hE hI hM hm hS hA 38 0 (by decide) rfl rfl) rfl rfl hl.1 rfl (lv_room (Nat.le_of_ble_eq_true rfl)) dX6_nextAct_73 ⟨Nat.le_of_ble_eq_true rfl, Nat.le_of_ble_eq_true rfl⟩) hm hS hA (fun r_12 st_12 H locs hw_12 hM hS => ?_)
            obtain ⟨n_12, hw_12⟩ := hw_12
            have n_12 := gBN.nil n_12
            subst n_12
            rcases hw_12 with rfl | rfl
            · skip
              refine lv_if_eq (tgt := 82) hx hb dX6_nextAct_76 (by decide) (fun h9 => absurd h9 (by decide)) (fun _ => ?_)
              refine lv_iload hx hb dX6_nextAct_79 (lv_at hl 0 rfl) ?_
              rw [← hQe]
              exact gs_iret hx hb hr hlocks hM hS rfl ⟨hB_sv10, (by omega)⟩ (by exact Nat.le_refl _) (by exact Nat.le_refl _) dX6_nextAct_81
            · skip
              refine lv_if_eq (tgt := 82) hx hb dX6_nextAct_76 (by decide) (fun _ => ?_) (fun h9 => absurd (by decide) h9)
              obtain ⟨x_13, ex_13⟩ : ∃ y : Int32, y = y10_0 + 1 := ⟨_, rfl⟩
              try have tx_13 : x_13.toInt = y10_0.toInt + 1 := by rw [ex_13]; exact gz_addP (x := y10_0.toInt) (y := 1) rfl (by decide) (by omega) (by omega)
              refine lv_iinc (v := (x_13)) (lv' := [(5, .int x_13), (4, .int x_3), (3, .int x_2), (2, .int r_1), (0, .ref (ad 38 0)), (1, .int x)]) hx hb dX6_nextAct_82 hl (k := 0) rfl (by rw [ex_13]; rfl) (by decide) rfl (fun ls hl => ?_)
              refine lv_goto (tgt := 61) hx hb dX6_nextAct_85 (by decide) ?_
              exact ih_10 sv10 (x_13 : Int32) H _ ls (by omega) hB_sv10 (by omega) hM hS (lv_sub hl [0, 1, 2, 3, 4, 5] rfl)
      exact lp10 ((8 - (x_9 : Int32).toInt).toNat + 1) st (x_9 : Int32) H _ ls (Nat.lt_succ_self _) hB_st (by omega) hM hS (lv_sub hl [0, 1, 2, 3, 4, 5] rfl)
    · have ic_8 := gz_nle (rfl : x_7.toInt = x_7.toInt) (rfl : r_1.toInt = r_1.toInt) c_8
      have lc_8 := gi_hi x_7
      refine lv_iload hx hb dX6_nextAct_42 (lv_at hl 0 rfl) ?_
      refine lv_iconst (v := (-1)) hx hb dX6_nextAct_44 (by decide) ?_
      refine lv_icmp_ne (tgt := 53) hx hb dX6_nextAct_45 (by decide) (fun c_14 => ?_) (fun c_14 => ?_)
      · have ic_14 := gz_ne (rfl : x_3.toInt = x_3.toInt) (by decide : ((-1) : Int32).toInt = -1) c_14
        refine lv_iconst (v := (-1)) hx hb dX6_nextAct_53 (by decide) ?_
        rw [← hQe]
        exact gs_iret hx hb hr hlocks hM hS rfl ⟨hB_st, (by have hl0 : ((-1) : Int32).toInt = -1 := (by decide); omega)⟩ (by exact Nat.le_refl _) (by exact Nat.le_refl _) dX6_nextAct_54
      · have ic_14 := gz_eqn (rfl : x_3.toInt = x_3.toInt) (by decide : ((-1) : Int32).toInt = -1) c_14
        refine lv_bipush (v := 9) hx hb dX6_nextAct_48 (by decide) ?_
        refine lv_goto (tgt := 54) hx hb dX6_nextAct_50 (by decide) ?_
        rw [← hQe]
        exact gs_iret hx hb hr hlocks hM hS rfl ⟨hB_st, (by have hl0 : (9 : Int32).toInt = 9 := (by decide); omega)⟩ (by exact Nat.le_refl _) (by exact Nat.le_refl _) dX6_nextAct_54
  · skip
    refine lv_if_eq (tgt := 42) hx hb dX6_nextAct_25 (by decide) (fun _ => ?_) (fun h9 => absurd (by decide) h9)
    refine lv_iload hx hb dX6_nextAct_42 (lv_at hl 0 rfl) ?_
    refine lv_iconst (v := (-1)) hx hb dX6_nextAct_44 (by decide) ?_
    refine lv_icmp_ne (tgt := 53) hx hb dX6_nextAct_45 (by decide) (fun c_15 => ?_) (fun c_15 => ?_)
    · have ic_15 := gz_ne (rfl : x_3.toInt = x_3.toInt) (by decide : ((-1) : Int32).toInt = -1) c_15
      refine lv_iconst (v := (-1)) hx hb dX6_nextAct_53 (by decide) ?_
      rw [← hQe]
      exact gs_iret hx hb hr hlocks hM hS rfl ⟨hB_st, (by have hl0 : ((-1) : Int32).toInt = -1 := (by decide); omega)⟩ (by exact Nat.le_refl _) (by exact Nat.le_refl _) dX6_nextAct_54
    · have ic_15 := gz_eqn (rfl : x_3.toInt = x_3.toInt) (by decide : ((-1) : Int32).toInt = -1) c_15
      refine lv_bipush (v := 9) hx hb dX6_nextAct_48 (by decide) ?_
      refine lv_goto (tgt := 54) hx hb dX6_nextAct_50 (by decide) ?_
      rw [← hQe]
      exact gs_iret hx hb hr hlocks hM hS rfl ⟨hB_st, (by have hl0 : (9 : Int32).toInt = 9 := (by decide); omega)⟩ (by exact Nat.le_refl _) (by exact Nat.le_refl _) dX6_nextAct_54

set_option maxHeartbeats 4000000 in
set_option maxRecDepth 100000 in
/-- WellCourt$Planner.perform -/
theorem s_X6_perform (l : Launch) (G : va_G) (cy : Nat → ClassId) (sK sV : Nat → Nat) (ad : Nat → Nat → Nat) (sz : Nat) (st : gS) (hB : gBd bX st) (x : Int32) (y : Int32) (Xx : Int) (Xy : Int) (kx : x.toInt = Xx) (ky : y.toInt = Xy) (hx0 : 0 ≤ Xx) (hx1 : Xx ≤ 55) (hy0 : Xy = 9 ∨ (0 ≤ Xy ∧ Xy ≤ 7)) : gsMv l yX6_perform cX6_perform 6 ({ frames := 1, cells := 0, slots := 0, locals := 20 } : Room) G cy sK sV (shX cy ad) cnX ad sz [.ref (ad 38 0), .int x, .int y] st (fun (u : gS) => gBN bX kX [1300, 4100, 4300, 4500, 4600] st u ∧ ((tdX st u))) := by
  refine gs_start (fun A => gsQv G (shX cy ad) cnX ad _ A) (by decide) (Nat.le_of_ble_eq_true rfl) ?_
  intro p e s m below meth c A ls H hx hb hr hml hlocks hown hts hK hov hE hI hM hm hS hA hl
  have hl : lv_has ls 6 [(0, .ref (ad 38 0)), (1, .int x), (2, .int y)] := hl
  have hB_st : gBN bX kX [1300, 4100, 4300, 4500, 4600] st st := gBN.rf hB
  refine lv_iload_n hx hb dX6_perform_0 rfl (lv_at hl 1 rfl) ?_
  refine gs_calli (va_runS (As := [.int x]) (rest := []) ⟨hx, hb, hml, hown, hts⟩ (s_X6_rowOf l G cy sK sV ad H.size st hB_st.1 x x.toInt rfl (by first | decide | omega) (by first | decide | omega)) ⟨(gz_cb (n := 1) hts gm_865 gm_11 gm_867 ⟨by decide +kernel, by decide +kernel, by decide +kernel⟩ ⟨Nat.le_of_ble_eq_true rfl, Nat.le_of_ble_eq_true rfl⟩), hts _ gm_866⟩ (gs_preS hK hov hE hI hM hm hS hA) rfl rfl hl.1 rfl (lv_room (Nat.le_of_ble_eq_true rfl)) dX6_perform_1 ⟨Nat.le_of_ble_eq_true rfl, Nat.le_of_ble_eq_true rfl⟩) hm hS hA (fun r_1 st_1 H locs hw_1 hM hS => ?_)
  obtain ⟨n_1, hw_1⟩ := hw_1
  have n_1 := gBN.nil n_1
  subst n_1
  obtain ⟨hw_1_0, hw_1_1, hw_1_2, hw_1_3⟩ := hw_1
  refine lv_istore_n (lv' := [(3, .int r_1), (0, .ref (ad 38 0)), (1, .int x), (2, .int y)]) hx hb dX6_perform_4 rfl hl (by decide) rfl (fun ls hl => ?_)
  refine lv_iload_n hx hb dX6_perform_5 rfl (lv_at hl 2 rfl) ?_
  refine lv_iconst (v := 4) hx hb dX6_perform_6 (by decide) ?_
  refine lv_irem hx hb dX6_perform_7 (by decide) ?_
  refine lv_topi (fun x_2 ex_2 => ?_)
  try have tx_2 := gs_rem (y := 4) (by decide) (show 0 ≤ x.toInt from by omega) (by omega) ex_2
  refine lv_istore (lv' := [(4, .int x_2), (3, .int r_1), (0, .ref (ad 38 0)), (1, .int x), (2, .int y)]) hx hb dX6_perform_8 hl (by decide) rfl (fun ls hl => ?_)
  refine lv_aload_n hx hb dX6_perform_10 rfl (lv_at hl 2 rfl) ?_
  refine gs_get (C := RX6) (T := TX6) (N := 15) hx hb hts inX6 hown hK hM 38 0 6 (by decide) rfl rfl (by decide) (hts _ gm_249) (fun _ h9 => h9) rfl dX6_perform_11 ?_
  refine lv_iload_n hx hb dX6_perform_14 rfl (lv_at hl 1 rfl) ?_
  refine lv_iconst (v := 1) hx hb dX6_perform_15 (by decide) ?_
  refine lv_isub hx hb dX6_perform_16 ?_
  refine lv_topi (fun x_3 ex_3 => ?_)
  try have tx_3 : x_3.toInt = r_1.toInt - 1 := by rw [ex_3]; exact gz_subP (x := r_1.toInt) (y := 1) rfl (by decide) (by omega) (by omega)
  have h_4 : x_3.toNatClampNeg < 15 := gs_lt (vp_in_iff.mpr ⟨by omega, by omega⟩)
  refine gs_alda hx hb hK hM 40 0 (by decide) rfl (vp_in_iff.mpr ⟨by omega, by omega⟩) (a := ad 41 x_3.toNatClampNeg) (if_pos h_4) dX6_perform_17 ?_
  refine lv_iload hx hb dX6_perform_18 (lv_at hl 0 rfl) ?_
  refine gs_iald hx hb hK hM 41 x_3.toNatClampNeg h_4 rfl (vp_in_iff.mpr ⟨by omega, by omega⟩) dX6_perform_20 ?_
  refine lv_topi (fun x_5 ex_5 => ?_)
  have qx_5 : x_5.toInt = (st 41 x_3.toNatClampNeg (x_2.toNatClampNeg)).toInt := congrArg Int32.toInt ex_5
  have bx_5 : (0 : Int) ≤ x_5.toInt ∧ x_5.toInt ≤ (5 : Int) := by rw [qx_5]; exact hB_st.1 41 x_3.toNatClampNeg (x_2.toNatClampNeg)
  refine lv_istore (lv' := [(5, .int x_5), (4, .int x_2), (3, .int r_1), (0, .ref (ad 38 0)), (1, .int x), (2, .int y)]) hx hb dX6_perform_21 hl (by decide) rfl (fun ls hl => ?_)
  refine lv_aload_n hx hb dX6_perform_23 rfl (lv_at hl 3 rfl) ?_
  refine gs_get (C := RX6) (T := TX6) (N := 15) hx hb hts inX6 hown hK hM 38 0 9 (by decide) rfl rfl (by decide) (hts _ gm_252) (fun _ h9 => h9) rfl dX6_perform_24 ?_
  refine lv_iload_n hx hb dX6_perform_27 rfl (lv_at hl 4 rfl) ?_
  refine lv_iload_n hx hb dX6_perform_28 rfl (lv_at hl 5 rfl) ?_
  refine gs_iast hx hb hK hI hm hM hS 46 0 (by decide) (fun _ => rfl) (vp_in_iff.mpr ⟨by omega, by omega⟩) dX6_perform_29 (fun st_6 H locs est_6 hM hS => ?_)
  have hB_st_6 : gBN bX kX [1300, 4100, 4300, 4500, 4600] st st_6 := by rw [est_6]; exact hB_st.up (show (4600 : Nat) ∈ _ from by decide) (show (-1 : Int) ≤ y.toInt from by omega) (show y.toInt ≤ (9 : Int) from by omega)
  refine lv_aload_n hx hb dX6_perform_30 rfl (lv_at hl 3 rfl) ?_
  refine gs_get (C := RX6) (T := TX6) (N := 15) hx hb hts inX6 hown hK hM 38 0 6 (by decide) rfl rfl (by decide) (hts _ gm_249) (fun _ h9 => h9) rfl dX6_perform_31 ?_
  refine lv_iload_n hx hb dX6_perform_34 rfl (lv_at hl 2 rfl) ?_
  have h_7 : r_1.toNatClampNeg < 15 := gs_lt (vp_in_iff.mpr ⟨by omega, by omega⟩)
  refine gs_alda hx hb hK hM 40 0 (by decide) rfl (vp_in_iff.mpr ⟨by omega, by omega⟩) (a := ad 41 r_1.toNatClampNeg) (if_pos h_7) dX6_perform_35 ?_
  refine lv_iload hx hb dX6_perform_36 (lv_at hl 1 rfl) ?_
  refine lv_iload hx hb dX6_perform_38 (lv_at hl 0 rfl) ?_
  refine gs_iast hx hb hK hI hm hM hS 41 r_1.toNatClampNeg h_7 (fun _ => rfl) (vp_in_iff.mpr ⟨by omega, by omega⟩) dX6_perform_40 (fun st_8 H locs est_8 hM hS => ?_)
  have hB_st_8 : gBN bX kX [1300, 4100, 4300, 4500, 4600] st st_8 := by rw [est_8]; exact hB_st_6.up (show (4100 : Nat) ∈ _ from by decide) (show (0 : Int) ≤ x_5.toInt from by omega) (show x_5.toInt ≤ (5 : Int) from by omega)
  refine lv_aload_n hx hb dX6_perform_41 rfl (lv_at hl 3 rfl) ?_
  refine gs_get (C := RX6) (T := TX6) (N := 15) hx hb hts inX6 hown hK hM 38 0 7 (by decide) rfl rfl (by decide) (hts _ gm_250) (fun _ h9 => h9) rfl dX6_perform_42 ?_
  refine lv_iload_n hx hb dX6_perform_45 rfl (lv_at hl 2 rfl) ?_
  have h_9 : r_1.toNatClampNeg < 15 := gs_lt (vp_in_iff.mpr ⟨by omega, by omega⟩)
  refine gs_alda hx hb hK hM 42 0 (by decide) rfl (vp_in_iff.mpr ⟨by omega, by omega⟩) (a := ad 43 r_1.toNatClampNeg) (if_pos h_9) dX6_perform_46 ?_
  refine lv_iload hx hb dX6_perform_47 (lv_at hl 1 rfl) ?_
  refine lv_aload_n hx hb dX6_perform_49 rfl (lv_at hl 3 rfl) ?_
  refine gs_get (C := RX6) (T := TX6) (N := 15) hx hb hts inX6 hown hK hM 38 0 7 (by decide) rfl rfl (by decide) (hts _ gm_250) (fun _ h9 => h9) rfl dX6_perform_50 ?_
  refine lv_iload_n hx hb dX6_perform_53 rfl (lv_at hl 2 rfl) ?_
  refine lv_iconst (v := 1) hx hb dX6_perform_54 (by decide) ?_
  refine lv_isub hx hb dX6_perform_55 ?_
  refine lv_topi (fun x_10 ex_10 => ?_)
  try have tx_10 : x_10.toInt = r_1.toInt - 1 := by rw [ex_10]; exact gz_subP (x := r_1.toInt) (y := 1) rfl (by decide) (by omega) (by omega)
  have h_11 : x_10.toNatClampNeg < 15 := gs_lt (vp_in_iff.mpr ⟨by omega, by omega⟩)
  refine gs_alda hx hb hK hM 42 0 (by decide) rfl (vp_in_iff.mpr ⟨by omega, by omega⟩) (a := ad 43 x_10.toNatClampNeg) (if_pos h_11) dX6_perform_56 ?_
  refine lv_iload hx hb dX6_perform_57 (lv_at hl 1 rfl) ?_
  refine gs_iald hx hb hK hM 43 x_10.toNatClampNeg h_11 rfl (vp_in_iff.mpr ⟨by omega, by omega⟩) dX6_perform_59 ?_
  refine lv_topi (fun x_12 ex_12 => ?_)
  have qx_12 : x_12.toInt = (st_8 43 x_10.toNatClampNeg (x_2.toNatClampNeg)).toInt := congrArg Int32.toInt ex_12
  have rx_12 : x_12.toInt = ((st 43 x_10.toNatClampNeg (x_2.toNatClampNeg)) : Int32).toInt := by rw [ex_12]; exact congrArg Int32.toInt ((((congrFun (congrFun (congrFun est_8 43) x_10.toNatClampNeg) (x_2.toNatClampNeg)).trans (congrFun (congrFun (gU_k (by decide)) x_10.toNatClampNeg) (x_2.toNatClampNeg))).trans ((congrFun (congrFun (congrFun est_6 43) x_10.toNatClampNeg) (x_2.toNatClampNeg)).trans (congrFun (congrFun (gU_k (by decide)) x_10.toNatClampNeg) (x_2.toNatClampNeg)))))
  refine gs_iast hx hb hK hI hm hM hS 43 r_1.toNatClampNeg h_9 (fun _ => rfl) (vp_in_iff.mpr ⟨by omega, by omega⟩) dX6_perform_60 (fun st_13 H locs est_13 hM hS => ?_)
  have hB_st_13 : gBN bX kX [1300, 4100, 4300, 4500, 4600] st st_13 := by rw [est_13]; exact hB_st_8.up (show (4300 : Nat) ∈ _ from by decide) (gi_lo _) (gi_hi _)
  refine lv_aload_n hx hb dX6_perform_61 rfl (lv_at hl 3 rfl) ?_
  refine gs_get (C := RX6) (T := TX6) (N := 15) hx hb hts inX6 hown hK hM 38 0 8 (by decide) rfl rfl (by decide) (hts _ gm_251) (fun _ h9 => h9) rfl dX6_perform_62 ?_
  refine lv_iload_n hx hb dX6_perform_65 rfl (lv_at hl 2 rfl) ?_
  have h_14 : r_1.toNatClampNeg < 15 := gs_lt (vp_in_iff.mpr ⟨by omega, by omega⟩)
  refine gs_alda hx hb hK hM 44 0 (by decide) rfl (vp_in_iff.mpr ⟨by omega, by omega⟩) (a := ad 45 r_1.toNatClampNeg) (if_pos h_14) dX6_perform_66 ?_
  refine lv_iload hx hb dX6_perform_67 (lv_at hl 1 rfl) ?_
  refine lv_aload_n hx hb dX6_perform_69 rfl (lv_at hl 3 rfl) ?_
  refine gs_get (C := RX6) (T := TX6) (N := 15) hx hb hts inX6 hown hK hM 38 0 8 (by decide) rfl rfl (by decide) (hts _ gm_251) (fun _ h9 => h9) rfl dX6_perform_70 ?_
  refine lv_iload_n hx hb dX6_perform_73 rfl (lv_at hl 2 rfl) ?_
  refine lv_iconst (v := 1) hx hb dX6_perform_74 (by decide) ?_
  refine lv_isub hx hb dX6_perform_75 ?_
  refine lv_topi (fun x_15 ex_15 => ?_)
  try have tx_15 : x_15.toInt = r_1.toInt - 1 := by rw [ex_15]; exact gz_subP (x := r_1.toInt) (y := 1) rfl (by decide) (by omega) (by omega)
  have h_16 : x_15.toNatClampNeg < 15 := gs_lt (vp_in_iff.mpr ⟨by omega, by omega⟩)
  refine gs_alda hx hb hK hM 44 0 (by decide) rfl (vp_in_iff.mpr ⟨by omega, by omega⟩) (a := ad 45 x_15.toNatClampNeg) (if_pos h_16) dX6_perform_76 ?_
  refine lv_iload hx hb dX6_perform_77 (lv_at hl 1 rfl) ?_
  refine gs_iald hx hb hK hM 45 x_15.toNatClampNeg h_16 rfl (vp_in_iff.mpr ⟨by omega, by omega⟩) dX6_perform_79 ?_
  refine lv_topi (fun x_17 ex_17 => ?_)
  have qx_17 : x_17.toInt = (st_13 45 x_15.toNatClampNeg (x_2.toNatClampNeg)).toInt := congrArg Int32.toInt ex_17
  have rx_17 : x_17.toInt = ((st 45 x_15.toNatClampNeg (x_2.toNatClampNeg)) : Int32).toInt := by rw [ex_17]; exact congrArg Int32.toInt ((((congrFun (congrFun (congrFun est_13 45) x_15.toNatClampNeg) (x_2.toNatClampNeg)).trans (congrFun (congrFun (gU_k (by decide)) x_15.toNatClampNeg) (x_2.toNatClampNeg))).trans (((congrFun (congrFun (congrFun est_8 45) x_15.toNatClampNeg) (x_2.toNatClampNeg)).trans (congrFun (congrFun (gU_k (by decide)) x_15.toNatClampNeg) (x_2.toNatClampNeg))).trans ((congrFun (congrFun (congrFun est_6 45) x_15.toNatClampNeg) (x_2.toNatClampNeg)).trans (congrFun (congrFun (gU_k (by decide)) x_15.toNatClampNeg) (x_2.toNatClampNeg))))))
  refine gs_iast hx hb hK hI hm hM hS 45 r_1.toNatClampNeg h_14 (fun _ => rfl) (vp_in_iff.mpr ⟨by omega, by omega⟩) dX6_perform_80 (fun st_18 H locs est_18 hM hS => ?_)
  have hB_st_18 : gBN bX kX [1300, 4100, 4300, 4500, 4600] st st_18 := by rw [est_18]; exact hB_st_13.up (show (4500 : Nat) ∈ _ from by decide) (gi_lo _) (gi_hi _)
  refine lv_iload_n hx hb dX6_perform_81 rfl (lv_at hl 5 rfl) ?_
  refine lv_if_ne (tgt := 128) hx hb dX6_perform_82 (by decide) (fun c_19 => ?_) (fun c_19 => ?_)
  · have ic_19 := gz_ne (rfl : y.toInt = y.toInt) (by decide : (0 : Int32).toInt = 0) c_19
    refine lv_iload_n hx hb dX6_perform_128 rfl (lv_at hl 5 rfl) ?_
    refine lv_iconst (v := 2) hx hb dX6_perform_129 (by decide) ?_
    refine lv_icmp_lt (tgt := 176) hx hb dX6_perform_130 (by decide) (fun c_20 => ?_) (fun c_20 => ?_)
    · have ic_20 := gz_lt (rfl : y.toInt = y.toInt) (by decide : (2 : Int32).toInt = 2) c_20
      exact gs_vret hx hb hr hlocks hM hS ⟨hB_st_18, (tdX.trans (tdX.trans (tdX.trans (tdX.trans tdX.rf (tdX.upk est_6 (by decide))) (tdX.upk est_8 (by decide))) (tdX.upk est_13 (by decide))) (tdX.upk est_18 (by decide)))⟩ (by exact Nat.le_refl _) (by exact Nat.le_refl _) dX6_perform_176
    · have ic_20 := gz_nlt (rfl : y.toInt = y.toInt) (by decide : (2 : Int32).toInt = 2) c_20
      refine lv_iload_n hx hb dX6_perform_133 rfl (lv_at hl 5 rfl) ?_
      refine lv_bipush (v := 7) hx hb dX6_perform_134 (by decide) ?_
      refine lv_icmp_gt (tgt := 176) hx hb dX6_perform_136 (by decide) (fun c_21 => ?_) (fun c_21 => ?_)
      · have ic_21 := gz_lt (by decide : (7 : Int32).toInt = 7) (rfl : y.toInt = y.toInt) c_21
        exact gs_vret hx hb hr hlocks hM hS ⟨hB_st_18, (tdX.trans (tdX.trans (tdX.trans (tdX.trans tdX.rf (tdX.upk est_6 (by decide))) (tdX.upk est_8 (by decide))) (tdX.upk est_13 (by decide))) (tdX.upk est_18 (by decide)))⟩ (by exact Nat.le_refl _) (by exact Nat.le_refl _) dX6_perform_176
      · have ic_21 := gz_nlt (by decide : (7 : Int32).toInt = 7) (rfl : y.toInt = y.toInt) c_21
        refine lv_aload_n hx hb dX6_perform_139 rfl (lv_at hl 3 rfl) ?_
        refine gs_get (C := RX6) (T := TX6) (N := 15) hx hb hts inX6 hown hK hM 38 0 6 (by decide) rfl rfl (by decide) (hts _ gm_249) (fun _ h9 => h9) rfl dX6_perform_140 ?_
        refine lv_iload_n hx hb dX6_perform_143 rfl (lv_at hl 2 rfl) ?_
        have h_22 : r_1.toNatClampNeg < 15 := gs_lt (vp_in_iff.mpr ⟨by omega, by omega⟩)
        refine gs_alda hx hb hK hM 40 0 (by decide) rfl (vp_in_iff.mpr ⟨by omega, by omega⟩) (a := ad 41 r_1.toNatClampNeg) (if_pos h_22) dX6_perform_144 ?_
        refine lv_iload hx hb dX6_perform_145 (lv_at hl 1 rfl) ?_
        refine lv_iload_n hx hb dX6_perform_147 rfl (lv_at hl 5 rfl) ?_
        refine lv_iconst (v := 2) hx hb dX6_perform_148 (by decide) ?_
        refine lv_isub hx hb dX6_perform_149 ?_
        refine lv_topi (fun x_23 ex_23 => ?_)
        try have tx_23 : x_23.toInt = y.toInt - 2 := by rw [ex_23]; exact gz_subP (x := y.toInt) (y := 2) rfl (by decide) (by omega) (by omega)
        refine gs_iast hx hb hK hI hm hM hS 41 r_1.toNatClampNeg h_22 (fun _ => rfl) (vp_in_iff.mpr ⟨by omega, by omega⟩) dX6_perform_150 (fun st_24 H locs est_24 hM hS => ?_)
        have hB_st_24 : gBN bX kX [1300, 4100, 4300, 4500, 4600] st st_24 := by rw [est_24]; exact hB_st_18.up (show (4100 : Nat) ∈ _ from by decide) (show (0 : Int) ≤ x_23.toInt from by omega) (show x_23.toInt ≤ (5 : Int) from by omega)
        refine lv_aload_n hx hb dX6_perform_151 rfl (lv_at hl 3 rfl) ?_
        refine gs_get (C := RX6) (T := TX6) (N := 15) hx hb hts inX6 hown hK hM 38 0 7 (by decide) rfl rfl (by decide) (hts _ gm_250) (fun _ h9 => h9) rfl dX6_perform_152 ?_
        refine lv_iload_n hx hb dX6_perform_155 rfl (lv_at hl 2 rfl) ?_
        have h_25 : r_1.toNatClampNeg < 15 := gs_lt (vp_in_iff.mpr ⟨by omega, by omega⟩)
        refine gs_alda hx hb hK hM 42 0 (by decide) rfl (vp_in_iff.mpr ⟨by omega, by omega⟩) (a := ad 43 r_1.toNatClampNeg) (if_pos h_25) dX6_perform_156 ?_
        refine lv_iload hx hb dX6_perform_157 (lv_at hl 1 rfl) ?_
        refine lv_iload_n hx hb dX6_perform_159 rfl (lv_at hl 2 rfl) ?_
        refine lv_aload_n hx hb dX6_perform_160 rfl (lv_at hl 3 rfl) ?_
        refine gs_get (C := RX6) (T := TX6) (N := 15) hx hb hts inX6 hown hK hM 38 0 0 (by decide) rfl rfl (by decide) (hts _ gm_243) (fun _ h9 => h9) rfl dX6_perform_161 ?_
        refine gs_getN (host := "WellCourt") (C := RX3) (T := TX3) (N := 3) hx hb hts inX3 hown hK hM 4 0 2 (by decide) rfl rfl (by decide) (va_Nw.use rfl (hov.2.2 _ gn_89)) (fun _ h9 => h9) rfl dX6_perform_164 ?_
        refine lv_iload hx hb dX6_perform_167 (lv_at hl 0 rfl) ?_
        have h_26 : x_5.toNatClampNeg < 6 := gs_lt (vp_in_iff.mpr ⟨by omega, by omega⟩)
        refine gs_alda hx hb hK hM 7 0 (by decide) rfl (vp_in_iff.mpr ⟨by omega, by omega⟩) (a := ad 8 x_5.toNatClampNeg) (if_pos h_26) dX6_perform_169 ?_
        refine lv_iload_n hx hb dX6_perform_170 rfl (lv_at hl 5 rfl) ?_
        refine lv_iconst (v := 2) hx hb dX6_perform_171 (by decide) ?_
        refine lv_isub hx hb dX6_perform_172 ?_
        refine lv_topi (fun x_27 ex_27 => ?_)
        try have tx_27 : x_27.toInt = y.toInt - 2 := by rw [ex_27]; exact gz_subP (x := y.toInt) (y := 2) rfl (by decide) (by omega) (by omega)
        refine gs_iald hx hb hK hM 8 x_5.toNatClampNeg h_26 rfl (vp_in_iff.mpr ⟨by omega, by omega⟩) dX6_perform_173 ?_
        refine lv_topi (fun x_28 ex_28 => ?_)
        have qx_28 : x_28.toInt = (st_24 8 x_5.toNatClampNeg (x_27.toNatClampNeg)).toInt := congrArg Int32.toInt ex_28
        have rx_28 : x_28.toInt = ((st 8 x_5.toNatClampNeg (x_27.toNatClampNeg)) : Int32).toInt := by rw [ex_28]; exact congrArg Int32.toInt ((((congrFun (congrFun (congrFun est_24 8) x_5.toNatClampNeg) (x_27.toNatClampNeg)).trans (congrFun (congrFun (gU_k (by decide)) x_5.toNatClampNeg) (x_27.toNatClampNeg))).trans (((congrFun (congrFun (congrFun est_18 8) x_5.toNatClampNeg) (x_27.toNatClampNeg)).trans (congrFun (congrFun (gU_k (by decide)) x_5.toNatClampNeg) (x_27.toNatClampNeg))).trans (((congrFun (congrFun (congrFun est_13 8) x_5.toNatClampNeg) (x_27.toNatClampNeg)).trans (congrFun (congrFun (gU_k (by decide)) x_5.toNatClampNeg) (x_27.toNatClampNeg))).trans (((congrFun (congrFun (congrFun est_8 8) x_5.toNatClampNeg) (x_27.toNatClampNeg)).trans (congrFun (congrFun (gU_k (by decide)) x_5.toNatClampNeg) (x_27.toNatClampNeg))).trans ((congrFun (congrFun (congrFun est_6 8) x_5.toNatClampNeg) (x_27.toNatClampNeg)).trans (congrFun (congrFun (gU_k (by decide)) x_5.toNatClampNeg) (x_27.toNatClampNeg))))))))
        refine lv_iadd hx hb dX6_perform_174 ?_
        refine lv_topi (fun x_29 ex_29 => ?_)
        try have tx_29 : x_29.toInt = r_1.toInt + x_28.toInt := by rw [ex_29]; exact gz_addI (x := r_1.toInt) (y := x_28.toInt) rfl rfl (by omega) (by omega)
        refine gs_iast hx hb hK hI hm hM hS 43 r_1.toNatClampNeg h_25 (fun _ => rfl) (vp_in_iff.mpr ⟨by omega, by omega⟩) dX6_perform_175 (fun st_30 H locs est_30 hM hS => ?_)
        have hB_st_30 : gBN bX kX [1300, 4100, 4300, 4500, 4600] st st_30 := by rw [est_30]; exact hB_st_24.up (show (4300 : Nat) ∈ _ from by decide) (gi_lo _) (gi_hi _)
        exact gs_vret hx hb hr hlocks hM hS ⟨hB_st_30, (tdX.trans (tdX.trans (tdX.trans (tdX.trans (tdX.trans (tdX.trans tdX.rf (tdX.upk est_6 (by decide))) (tdX.upk est_8 (by decide))) (tdX.upk est_13 (by decide))) (tdX.upk est_18 (by decide))) (tdX.upk est_24 (by decide))) (tdX.upk est_30 (by decide)))⟩ (by exact Nat.le_refl _) (by exact Nat.le_refl _) dX6_perform_176
  · have ic_19 := gz_eqn (rfl : y.toInt = y.toInt) (by decide : (0 : Int32).toInt = 0) c_19
    refine lv_aload_n hx hb dX6_perform_85 rfl (lv_at hl 3 rfl) ?_
    refine gs_get (C := RX6) (T := TX6) (N := 15) hx hb hts inX6 hown hK hM 38 0 5 (by decide) rfl rfl (by decide) (hts _ gm_248) (fun _ h9 => h9) rfl dX6_perform_86 ?_
    refine lv_iload_n hx hb dX6_perform_89 rfl (lv_at hl 2 rfl) ?_
    have h_31 : r_1.toNatClampNeg < 15 := gs_lt (vp_in_iff.mpr ⟨by omega, by omega⟩)
    refine gs_aldd hx hb hK hM 39 0 (by decide) rfl (vp_in_iff.mpr ⟨by omega, by omega⟩) (a := ad 12 r_1.toNatClampNeg) (if_pos h_31) dX6_perform_90 ?_
    refine gs_getN (host := "WellCourt") (C := RX1) (T := TX1) (N := 3) hx hb hts inX1 hown hK hM 12 r_1.toNatClampNeg 0 (Nat.lt_trans h_31 (by decide)) rfl rfl (by decide) (va_Nw.use rfl (hov.2.2 _ gn_122)) (fun _ h9 => h9) rfl dX6_perform_91 ?_
    refine lv_iload hx hb dX6_perform_94 (lv_at hl 0 rfl) ?_
    refine lv_dup2_11 hx hb dX6_perform_96 rfl rfl ?_
    refine gs_iald hx hb hK hM 13 r_1.toNatClampNeg (Nat.lt_trans h_31 (by decide)) rfl (vp_in_iff.mpr ⟨by omega, by omega⟩) dX6_perform_97 ?_
    refine lv_topi (fun x_32 ex_32 => ?_)
    have qx_32 : x_32.toInt = (st_18 13 r_1.toNatClampNeg (x_5.toNatClampNeg)).toInt := congrArg Int32.toInt ex_32
    have rx_32 : x_32.toInt = ((st 13 r_1.toNatClampNeg (x_5.toNatClampNeg)) : Int32).toInt := by rw [ex_32]; exact congrArg Int32.toInt ((((congrFun (congrFun (congrFun est_18 13) r_1.toNatClampNeg) (x_5.toNatClampNeg)).trans (congrFun (congrFun (gU_k (by decide)) r_1.toNatClampNeg) (x_5.toNatClampNeg))).trans (((congrFun (congrFun (congrFun est_13 13) r_1.toNatClampNeg) (x_5.toNatClampNeg)).trans (congrFun (congrFun (gU_k (by decide)) r_1.toNatClampNeg) (x_5.toNatClampNeg))).trans (((congrFun (congrFun (congrFun est_8 13) r_1.toNatClampNeg) (x_5.toNatClampNeg)).trans (congrFun (congrFun (gU_k (by decide)) r_1.toNatClampNeg) (x_5.toNatClampNeg))).trans ((congrFun (congrFun (congrFun est_6 13) r_1.toNatClampNeg) (x_5.toNatClampNeg)).trans (congrFun (congrFun (gU_k (by decide)) r_1.toNatClampNeg) (x_5.toNatClampNeg)))))))
    refine lv_aload_n hx hb dX6_perform_98 rfl (lv_at hl 3 rfl) ?_
    refine gs_get (C := RX6) (T := TX6) (N := 15) hx hb hts inX6 hown hK hM 38 0 2 (by decide) rfl rfl (by decide) (hts _ gm_245) (fun _ h9 => h9) rfl dX6_perform_99 ?_
    refine gs_getN (host := "WellCourt") (C := RX2) (T := TX2) (N := 5) hx hb hts inX2 hown hK hM 19 0 1 (by decide) rfl rfl (by decide) (va_Nw.use rfl (hov.2.2 _ gn_161)) (fun _ h9 => h9) rfl dX6_perform_102 ?_
    refine lv_iload hx hb dX6_perform_105 (lv_at hl 1 rfl) ?_
    refine gs_iald hx hb hK hM 21 0 (by decide) rfl (vp_in_iff.mpr ⟨by omega, by omega⟩) dX6_perform_107 ?_
    refine lv_topi (fun x_33 ex_33 => ?_)
    have qx_33 : x_33.toInt = (st_18 21 0 (x_2.toNatClampNeg)).toInt := congrArg Int32.toInt ex_33
    have rx_33 : x_33.toInt = ((st 21 0 (x_2.toNatClampNeg)) : Int32).toInt := by rw [ex_33]; exact congrArg Int32.toInt ((((congrFun (congrFun (congrFun est_18 21) 0) (x_2.toNatClampNeg)).trans (congrFun (congrFun (gU_k (by decide)) 0) (x_2.toNatClampNeg))).trans (((congrFun (congrFun (congrFun est_13 21) 0) (x_2.toNatClampNeg)).trans (congrFun (congrFun (gU_k (by decide)) 0) (x_2.toNatClampNeg))).trans (((congrFun (congrFun (congrFun est_8 21) 0) (x_2.toNatClampNeg)).trans (congrFun (congrFun (gU_k (by decide)) 0) (x_2.toNatClampNeg))).trans ((congrFun (congrFun (congrFun est_6 21) 0) (x_2.toNatClampNeg)).trans (congrFun (congrFun (gU_k (by decide)) 0) (x_2.toNatClampNeg)))))))
    refine lv_isub hx hb dX6_perform_108 ?_
    refine lv_topi (fun x_34 ex_34 => ?_)
    try have tx_34 : x_34.toInt = x_32.toInt - x_33.toInt := by rw [ex_34]; exact gz_subI (x := x_32.toInt) (y := x_33.toInt) rfl rfl (by omega) (by omega)
    refine gs_iast hx hb hK hI hm hM hS 13 r_1.toNatClampNeg (Nat.lt_trans h_31 (by decide)) (fun _ => rfl) (vp_in_iff.mpr ⟨by omega, by omega⟩) dX6_perform_109 (fun st_35 H locs est_35 hM hS => ?_)
    have hB_st_35 : gBN bX kX [1300, 4100, 4300, 4500, 4600] st st_35 := by rw [est_35]; exact hB_st_18.up (show (1300 : Nat) ∈ _ from by decide) (gi_lo _) (gi_hi _)
    refine lv_aload_n hx hb dX6_perform_110 rfl (lv_at hl 3 rfl) ?_
    refine gs_get (C := RX6) (T := TX6) (N := 15) hx hb hts inX6 hown hK hM 38 0 8 (by decide) rfl rfl (by decide) (hts _ gm_251) (fun _ h9 => h9) rfl dX6_perform_111 ?_
    refine lv_iload_n hx hb dX6_perform_114 rfl (lv_at hl 2 rfl) ?_
    have h_36 : r_1.toNatClampNeg < 15 := gs_lt (vp_in_iff.mpr ⟨by omega, by omega⟩)
    refine gs_alda hx hb hK hM 44 0 (by decide) rfl (vp_in_iff.mpr ⟨by omega, by omega⟩) (a := ad 45 r_1.toNatClampNeg) (if_pos h_36) dX6_perform_115 ?_
    refine lv_iload hx hb dX6_perform_116 (lv_at hl 1 rfl) ?_
    refine lv_aload_n hx hb dX6_perform_118 rfl (lv_at hl 3 rfl) ?_
    refine gs_get (C := RX6) (T := TX6) (N := 15) hx hb hts inX6 hown hK hM 38 0 4 (by decide) rfl rfl (by decide) (hts _ gm_247) (fun _ h9 => h9) rfl dX6_perform_119 ?_
    refine lv_topi (fun x_37 ex_37 => ?_)
    have ex_37 : (st 38 0 4) = x_37 := Eq.symm (ex_37.trans (((congrFun (congrFun (congrFun est_35 38) 0) 4).trans (congrFun (congrFun (gU_k (by decide)) 0) 4)).trans (((congrFun (congrFun (congrFun est_18 38) 0) 4).trans (congrFun (congrFun (gU_k (by decide)) 0) 4)).trans (((congrFun (congrFun (congrFun est_13 38) 0) 4).trans (congrFun (congrFun (gU_k (by decide)) 0) 4)).trans (((congrFun (congrFun (congrFun est_8 38) 0) 4).trans (congrFun (congrFun (gU_k (by decide)) 0) 4)).trans ((congrFun (congrFun (congrFun est_6 38) 0) 4).trans (congrFun (congrFun (gU_k (by decide)) 0) 4)))))))
    subst ex_37
    have bf_38 : (0 : Int) ≤ (st 38 0 4).toInt ∧ (st 38 0 4).toInt ≤ (199 : Int) := hB_st.1 38 0 4
    refine lv_iload_n hx hb dX6_perform_122 rfl (lv_at hl 2 rfl) ?_
    refine lv_iadd hx hb dX6_perform_123 ?_
    refine lv_topi (fun x_39 ex_39 => ?_)
    try have tx_39 : x_39.toInt = (st 38 0 4).toInt + r_1.toInt := by rw [ex_39]; exact gz_addI (x := (st 38 0 4).toInt) (y := r_1.toInt) rfl rfl (by omega) (by omega)
    refine gs_iast hx hb hK hI hm hM hS 45 r_1.toNatClampNeg h_36 (fun _ => rfl) (vp_in_iff.mpr ⟨by omega, by omega⟩) dX6_perform_124 (fun st_40 H locs est_40 hM hS => ?_)
    have hB_st_40 : gBN bX kX [1300, 4100, 4300, 4500, 4600] st st_40 := by rw [est_40]; exact hB_st_35.up (show (4500 : Nat) ∈ _ from by decide) (gi_lo _) (gi_hi _)
    refine lv_goto (tgt := 176) hx hb dX6_perform_125 (by decide) ?_
    exact gs_vret hx hb hr hlocks hM hS ⟨hB_st_40, (tdX.trans (tdX.trans (tdX.trans (tdX.trans (tdX.trans (tdX.trans tdX.rf (tdX.upk est_6 (by decide))) (tdX.upk est_8 (by decide))) (tdX.upk est_13 (by decide))) (tdX.upk est_18 (by decide))) (tdX.up est_35 (by first | decide | omega))) (tdX.upk est_40 (by decide)))⟩ (by exact Nat.le_refl _) (by exact Nat.le_refl _) dX6_perform_176

set_option maxHeartbeats 4000000 in
set_option maxRecDepth 100000 in
/-- WellCourt$Planner.undo -/
theorem s_X6_undo (l : Launch) (G : va_G) (cy : Nat → ClassId) (sK sV : Nat → Nat) (ad : Nat → Nat → Nat) (sz : Nat) (st : gS) (hB : gBd bX st) (x : Int32) (Xx : Int) (kx : x.toInt = Xx) (hx0 : 0 ≤ Xx) (hx1 : Xx ≤ 55) : gsMv l yX6_undo cX6_undo 4 ({ frames := 1, cells := 0, slots := 0, locals := 20 } : Room) G cy sK sV (shX cy ad) cnX ad sz [.ref (ad 38 0), .int x] st (fun (u : gS) => gBN bX kX [1300] st u ∧ ((tdX st u))) := by
  refine gs_start (fun A => gsQv G (shX cy ad) cnX ad _ A) (by decide) (Nat.le_of_ble_eq_true rfl) ?_
  intro p e s m below meth c A ls H hx hb hr hml hlocks hown hts hK hov hE hI hM hm hS hA hl
  have hl : lv_has ls 4 [(0, .ref (ad 38 0)), (1, .int x)] := hl
  have hB_st : gBN bX kX [1300] st st := gBN.rf hB
  refine lv_aload_n hx hb dX6_undo_0 rfl (lv_at hl 0 rfl) ?_
  refine gs_get (C := RX6) (T := TX6) (N := 15) hx hb hts inX6 hown hK hM 38 0 9 (by decide) rfl rfl (by decide) (hts _ gm_252) (fun _ h9 => h9) rfl dX6_undo_1 ?_
  refine lv_iload_n hx hb dX6_undo_4 rfl (lv_at hl 1 rfl) ?_
  refine gs_iald hx hb hK hM 46 0 (by decide) rfl (vp_in_iff.mpr ⟨by omega, by omega⟩) dX6_undo_5 ?_
  refine lv_topi (fun x_1 ex_1 => ?_)
  have qx_1 : x_1.toInt = (st 46 0 (x.toNatClampNeg)).toInt := congrArg Int32.toInt ex_1
  have bx_1 : (-1 : Int) ≤ x_1.toInt ∧ x_1.toInt ≤ (9 : Int) := by rw [qx_1]; exact hB_st.1 46 0 (x.toNatClampNeg)
  refine lv_if_ne (tgt := 48) hx hb dX6_undo_6 (by decide) (fun c_2 => ?_) (fun c_2 => ?_)
  · have ic_2 := gz_ne (rfl : x_1.toInt = x_1.toInt) (by decide : (0 : Int32).toInt = 0) c_2
    exact gs_vret hx hb hr hlocks hM hS ⟨hB_st, tdX.rf⟩ (by exact Nat.le_refl _) (by exact Nat.le_refl _) dX6_undo_48
  · have ic_2 := gz_eqn (rfl : x_1.toInt = x_1.toInt) (by decide : (0 : Int32).toInt = 0) c_2
    refine lv_iload_n hx hb dX6_undo_9 rfl (lv_at hl 1 rfl) ?_
    refine gs_calli (va_runS (As := [.int x]) (rest := []) ⟨hx, hb, hml, hown, hts⟩ (s_X6_rowOf l G cy sK sV ad H.size st hB_st.1 x x.toInt rfl (by first | decide | omega) (by first | decide | omega)) ⟨(gz_cb (n := 1) hts gm_865 gm_11 gm_867 ⟨by decide +kernel, by decide +kernel, by decide +kernel⟩ ⟨Nat.le_of_ble_eq_true rfl, Nat.le_of_ble_eq_true rfl⟩), hts _ gm_866⟩ (gs_preS hK hov hE hI hM hm hS hA) rfl rfl hl.1 rfl (lv_room (Nat.le_of_ble_eq_true rfl)) dX6_undo_10 ⟨Nat.le_of_ble_eq_true rfl, Nat.le_of_ble_eq_true rfl⟩) hm hS hA (fun r_3 st_3 H locs hw_3 hM hS => ?_)
    obtain ⟨n_3, hw_3⟩ := hw_3
    have n_3 := gBN.nil n_3
    subst n_3
    obtain ⟨hw_3_0, hw_3_1, hw_3_2, hw_3_3⟩ := hw_3
    refine lv_istore_n (lv' := [(2, .int r_3), (0, .ref (ad 38 0)), (1, .int x)]) hx hb dX6_undo_13 rfl hl (by decide) rfl (fun ls hl => ?_)
    refine lv_iload_n hx hb dX6_undo_14 rfl (lv_at hl 2 rfl) ?_
    refine lv_iconst (v := 4) hx hb dX6_undo_15 (by decide) ?_
    refine lv_irem hx hb dX6_undo_16 (by decide) ?_
    refine lv_topi (fun x_4 ex_4 => ?_)
    try have tx_4 := gs_rem (y := 4) (by decide) (show 0 ≤ x.toInt from by omega) (by omega) ex_4
    refine lv_istore_n (lv' := [(3, .int x_4), (2, .int r_3), (0, .ref (ad 38 0)), (1, .int x)]) hx hb dX6_undo_17 rfl hl (by decide) rfl (fun ls hl => ?_)
    refine lv_aload_n hx hb dX6_undo_18 rfl (lv_at hl 2 rfl) ?_
    refine gs_get (C := RX6) (T := TX6) (N := 15) hx hb hts inX6 hown hK hM 38 0 5 (by decide) rfl rfl (by decide) (hts _ gm_248) (fun _ h9 => h9) rfl dX6_undo_19 ?_
    refine lv_iload_n hx hb dX6_undo_22 rfl (lv_at hl 1 rfl) ?_
    have h_5 : r_3.toNatClampNeg < 15 := gs_lt (vp_in_iff.mpr ⟨by omega, by omega⟩)
    refine gs_aldd hx hb hK hM 39 0 (by decide) rfl (vp_in_iff.mpr ⟨by omega, by omega⟩) (a := ad 12 r_3.toNatClampNeg) (if_pos h_5) dX6_undo_23 ?_
    refine gs_getN (host := "WellCourt") (C := RX1) (T := TX1) (N := 3) hx hb hts inX1 hown hK hM 12 r_3.toNatClampNeg 0 (Nat.lt_trans h_5 (by decide)) rfl rfl (by decide) (va_Nw.use rfl (hov.2.2 _ gn_122)) (fun _ h9 => h9) rfl dX6_undo_24 ?_
    refine lv_aload_n hx hb dX6_undo_27 rfl (lv_at hl 2 rfl) ?_
    refine gs_get (C := RX6) (T := TX6) (N := 15) hx hb hts inX6 hown hK hM 38 0 6 (by decide) rfl rfl (by decide) (hts _ gm_249) (fun _ h9 => h9) rfl dX6_undo_28 ?_
    refine lv_iload_n hx hb dX6_undo_31 rfl (lv_at hl 1 rfl) ?_
    have h_6 : r_3.toNatClampNeg < 15 := gs_lt (vp_in_iff.mpr ⟨by omega, by omega⟩)
    refine gs_alda hx hb hK hM 40 0 (by decide) rfl (vp_in_iff.mpr ⟨by omega, by omega⟩) (a := ad 41 r_3.toNatClampNeg) (if_pos h_6) dX6_undo_32 ?_
    refine lv_iload_n hx hb dX6_undo_33 rfl (lv_at hl 0 rfl) ?_
    refine gs_iald hx hb hK hM 41 r_3.toNatClampNeg h_6 rfl (vp_in_iff.mpr ⟨by omega, by omega⟩) dX6_undo_34 ?_
    refine lv_topi (fun x_7 ex_7 => ?_)
    have qx_7 : x_7.toInt = (st 41 r_3.toNatClampNeg (x_4.toNatClampNeg)).toInt := congrArg Int32.toInt ex_7
    have bx_7 : (0 : Int) ≤ x_7.toInt ∧ x_7.toInt ≤ (5 : Int) := by rw [qx_7]; exact hB_st.1 41 r_3.toNatClampNeg (x_4.toNatClampNeg)
    refine lv_dup2_11 hx hb dX6_undo_35 rfl rfl ?_
    refine gs_iald hx hb hK hM 13 r_3.toNatClampNeg (Nat.lt_trans h_5 (by decide)) rfl (vp_in_iff.mpr ⟨by omega, by omega⟩) dX6_undo_36 ?_
    refine lv_topi (fun x_8 ex_8 => ?_)
    have qx_8 : x_8.toInt = (st 13 r_3.toNatClampNeg (x_7.toNatClampNeg)).toInt := congrArg Int32.toInt ex_8
    refine lv_aload_n hx hb dX6_undo_37 rfl (lv_at hl 2 rfl) ?_
    refine gs_get (C := RX6) (T := TX6) (N := 15) hx hb hts inX6 hown hK hM 38 0 2 (by decide) rfl rfl (by decide) (hts _ gm_245) (fun _ h9 => h9) rfl dX6_undo_38 ?_
    refine gs_getN (host := "WellCourt") (C := RX2) (T := TX2) (N := 5) hx hb hts inX2 hown hK hM 19 0 1 (by decide) rfl rfl (by decide) (va_Nw.use rfl (hov.2.2 _ gn_161)) (fun _ h9 => h9) rfl dX6_undo_41 ?_
    refine lv_iload_n hx hb dX6_undo_44 rfl (lv_at hl 0 rfl) ?_
    refine gs_iald hx hb hK hM 21 0 (by decide) rfl (vp_in_iff.mpr ⟨by omega, by omega⟩) dX6_undo_45 ?_
    refine lv_topi (fun x_9 ex_9 => ?_)
    have qx_9 : x_9.toInt = (st 21 0 (x_4.toNatClampNeg)).toInt := congrArg Int32.toInt ex_9
    refine lv_iadd hx hb dX6_undo_46 ?_
    refine lv_topi (fun x_10 ex_10 => ?_)
    try have tx_10 : x_10.toInt = x_8.toInt + x_9.toInt := by rw [ex_10]; exact gz_addI (x := x_8.toInt) (y := x_9.toInt) rfl rfl (by omega) (by omega)
    refine gs_iast hx hb hK hI hm hM hS 13 r_3.toNatClampNeg (Nat.lt_trans h_5 (by decide)) (fun _ => rfl) (vp_in_iff.mpr ⟨by omega, by omega⟩) dX6_undo_47 (fun st_11 H locs est_11 hM hS => ?_)
    have hB_st_11 : gBN bX kX [1300] st st_11 := by rw [est_11]; exact hB_st.up (show (1300 : Nat) ∈ _ from by decide) (gi_lo _) (gi_hi _)
    exact gs_vret hx hb hr hlocks hM hS ⟨hB_st_11, (tdX.trans tdX.rf (tdX.up est_11 (by first | decide | omega)))⟩ (by exact Nat.le_refl _) (by exact Nat.le_refl _) dX6_undo_48

set_option maxHeartbeats 4000000 in
set_option maxRecDepth 100000 in
/-- WellCourt$Planner.isGood -/
theorem s_X6_isGood (l : Launch) (G : va_G) (cy : Nat → ClassId) (sK sV : Nat → Nat) (ad : Nat → Nat → Nat) (sz : Nat) (st : gS) (hB : gBd bX st) (x : Int32) (Xx : Int) (kx : x.toInt = Xx) (hx0 : 1 ≤ Xx) (hx1 : Xx ≤ 14) : gsMi l yX6_isGood cX6_isGood 3 (some .boolean) ({ frames := 1, cells := 0, slots := 0, locals := 21 } : Room) G cy sK sV (shX cy ad) cnX ad sz [.ref (ad 38 0), .int x] st (fun (r : Int32) (u : gS) => gBN bX kX [] st u ∧ ((r = 1) ∨ (r = 0))) := by
  refine gs_start (fun A => gsQi G (shX cy ad) cnX ad _ A) (by decide) (Nat.le_of_ble_eq_true rfl) ?_
  intro p e s m below meth c A ls H hx hb hr hml hlocks hown hts hK hov hE hI hM hm hS hA hl
  have hl : lv_has ls 3 [(0, .ref (ad 38 0)), (1, .int x)] := hl
  have hB_st : gBN bX kX [] st st := gBN.rf hB
  generalize hQe : MQ below _ _ s _ _ A = Q
  refine lv_iconst (v := 0) hx hb dX6_isGood_0 (by decide) ?_
  refine lv_istore_n (lv' := [(2, .int 0), (0, .ref (ad 38 0)), (1, .int x)]) hx hb dX6_isGood_1 rfl hl (by decide) rfl (fun ls hl => ?_)
  have lp1 : ∀ (n1 : Nat) (sv1 : gS) (y1_0 : Int32) (H : Heap) (locs : List Loc) (ls : Array Slot), (4 - y1_0.toInt).toNat < n1 → gBN bX kX [] st sv1 → (0 ≤ y1_0.toInt) → gM G (shX cy ad) cnX ad sv1 H → va_S A s.heap H locs → lv_has ls 3 [(2, .int y1_0), (0, .ref (ad 38 0)), (1, .int x)] → W p l e ({ frames := 1, cells := 0, slots := 0, locals := 21 } : Room) s m [.ref (ad 38 0), .int x].toArray below meth c H locs 0 0 Q (F0 m 2 ls []) := by
    intro n1
    induction n1 with
    | zero => intro sv1 y1_0 H locs ls h9; exact absurd h9 (Nat.not_lt_zero _)
    | succ n1 ih_1 =>
      intro sv1 y1_0 H locs ls hme1 hB_sv1 hv1_0 hM hS hl
      refine lv_iload_n hx hb dX6_isGood_2 rfl (lv_at hl 0 rfl) ?_
      refine lv_iconst (v := 4) hx hb dX6_isGood_3 (by decide) ?_
      refine lv_icmp_ge (tgt := 53) hx hb dX6_isGood_4 (by decide) (fun c_2 => ?_) (fun c_2 => ?_)
      · have ic_2 := gz_le (by decide : (4 : Int32).toInt = 4) (rfl : y1_0.toInt = y1_0.toInt) c_2
        refine lv_iconst (v := 1) hx hb dX6_isGood_53 (by decide) ?_
        rw [← hQe]
        exact gs_iret hx hb hr hlocks hM hS (by decide) ⟨hB_sv1, (Or.inl rfl)⟩ (by exact Nat.le_refl _) (by exact Nat.le_refl _) dX6_isGood_54
      · have ic_2 := gz_nle (by decide : (4 : Int32).toInt = 4) (rfl : y1_0.toInt = y1_0.toInt) c_2
        refine lv_aload_n hx hb dX6_isGood_7 rfl (lv_at hl 1 rfl) ?_
        refine gs_get (C := RX6) (T := TX6) (N := 15) hx hb hts inX6 hown hK hM 38 0 2 (by decide) rfl rfl (by decide) (hts _ gm_245) (fun _ h9 => h9) rfl dX6_isGood_8 ?_
        refine lv_iload_n hx hb dX6_isGood_11 rfl (lv_at hl 0 rfl) ?_
        refine gs_calli (va_runV (As := [.int y1_0]) (rest := []) ⟨hx, hb, hml, hown, hts⟩ (s_X2_isThere l G cy sK sV ad H.size sv1 hB_sv1.1 y1_0 y1_0.toInt rfl (by first | decide | omega) (by first | decide | omega)) ⟨(gz_cb (n := 1) hts gm_868 gm_9 gm_707 ⟨by decide +kernel, by decide +kernel, by decide +kernel⟩ ⟨Nat.le_of_ble_eq_true rfl, Nat.le_of_ble_eq_true rfl⟩), hts _ gm_705, hts _ gm_706⟩ (gs_preV hK hov hE hI hM hm hS hA 19 0 (by decide) rfl rfl) rfl rfl hl.1 rfl (lv_room (Nat.le_of_ble_eq_true rfl)) dX6_isGood_12 ⟨Nat.le_of_ble_eq_true rfl, Nat.le_of_ble_eq_true rfl⟩) hm hS hA (fun r_3 st_3 H locs hw_3 hM hS => ?_)
        obtain ⟨n_3, hw_3⟩ := hw_3
        have n_3 := gBN.nil n_3
        subst n_3
        rcases hw_3 with ⟨rfl, hw_3_0⟩ | ⟨rfl, hw_3_0⟩
        · skip
          refine lv_if_eq (tgt := 47) hx hb dX6_isGood_15 (by decide) (fun h9 => absurd h9 (by decide)) (fun _ => ?_)
          refine lv_aload_n hx hb dX6_isGood_18 rfl (lv_at hl 1 rfl) ?_
          refine gs_get (C := RX6) (T := TX6) (N := 15) hx hb hts inX6 hown hK hM 38 0 4 (by decide) rfl rfl (by decide) (hts _ gm_247) (fun _ h9 => h9) rfl dX6_isGood_19 ?_
          refine lv_topi (fun x_4 ex_4 => ?_)
          have ex_4 : (st 38 0 4) = x_4 := Eq.symm (ex_4.trans (hB_sv1.2 38 0 4 (show (3804 : Nat) ∉ _ from by decide)))
          subst ex_4
          have bf_5 : (0 : Int) ≤ (st 38 0 4).toInt ∧ (st 38 0 4).toInt ≤ (199 : Int) := hB_st.1 38 0 4
          refine lv_iload_n hx hb dX6_isGood_22 rfl (lv_at hl 2 rfl) ?_
          refine lv_iadd hx hb dX6_isGood_23 ?_
          refine lv_topi (fun x_6 ex_6 => ?_)
          try have tx_6 : x_6.toInt = (st 38 0 4).toInt + x.toInt := by rw [ex_6]; exact gz_addI (x := (st 38 0 4).toInt) (y := x.toInt) rfl rfl (by omega) (by omega)
          refine lv_aload_n hx hb dX6_isGood_24 rfl (lv_at hl 1 rfl) ?_
          refine gs_get (C := RX6) (T := TX6) (N := 15) hx hb hts inX6 hown hK hM 38 0 8 (by decide) rfl rfl (by decide) (hts _ gm_251) (fun _ h9 => h9) rfl dX6_isGood_25 ?_
          refine lv_iload_n hx hb dX6_isGood_28 rfl (lv_at hl 2 rfl) ?_
          have h_7 : x.toNatClampNeg < 15 := gs_lt (vp_in_iff.mpr ⟨by omega, by omega⟩)
          refine gs_alda hx hb hK hM 44 0 (by decide) rfl (vp_in_iff.mpr ⟨by omega, by omega⟩) (a := ad 45 x.toNatClampNeg) (if_pos h_7) dX6_isGood_29 ?_
          refine lv_iload_n hx hb dX6_isGood_30 rfl (lv_at hl 0 rfl) ?_
          refine gs_iald hx hb hK hM 45 x.toNatClampNeg h_7 rfl (vp_in_iff.mpr ⟨by omega, by omega⟩) dX6_isGood_31 ?_
          refine lv_topi (fun x_8 ex_8 => ?_)
          have qx_8 : x_8.toInt = (sv1 45 x.toNatClampNeg (y1_0.toNatClampNeg)).toInt := congrArg Int32.toInt ex_8
          have rx_8 : x_8.toInt = ((st 45 x.toNatClampNeg (y1_0.toNatClampNeg)) : Int32).toInt := by rw [ex_8]; exact congrArg Int32.toInt ((hB_sv1.2 45 x.toNatClampNeg (y1_0.toNatClampNeg) (show (4500 : Nat) ∉ _ from by decide)))
          refine lv_isub hx hb dX6_isGood_32 ?_
          refine lv_topi (fun x_9 ex_9 => ?_)
          try have tx_9 : x_9.toInt = x_6.toInt - x_8.toInt := by rw [ex_9]; exact gz_subI (x := x_6.toInt) (y := x_8.toInt) rfl rfl (by omega) (by omega)
          refine lv_aload_n hx hb dX6_isGood_33 rfl (lv_at hl 1 rfl) ?_
          refine gs_get (C := RX6) (T := TX6) (N := 15) hx hb hts inX6 hown hK hM 38 0 2 (by decide) rfl rfl (by decide) (hts _ gm_245) (fun _ h9 => h9) rfl dX6_isGood_34 ?_
          refine gs_getN (host := "WellCourt") (C := RX2) (T := TX2) (N := 5) hx hb hts inX2 hown hK hM 19 0 2 (by decide) rfl rfl (by decide) (va_Nw.use rfl (hov.2.2 _ gn_163)) (fun _ h9 => h9) rfl dX6_isGood_37 ?_
          refine lv_iload_n hx hb dX6_isGood_40 rfl (lv_at hl 0 rfl) ?_
          refine gs_iald hx hb hK hM 22 0 (by decide) rfl (vp_in_iff.mpr ⟨by omega, by omega⟩) dX6_isGood_41 ?_
          refine lv_topi (fun x_10 ex_10 => ?_)
          have qx_10 : x_10.toInt = (sv1 22 0 (y1_0.toNatClampNeg)).toInt := congrArg Int32.toInt ex_10
          have rx_10 : x_10.toInt = ((st 22 0 (y1_0.toNatClampNeg)) : Int32).toInt := by rw [ex_10]; exact congrArg Int32.toInt ((hB_sv1.2 22 0 (y1_0.toNatClampNeg) (show (2200 : Nat) ∉ _ from by decide)))
          refine lv_icmp_le (tgt := 47) hx hb dX6_isGood_42 (by decide) (fun c_11 => ?_) (fun c_11 => ?_)
          · have ic_11 := gz_le (rfl : x_9.toInt = x_9.toInt) (rfl : x_10.toInt = x_10.toInt) c_11
            obtain ⟨x_12, ex_12⟩ : ∃ y : Int32, y = y1_0 + 1 := ⟨_, rfl⟩
            try have tx_12 : x_12.toInt = y1_0.toInt + 1 := by rw [ex_12]; exact gz_addP (x := y1_0.toInt) (y := 1) rfl (by decide) (by omega) (by omega)
            refine lv_iinc (v := (x_12)) (lv' := [(2, .int x_12), (0, .ref (ad 38 0)), (1, .int x)]) hx hb dX6_isGood_47 hl (k := 0) rfl (by rw [ex_12]; rfl) (by decide) rfl (fun ls hl => ?_)
            refine lv_goto (tgt := 2) hx hb dX6_isGood_50 (by decide) ?_
            exact ih_1 sv1 (x_12 : Int32) H _ ls (by omega) hB_sv1 (by omega) hM hS (lv_sub hl [0, 1, 2] rfl)
          · have ic_11 := gz_nle (rfl : x_9.toInt = x_9.toInt) (rfl : x_10.toInt = x_10.toInt) c_11
            have lc_11 := gi_hi x_9
            refine lv_iconst (v := 0) hx hb dX6_isGood_45 (by decide) ?_
            rw [← hQe]
            exact gs_iret hx hb hr hlocks hM hS (by decide) ⟨hB_sv1, (Or.inr (rfl))⟩ (by exact Nat.le_refl _) (by exact Nat.le_refl _) dX6_isGood_46
        · skip
          refine lv_if_eq (tgt := 47) hx hb dX6_isGood_15 (by decide) (fun _ => ?_) (fun h9 => absurd (by decide) h9)
          obtain ⟨x_13, ex_13⟩ : ∃ y : Int32, y = y1_0 + 1 := ⟨_, rfl⟩
          try have tx_13 : x_13.toInt = y1_0.toInt + 1 := by rw [ex_13]; exact gz_addP (x := y1_0.toInt) (y := 1) rfl (by decide) (by omega) (by omega)
          refine lv_iinc (v := (x_13)) (lv' := [(2, .int x_13), (0, .ref (ad 38 0)), (1, .int x)]) hx hb dX6_isGood_47 hl (k := 0) rfl (by rw [ex_13]; rfl) (by decide) rfl (fun ls hl => ?_)
          refine lv_goto (tgt := 2) hx hb dX6_isGood_50 (by decide) ?_
          exact ih_1 sv1 (x_13 : Int32) H _ ls (by omega) hB_sv1 (by omega) hM hS (lv_sub hl [0, 1, 2] rfl)
  exact lp1 ((4 - ((0 : Int32) : Int32).toInt).toNat + 1) st ((0 : Int32) : Int32) H _ ls (Nat.lt_succ_self _) hB_st (by have hl0 : (0 : Int32).toInt = 0 := (by decide); omega) hM hS (lv_sub hl [0, 1, 2] rfl)

set_option maxHeartbeats 4000000 in
set_option maxRecDepth 100000 in
/-- WellCourt$Planner.keepFound -/
theorem s_X6_keepFound (l : Launch) (G : va_G) (cy : Nat → ClassId) (sK sV : Nat → Nat) (ad : Nat → Nat → Nat) (sz : Nat) (st : gS) (hB : gBd bX st) (x : Int32) (Xx : Int) (kx : x.toInt = Xx) (hx0 : 1 ≤ Xx) (hx1 : Xx ≤ 14) : gsMv l yX6_keepFound cX6_keepFound 3 ({ frames := 1, cells := 0, slots := 0, locals := 21 } : Room) G cy sK sV (shX cy ad) cnX ad sz [.ref (ad 38 0), .int x] st (fun (u : gS) => gBN bX kX [3813, 3814, 4700] st u ∧ (True)) := by
  refine gs_start (fun A => gsQv G (shX cy ad) cnX ad _ A) (by decide) (Nat.le_of_ble_eq_true rfl) ?_
  intro p e s m below meth c A ls H hx hb hr hml hlocks hown hts hK hov hE hI hM hm hS hA hl
  have hl : lv_has ls 3 [(0, .ref (ad 38 0)), (1, .int x)] := hl
  have hB_st : gBN bX kX [3813, 3814, 4700] st st := gBN.rf hB
  generalize hQe : MQ below _ _ s _ _ A = Q
  refine lv_aload_n hx hb dX6_keepFound_0 rfl (lv_at hl 0 rfl) ?_
  refine lv_aload_n hx hb dX6_keepFound_1 rfl (lv_at hl 0 rfl) ?_
  refine gs_get (C := RX6) (T := TX6) (N := 15) hx hb hts inX6 hown hK hM 38 0 4 (by decide) rfl rfl (by decide) (hts _ gm_247) (fun _ h9 => h9) rfl dX6_keepFound_2 ?_
  have bf_1 : (0 : Int) ≤ (st 38 0 4).toInt ∧ (st 38 0 4).toInt ≤ (199 : Int) := hB_st.1 38 0 4
  refine gs_put (C := RX6) (T := TX6) (N := 15) (ty := .int) (val := .int (st 38 0 4)) hx hb hts inX6 tyX6 tyX6_ok nmX6 hown hK hI hm hM hS 38 0 13 (by decide) rfl rfl (by decide) (hts _ gm_258) (fun _ h9 => h9) rfl ((st 38 0 4) : Int32) rfl (by decide +kernel) rfl rfl (Nat.le_of_ble_eq_true rfl) dX6_keepFound_5 (fun st_2 H locs est_2 hM hS => ?_)
  have hB_st_2 : gBN bX kX [3813, 3814, 4700] st st_2 := by rw [est_2]; exact hB_st.up (show (3813 : Nat) ∈ _ from by decide) (show (0 : Int) ≤ (st 38 0 4).toInt from by omega) (show (st 38 0 4).toInt ≤ (199 : Int) from by omega)
  refine lv_aload_n hx hb dX6_keepFound_8 rfl (lv_at hl 0 rfl) ?_
  refine lv_iload_n hx hb dX6_keepFound_9 rfl (lv_at hl 1 rfl) ?_
  refine gs_put (C := RX6) (T := TX6) (N := 15) (ty := .int) (val := .int x) hx hb hts inX6 tyX6 tyX6_ok nmX6 hown hK hI hm hM hS 38 0 14 (by decide) rfl rfl (by decide) (hts _ gm_259) (fun _ h9 => h9) rfl (x : Int32) rfl (by decide +kernel) rfl rfl (Nat.le_of_ble_eq_true rfl) dX6_keepFound_10 (fun st_3 H locs est_3 hM hS => ?_)
  have hB_st_3 : gBN bX kX [3813, 3814, 4700] st st_3 := by rw [est_3]; exact hB_st_2.up (show (3814 : Nat) ∈ _ from by decide) (show (0 : Int) ≤ x.toInt from by omega) (show x.toInt ≤ (14 : Int) from by omega)
  refine lv_iconst (v := 0) hx hb dX6_keepFound_13 (by decide) ?_
  refine lv_istore_n (lv' := [(2, .int 0), (0, .ref (ad 38 0)), (1, .int x)]) hx hb dX6_keepFound_14 rfl hl (by decide) rfl (fun ls hl => ?_)
  have lp4 : ∀ (n4 : Nat) (sv4 : gS) (y4_0 : Int32) (H : Heap) (locs : List Loc) (ls : Array Slot), (56 - y4_0.toInt).toNat < n4 → gBN bX kX [3813, 3814, 4700] st sv4 → (0 ≤ y4_0.toInt) → gM G (shX cy ad) cnX ad sv4 H → va_S A s.heap H locs → lv_has ls 3 [(2, .int y4_0), (0, .ref (ad 38 0)), (1, .int x)] → W p l e ({ frames := 1, cells := 0, slots := 0, locals := 21 } : Room) s m [.ref (ad 38 0), .int x].toArray below meth c H locs 0 0 Q (F0 m 15 ls []) := by
    intro n4
    induction n4 with
    | zero => intro sv4 y4_0 H locs ls h9; exact absurd h9 (Nat.not_lt_zero _)
    | succ n4 ih_4 =>
      intro sv4 y4_0 H locs ls hme4 hB_sv4 hv4_0 hM hS hl
      refine lv_iload_n hx hb dX6_keepFound_15 rfl (lv_at hl 0 rfl) ?_
      refine lv_iload_n hx hb dX6_keepFound_16 rfl (lv_at hl 2 rfl) ?_
      refine lv_iconst (v := 4) hx hb dX6_keepFound_17 (by decide) ?_
      refine lv_imul hx hb dX6_keepFound_18 ?_
      refine lv_topi (fun x_5 ex_5 => ?_)
      try have tx_5 : x_5.toInt = x.toInt * 4 := by rw [ex_5]; exact gz_mulI (x := x.toInt) (y := 4) rfl (by decide) (by omega) (by omega)
      refine lv_icmp_ge (tgt := 63) hx hb dX6_keepFound_19 (by decide) (fun c_6 => ?_) (fun c_6 => ?_)
      · have ic_6 := gz_le (rfl : x_5.toInt = x_5.toInt) (rfl : y4_0.toInt = y4_0.toInt) c_6
        rw [← hQe]
        exact gs_vret hx hb hr hlocks hM hS ⟨hB_sv4, trivial⟩ (by exact Nat.le_refl _) (by exact Nat.le_refl _) dX6_keepFound_63
      · have ic_6 := gz_nle (rfl : x_5.toInt = x_5.toInt) (rfl : y4_0.toInt = y4_0.toInt) c_6
        have lc_6 := gi_hi x_5
        refine lv_iload_n hx hb dX6_keepFound_22 rfl (lv_at hl 0 rfl) ?_
        refine lv_bipush (v := 56) hx hb dX6_keepFound_23 (by decide) ?_
        refine lv_icmp_ge (tgt := 63) hx hb dX6_keepFound_25 (by decide) (fun c_7 => ?_) (fun c_7 => ?_)
        · have ic_7 := gz_le (by decide : (56 : Int32).toInt = 56) (rfl : y4_0.toInt = y4_0.toInt) c_7
          rw [← hQe]
          exact gs_vret hx hb hr hlocks hM hS ⟨hB_sv4, trivial⟩ (by exact Nat.le_refl _) (by exact Nat.le_refl _) dX6_keepFound_63
        · have ic_7 := gz_nle (by decide : (56 : Int32).toInt = 56) (rfl : y4_0.toInt = y4_0.toInt) c_7
          refine lv_aload_n hx hb dX6_keepFound_28 rfl (lv_at hl 1 rfl) ?_
          refine gs_get (C := RX6) (T := TX6) (N := 15) hx hb hts inX6 hown hK hM 38 0 12 (by decide) rfl rfl (by decide) (hts _ gm_257) (fun _ h9 => h9) rfl dX6_keepFound_29 ?_
          refine lv_iload_n hx hb dX6_keepFound_32 rfl (lv_at hl 0 rfl) ?_
          refine lv_aload_n hx hb dX6_keepFound_33 rfl (lv_at hl 1 rfl) ?_
          refine gs_get (C := RX6) (T := TX6) (N := 15) hx hb hts inX6 hown hK hM 38 0 2 (by decide) rfl rfl (by decide) (hts _ gm_245) (fun _ h9 => h9) rfl dX6_keepFound_34 ?_
          refine lv_iload_n hx hb dX6_keepFound_37 rfl (lv_at hl 0 rfl) ?_
          refine lv_iconst (v := 4) hx hb dX6_keepFound_38 (by decide) ?_
          refine lv_irem hx hb dX6_keepFound_39 (by decide) ?_
          refine lv_topi (fun x_8 ex_8 => ?_)
          try have tx_8 := gs_rem (y := 4) (by decide) (show 0 ≤ y4_0.toInt from by omega) (by omega) ex_8
          refine gs_calli (va_runV (As := [.int x_8]) (rest := [.int y4_0, .ref (ad 47 0)]) ⟨hx, hb, hml, hown, hts⟩ (s_X2_isThere l G cy sK sV ad H.size sv4 hB_sv4.1 x_8 x_8.toInt rfl (by first | decide | omega) (by first | decide | omega)) ⟨(gz_cb (n := 1) hts gm_868 gm_9 gm_707 ⟨by decide +kernel, by decide +kernel, by decide +kernel⟩ ⟨Nat.le_of_ble_eq_true rfl, Nat.le_of_ble_eq_true rfl⟩), hts _ gm_705, hts _ gm_706⟩ (gs_preV hK hov hE hI hM hm hS hA 19 0 (by decide) rfl rfl) rfl rfl hl.1 rfl (lv_room (Nat.le_of_ble_eq_true rfl)) dX6_keepFound_40 ⟨Nat.le_of_ble_eq_true rfl, Nat.le_of_ble_eq_true rfl⟩) hm hS hA (fun r_9 st_9 H locs hw_9 hM hS => ?_)
          obtain ⟨n_9, hw_9⟩ := hw_9
          have n_9 := gBN.nil n_9
          subst n_9
          rcases hw_9 with ⟨rfl, hw_9_0⟩ | ⟨rfl, hw_9_0⟩
          · skip
            refine lv_if_eq (tgt := 55) hx hb dX6_keepFound_43 (by decide) (fun h9 => absurd h9 (by decide)) (fun _ => ?_)
            refine lv_aload_n hx hb dX6_keepFound_46 rfl (lv_at hl 1 rfl) ?_
            refine gs_get (C := RX6) (T := TX6) (N := 15) hx hb hts inX6 hown hK hM 38 0 9 (by decide) rfl rfl (by decide) (hts _ gm_252) (fun _ h9 => h9) rfl dX6_keepFound_47 ?_
            refine lv_iload_n hx hb dX6_keepFound_50 rfl (lv_at hl 0 rfl) ?_
            refine gs_iald hx hb hK hM 46 0 (by decide) rfl (vp_in_iff.mpr ⟨by omega, by omega⟩) dX6_keepFound_51 ?_
            refine lv_topi (fun x_10 ex_10 => ?_)
            have qx_10 : x_10.toInt = (sv4 46 0 (y4_0.toNatClampNeg)).toInt := congrArg Int32.toInt ex_10
            have bx_10 : (-1 : Int) ≤ x_10.toInt ∧ x_10.toInt ≤ (9 : Int) := by rw [qx_10]; exact hB_sv4.1 46 0 (y4_0.toNatClampNeg)
            have rx_10 : x_10.toInt = ((st 46 0 (y4_0.toNatClampNeg)) : Int32).toInt := by rw [ex_10]; exact congrArg Int32.toInt ((hB_sv4.2 46 0 (y4_0.toNatClampNeg) (show (4600 : Nat) ∉ _ from by decide)))
            refine lv_goto (tgt := 56) hx hb dX6_keepFound_52 (by decide) ?_
            refine gs_iast hx hb hK hI hm hM hS 47 0 (by decide) (fun _ => rfl) (vp_in_iff.mpr ⟨by omega, by omega⟩) dX6_keepFound_56 (fun st_11 H locs est_11 hM hS => ?_)
            have hB_st_11 : gBN bX kX [3813, 3814, 4700] st st_11 := by rw [est_11]; exact hB_sv4.up (show (4700 : Nat) ∈ _ from by decide) (gi_lo _) (gi_hi _)
            obtain ⟨x_12, ex_12⟩ : ∃ y : Int32, y = y4_0 + 1 := ⟨_, rfl⟩
            try have tx_12 : x_12.toInt = y4_0.toInt + 1 := by rw [ex_12]; exact gz_addP (x := y4_0.toInt) (y := 1) rfl (by decide) (by omega) (by omega)
            refine lv_iinc (v := (x_12)) (lv' := [(2, .int x_12), (0, .ref (ad 38 0)), (1, .int x)]) hx hb dX6_keepFound_57 hl (k := 0) rfl (by rw [ex_12]; rfl) (by decide) rfl (fun ls hl => ?_)
            refine lv_goto (tgt := 15) hx hb dX6_keepFound_60 (by decide) ?_
            exact ih_4 st_11 (x_12 : Int32) H _ ls (by omega) hB_st_11 (by omega) hM hS (lv_sub hl [0, 1, 2] rfl)
          · skip
            refine lv_if_eq (tgt := 55) hx hb dX6_keepFound_43 (by decide) (fun _ => ?_) (fun h9 => absurd (by decide) h9)
            refine lv_iconst (v := (-1)) hx hb dX6_keepFound_55 (by decide) ?_
            refine gs_iast hx hb hK hI hm hM hS 47 0 (by decide) (fun _ => rfl) (vp_in_iff.mpr ⟨by omega, by omega⟩) dX6_keepFound_56 (fun st_13 H locs est_13 hM hS => ?_)
            have hB_st_13 : gBN bX kX [3813, 3814, 4700] st st_13 := by rw [est_13]; exact hB_sv4.up (show (4700 : Nat) ∈ _ from by decide) (gi_lo _) (gi_hi _)
            obtain ⟨x_14, ex_14⟩ : ∃ y : Int32, y = y4_0 + 1 := ⟨_, rfl⟩
            try have tx_14 : x_14.toInt = y4_0.toInt + 1 := by rw [ex_14]; exact gz_addP (x := y4_0.toInt) (y := 1) rfl (by decide) (by omega) (by omega)
            refine lv_iinc (v := (x_14)) (lv' := [(2, .int x_14), (0, .ref (ad 38 0)), (1, .int x)]) hx hb dX6_keepFound_57 hl (k := 0) rfl (by rw [ex_14]; rfl) (by decide) rfl (fun ls hl => ?_)
            refine lv_goto (tgt := 15) hx hb dX6_keepFound_60 (by decide) ?_
            exact ih_4 st_13 (x_14 : Int32) H _ ls (by omega) hB_st_13 (by omega) hM hS (lv_sub hl [0, 1, 2] rfl)
  exact lp4 ((56 - ((0 : Int32) : Int32).toInt).toNat + 1) st_3 ((0 : Int32) : Int32) H _ ls (Nat.lt_succ_self _) hB_st_3 (by have hl0 : (0 : Int32).toInt = 0 := (by decide); omega) hM hS (lv_sub hl [0, 1, 2] rfl)

set_option maxHeartbeats 4000000 in
set_option maxRecDepth 100000 in
/-- WellCourt$Planner.actOf -/
theorem s_X6_actOf (l : Launch) (G : va_G) (cy : Nat → ClassId) (sK sV : Nat → Nat) (ad : Nat → Nat → Nat) (sz : Nat) (st : gS) (hB : gBd bX st) (x : Int32) (y : Int32) (Xx : Int) (Xy : Int) (kx : x.toInt = Xx) (ky : y.toInt = Xy) : gsMi l yX6_actOf cX6_actOf 3 (some .int) ({ frames := 1, cells := 0, slots := 0, locals := 20 } : Room) G cy sK sV (shX cy ad) cnX ad sz [.ref (ad 38 0), .int x, .int y] st (fun (r : Int32) (u : gS) => gBN bX kX [] st u ∧ (True)) := by
  refine gs_start (fun A => gsQi G (shX cy ad) cnX ad _ A) (by decide) (Nat.le_of_ble_eq_true rfl) ?_
  intro p e s m below meth c A ls H hx hb hr hml hlocks hown hts hK hov hE hI hM hm hS hA hl
  have hl : lv_has ls 3 [(0, .ref (ad 38 0)), (1, .int x), (2, .int y)] := hl
  have hB_st : gBN bX kX [] st st := gBN.rf hB
  refine lv_iload_n hx hb dX6_actOf_0 rfl (lv_at hl 1 rfl) ?_
  refine gs_calli (va_runSN (As := [.int x]) (rest := []) ⟨hx, hb, hml, hown, hts⟩ (s_isHerd l G cy sK sV ad H.size st hB_st.1 x x.toInt rfl ) ⟨(va_cnB 1 hts (gz_good gm_695) rfl rfl rfl (hov.2.2 _ gn_720) (hts _ gm_1) ⟨by decide +kernel, by decide +kernel, by decide +kernel⟩ ⟨Nat.le_of_ble_eq_true rfl, Nat.le_of_ble_eq_true rfl⟩), hts _ gm_694, trivial⟩ (gs_preS hK hov hE hI hM hm hS hA) rfl rfl hl.1 rfl (lv_room (Nat.le_of_ble_eq_true rfl)) dX6_actOf_1 ⟨Nat.le_of_ble_eq_true rfl, Nat.le_of_ble_eq_true rfl⟩) hm hS hA (fun r_1 st_1 H locs hw_1 hM hS => ?_)
  obtain ⟨n_1, hw_1⟩ := hw_1
  have n_1 := gBN.nil n_1
  subst n_1
  rcases hw_1 with ⟨rfl, hw_1_0, hw_1_1⟩ | ⟨rfl, hw_1_0⟩
  · skip
    refine lv_if_eq (tgt := 28) hx hb dX6_actOf_4 (by decide) (fun h9 => absurd h9 (by decide)) (fun _ => ?_)
    refine lv_iload_n hx hb dX6_actOf_7 rfl (lv_at hl 2 rfl) ?_
    refine lv_aload_n hx hb dX6_actOf_8 rfl (lv_at hl 0 rfl) ?_
    refine gs_get (C := RX6) (T := TX6) (N := 15) hx hb hts inX6 hown hK hM 38 0 13 (by decide) rfl rfl (by decide) (hts _ gm_258) (fun _ h9 => h9) rfl dX6_actOf_9 ?_
    have bf_2 : (0 : Int) ≤ (st 38 0 13).toInt ∧ (st 38 0 13).toInt ≤ (199 : Int) := hB_st.1 38 0 13
    refine lv_icmp_le (tgt := 28) hx hb dX6_actOf_12 (by decide) (fun c_3 => ?_) (fun c_3 => ?_)
    · have ic_3 := gz_le (rfl : y.toInt = y.toInt) (rfl : (st 38 0 13).toInt = (st 38 0 13).toInt) c_3
      refine lv_iconst (v := (-1)) hx hb dX6_actOf_28 (by decide) ?_
      exact gs_iret hx hb hr hlocks hM hS rfl ⟨hB_st, trivial⟩ (by exact Nat.le_refl _) (by exact Nat.le_refl _) dX6_actOf_29
    · have ic_3 := gz_nle (rfl : y.toInt = y.toInt) (rfl : (st 38 0 13).toInt = (st 38 0 13).toInt) c_3
      have lc_3 := gi_hi y
      refine lv_iload_n hx hb dX6_actOf_15 rfl (lv_at hl 2 rfl) ?_
      refine lv_aload_n hx hb dX6_actOf_16 rfl (lv_at hl 0 rfl) ?_
      refine gs_get (C := RX6) (T := TX6) (N := 15) hx hb hts inX6 hown hK hM 38 0 13 (by decide) rfl rfl (by decide) (hts _ gm_258) (fun _ h9 => h9) rfl dX6_actOf_17 ?_
      have bf_4 : (0 : Int) ≤ (st 38 0 13).toInt ∧ (st 38 0 13).toInt ≤ (199 : Int) := hB_st.1 38 0 13
      refine lv_aload_n hx hb dX6_actOf_20 rfl (lv_at hl 0 rfl) ?_
      refine gs_get (C := RX6) (T := TX6) (N := 15) hx hb hts inX6 hown hK hM 38 0 14 (by decide) rfl rfl (by decide) (hts _ gm_259) (fun _ h9 => h9) rfl dX6_actOf_21 ?_
      have bf_5 : (0 : Int) ≤ (st 38 0 14).toInt ∧ (st 38 0 14).toInt ≤ (14 : Int) := hB_st.1 38 0 14
      refine lv_iadd hx hb dX6_actOf_24 ?_
      refine lv_topi (fun x_6 ex_6 => ?_)
      try have tx_6 : x_6.toInt = (st 38 0 13).toInt + (st 38 0 14).toInt := by rw [ex_6]; exact gz_addI (x := (st 38 0 13).toInt) (y := (st 38 0 14).toInt) rfl rfl (by omega) (by omega)
      refine lv_icmp_le (tgt := 30) hx hb dX6_actOf_25 (by decide) (fun c_7 => ?_) (fun c_7 => ?_)
      · have ic_7 := gz_le (rfl : y.toInt = y.toInt) (rfl : x_6.toInt = x_6.toInt) c_7
        refine lv_aload_n hx hb dX6_actOf_30 rfl (lv_at hl 0 rfl) ?_
        refine gs_get (C := RX6) (T := TX6) (N := 15) hx hb hts inX6 hown hK hM 38 0 12 (by decide) rfl rfl (by decide) (hts _ gm_257) (fun _ h9 => h9) rfl dX6_actOf_31 ?_
        refine lv_iload_n hx hb dX6_actOf_34 rfl (lv_at hl 2 rfl) ?_
        refine lv_aload_n hx hb dX6_actOf_35 rfl (lv_at hl 0 rfl) ?_
        refine gs_get (C := RX6) (T := TX6) (N := 15) hx hb hts inX6 hown hK hM 38 0 13 (by decide) rfl rfl (by decide) (hts _ gm_258) (fun _ h9 => h9) rfl dX6_actOf_36 ?_
        have bf_8 : (0 : Int) ≤ (st 38 0 13).toInt ∧ (st 38 0 13).toInt ≤ (199 : Int) := hB_st.1 38 0 13
        refine lv_isub hx hb dX6_actOf_39 ?_
        refine lv_topi (fun x_9 ex_9 => ?_)
        try have tx_9 : x_9.toInt = y.toInt - (st 38 0 13).toInt := by rw [ex_9]; exact gz_subI (x := y.toInt) (y := (st 38 0 13).toInt) rfl rfl (by omega) (by omega)
        refine lv_iconst (v := 1) hx hb dX6_actOf_40 (by decide) ?_
        refine lv_isub hx hb dX6_actOf_41 ?_
        refine lv_topi (fun x_10 ex_10 => ?_)
        try have tx_10 : x_10.toInt = x_9.toInt - 1 := by rw [ex_10]; exact gz_subP (x := x_9.toInt) (y := 1) rfl (by decide) (by omega) (by omega)
        refine lv_iconst (v := 4) hx hb dX6_actOf_42 (by decide) ?_
        refine lv_imul hx hb dX6_actOf_43 ?_
        refine lv_topi (fun x_11 ex_11 => ?_)
        try have tx_11 : x_11.toInt = x_10.toInt * 4 := by rw [ex_11]; exact gz_mulI (x := x_10.toInt) (y := 4) rfl (by decide) (by omega) (by omega)
        refine lv_iload_n hx hb dX6_actOf_44 rfl (lv_at hl 1 rfl) ?_
        refine lv_iadd hx hb dX6_actOf_45 ?_
        refine lv_topi (fun x_12 ex_12 => ?_)
        try have tx_12 : x_12.toInt = x_11.toInt + x.toInt := by rw [ex_12]; exact gz_addI (x := x_11.toInt) (y := x.toInt) rfl rfl (by omega) (by omega)
        refine gs_iald hx hb hK hM 47 0 (by decide) rfl (vp_in_iff.mpr ⟨by omega, by omega⟩) dX6_actOf_46 ?_
        refine lv_topi (fun x_13 ex_13 => ?_)
        have qx_13 : x_13.toInt = (st 47 0 (x_12.toNatClampNeg)).toInt := congrArg Int32.toInt ex_13
        exact gs_iret hx hb hr hlocks hM hS rfl ⟨hB_st, trivial⟩ (by exact Nat.le_refl _) (by exact Nat.le_refl _) dX6_actOf_47
      · have ic_7 := gz_nle (rfl : y.toInt = y.toInt) (rfl : x_6.toInt = x_6.toInt) c_7
        have lc_7 := gi_hi y
        refine lv_iconst (v := (-1)) hx hb dX6_actOf_28 (by decide) ?_
        exact gs_iret hx hb hr hlocks hM hS rfl ⟨hB_st, trivial⟩ (by exact Nat.le_refl _) (by exact Nat.le_refl _) dX6_actOf_29
  · skip
    refine lv_if_eq (tgt := 28) hx hb dX6_actOf_4 (by decide) (fun _ => ?_) (fun h9 => absurd (by decide) h9)
    refine lv_iconst (v := (-1)) hx hb dX6_actOf_28 (by decide) ?_
    exact gs_iret hx hb hr hlocks hM hS rfl ⟨hB_st, trivial⟩ (by exact Nat.le_refl _) (by exact Nat.le_refl _) dX6_actOf_29
