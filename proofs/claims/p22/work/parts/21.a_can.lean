theorem gm_243 : (Jvm.Cond.fieldLink "WellCourt$Planner" (51 : Nat) "WellCourt$Planner" "land" "LWellCourt$Land;") ∈ gz_T := gz_at 243 (by decide +kernel) rfl
theorem gm_244 : (Jvm.Cond.fieldLink "WellCourt$Planner" (55 : Nat) "WellCourt$Planner" "calendar" "LWellCourt$Calendar;") ∈ gz_T := gz_at 244 (by decide +kernel) rfl
theorem gm_245 : (Jvm.Cond.fieldLink "WellCourt$Planner" (59 : Nat) "WellCourt$Planner" "flock" "LWellCourt$Flock;") ∈ gz_T := gz_at 245 (by decide +kernel) rfl
theorem gm_246 : (Jvm.Cond.fieldLink "WellCourt$Planner" (63 : Nat) "WellCourt$Planner" "law" "LWellCourt$Law;") ∈ gz_T := gz_at 246 (by decide +kernel) rfl
theorem gm_247 : (Jvm.Cond.fieldLink "WellCourt$Planner" (11 : Nat) "WellCourt$Planner" "date" "I") ∈ gz_T := gz_at 247 (by decide +kernel) rfl
theorem gm_248 : (Jvm.Cond.fieldLink "WellCourt$Planner" (17 : Nat) "WellCourt$Planner" "days" "[LWellCourt$Day;") ∈ gz_T := gz_at 248 (by decide +kernel) rfl
theorem gm_249 : (Jvm.Cond.fieldLink "WellCourt$Planner" (23 : Nat) "WellCourt$Planner" "place" "[[I") ∈ gz_T := gz_at 249 (by decide +kernel) rfl
theorem gm_250 : (Jvm.Cond.fieldLink "WellCourt$Planner" (26 : Nat) "WellCourt$Planner" "arrives" "[[I") ∈ gz_T := gz_at 250 (by decide +kernel) rfl
theorem gm_251 : (Jvm.Cond.fieldLink "WellCourt$Planner" (29 : Nat) "WellCourt$Planner" "drank" "[[I") ∈ gz_T := gz_at 251 (by decide +kernel) rfl
theorem gm_253 : (Jvm.Cond.fieldLink "WellCourt$Planner" (36 : Nat) "WellCourt$Planner" "looks" "I") ∈ gz_T := gz_at 253 (by decide +kernel) rfl
theorem gm_255 : (Jvm.Cond.fieldLink "WellCourt$Planner" (39 : Nat) "WellCourt$Planner" "reach" "I") ∈ gz_T := gz_at 255 (by decide +kernel) rfl
theorem gm_843 : (Jvm.Cond.methodLink "WellCourt$Planner" (68 : Nat) ({ cls := "WellCourt$Day", name := "copyLevels", desc := "(LWellCourt$Day;)V" } : Jvm.MethodName)) ∈ gz_T := gz_at 843 (by decide +kernel) rfl
theorem gm_844 : (Jvm.Cond.instanceMethod ({ cls := "WellCourt$Day", name := "copyLevels", desc := "(LWellCourt$Day;)V" } : Jvm.MethodName)) ∈ gz_T := gz_at 844 (by decide +kernel) rfl
theorem gm_845 : (Jvm.Cond.selects "WellCourt$Day" ({ cls := "WellCourt$Day", name := "copyLevels", desc := "(LWellCourt$Day;)V" } : Jvm.MethodName) ({ cls := "WellCourt$Day", name := "copyLevels", desc := "(LWellCourt$Day;)V" } : Jvm.MethodName)) ∈ gz_T := gz_at 845 (by decide +kernel) rfl
theorem gm_846 : (Jvm.Cond.code ({ cls := "WellCourt$Day", name := "copyLevels", desc := "(LWellCourt$Day;)V" } : Jvm.MethodName) prog_3_method_2_code (2 : Nat) (Option.none : Option Jvm.ClassFile.FieldType)) ∈ gz_T := gz_at 846 (by decide +kernel) rfl
theorem gm_858 : (Jvm.Cond.methodLink "WellCourt$Planner" (113 : Nat) ({ cls := "WellCourt$Day", name := "grow", desc := "(LWellCourt$Day;LWellCourt$Land;)V" } : Jvm.MethodName)) ∈ gz_T := gz_at 858 (by decide +kernel) rfl
theorem gm_859 : (Jvm.Cond.methodLink "WellCourt$Planner" (117 : Nat) ({ cls := "WellCourt$Day", name := "settle", desc := "(LWellCourt$Law;LWellCourt$Calendar;I)V" } : Jvm.MethodName)) ∈ gz_T := gz_at 859 (by decide +kernel) rfl
theorem gm_873 : (Jvm.Cond.methodLink "WellCourt$Planner" (137 : Nat) ({ cls := "WellCourt$Day", name := "isRight", desc := "(LWellCourt$Law;II)Z" } : Jvm.MethodName)) ∈ gz_T := gz_at 873 (by decide +kernel) rfl
theorem gn_89 : (Jvm.Cond.fieldLinkNest "WellCourt$Planner" (141 : Nat) "WellCourt$Land" "wayDays" "[[I" "WellCourt") ∈ gzN := gz_nest 89 (by decide +kernel) rfl
theorem gn_122 : (Jvm.Cond.fieldLinkNest "WellCourt$Planner" (128 : Nat) "WellCourt$Day" "level" "[I" "WellCourt") ∈ gzN := gz_nest 122 (by decide +kernel) rfl
theorem gn_158 : (Jvm.Cond.fieldLinkNest "WellCourt$Planner" (134 : Nat) "WellCourt$Flock" "clan" "[I" "WellCourt") ∈ gzN := gz_nest 158 (by decide +kernel) rfl
theorem gn_161 : (Jvm.Cond.fieldLinkNest "WellCourt$Planner" (131 : Nat) "WellCourt$Flock" "need" "[I" "WellCourt") ∈ gzN := gz_nest 161 (by decide +kernel) rfl
theorem gn_165 : (Jvm.Cond.fieldLinkNest "WellCourt$Planner" (72 : Nat) "WellCourt$Flock" "place" "[I" "WellCourt") ∈ gzN := gz_nest 165 (by decide +kernel) rfl
theorem gn_168 : (Jvm.Cond.fieldLinkNest "WellCourt$Planner" (76 : Nat) "WellCourt$Flock" "drank" "[I" "WellCourt") ∈ gzN := gz_nest 168 (by decide +kernel) rfl
theorem inX6 : ∀ w ∈ u_ws RX6 TX6 15, w ∈ gz_T := gz_inX [260, 262, 264, 266, 268, 270, 272, 274, 276, 278, 280, 282, 284, 286, 288] (by decide +kernel) (by decide +kernel)
theorem dX6_canDo_0 : decode cX6_canDo 0 = .ok (.aload_n 0, 1) := by decide +kernel
theorem dX6_canDo_1 : decode cX6_canDo 1 = .ok (.getfield 23, 3) := by decide +kernel
theorem dX6_canDo_4 : decode cX6_canDo 4 = .ok (.iload_n 1, 1) := by decide +kernel
theorem dX6_canDo_5 : decode cX6_canDo 5 = .ok (.iconst 1, 1) := by decide +kernel
theorem dX6_canDo_6 : decode cX6_canDo 6 = .ok (.isub, 1) := by decide +kernel
theorem dX6_canDo_7 : decode cX6_canDo 7 = .ok (.aaload, 1) := by decide +kernel
theorem dX6_canDo_8 : decode cX6_canDo 8 = .ok (.iload_n 2, 1) := by decide +kernel
theorem dX6_canDo_9 : decode cX6_canDo 9 = .ok (.iaload, 1) := by decide +kernel
theorem dX6_canDo_10 : decode cX6_canDo 10 = .ok (.istore 4, 2) := by decide +kernel
theorem dX6_canDo_12 : decode cX6_canDo 12 = .ok (.iload_n 3, 1) := by decide +kernel
theorem dX6_canDo_13 : decode cX6_canDo 13 = .ok (.ifCond .ne 60, 3) := by decide +kernel
theorem dX6_canDo_16 : decode cX6_canDo 16 = .ok (.aload_n 0, 1) := by decide +kernel
theorem dX6_canDo_17 : decode cX6_canDo 17 = .ok (.getfield 17, 3) := by decide +kernel
theorem dX6_canDo_20 : decode cX6_canDo 20 = .ok (.iload_n 1, 1) := by decide +kernel
theorem dX6_canDo_21 : decode cX6_canDo 21 = .ok (.aaload, 1) := by decide +kernel
theorem dX6_canDo_22 : decode cX6_canDo 22 = .ok (.getfield 128, 3) := by decide +kernel
theorem dX6_canDo_25 : decode cX6_canDo 25 = .ok (.iload 4, 2) := by decide +kernel
theorem dX6_canDo_27 : decode cX6_canDo 27 = .ok (.iaload, 1) := by decide +kernel
theorem dX6_canDo_28 : decode cX6_canDo 28 = .ok (.aload_n 0, 1) := by decide +kernel
theorem dX6_canDo_29 : decode cX6_canDo 29 = .ok (.getfield 59, 3) := by decide +kernel
theorem dX6_canDo_32 : decode cX6_canDo 32 = .ok (.getfield 131, 3) := by decide +kernel
theorem dX6_canDo_35 : decode cX6_canDo 35 = .ok (.iload_n 2, 1) := by decide +kernel
theorem dX6_canDo_36 : decode cX6_canDo 36 = .ok (.iaload, 1) := by decide +kernel
theorem dX6_canDo_37 : decode cX6_canDo 37 = .ok (.if_icmp .lt 34, 3) := by decide +kernel
theorem dX6_canDo_40 : decode cX6_canDo 40 = .ok (.aload_n 0, 1) := by decide +kernel
theorem dX6_canDo_41 : decode cX6_canDo 41 = .ok (.getfield 17, 3) := by decide +kernel
theorem dX6_canDo_44 : decode cX6_canDo 44 = .ok (.iload_n 1, 1) := by decide +kernel
theorem dX6_canDo_45 : decode cX6_canDo 45 = .ok (.aaload, 1) := by decide +kernel
theorem dX6_canDo_46 : decode cX6_canDo 46 = .ok (.aload_n 0, 1) := by decide +kernel
theorem dX6_canDo_47 : decode cX6_canDo 47 = .ok (.getfield 63, 3) := by decide +kernel
theorem dX6_canDo_50 : decode cX6_canDo 50 = .ok (.iload 4, 2) := by decide +kernel
theorem dX6_canDo_52 : decode cX6_canDo 52 = .ok (.aload_n 0, 1) := by decide +kernel
theorem dX6_canDo_53 : decode cX6_canDo 53 = .ok (.getfield 59, 3) := by decide +kernel
theorem dX6_canDo_56 : decode cX6_canDo 56 = .ok (.getfield 134, 3) := by decide +kernel
theorem dX6_canDo_59 : decode cX6_canDo 59 = .ok (.iload_n 2, 1) := by decide +kernel
theorem dX6_canDo_60 : decode cX6_canDo 60 = .ok (.iaload, 1) := by decide +kernel
theorem dX6_canDo_61 : decode cX6_canDo 61 = .ok (.invokevirtual 137, 3) := by decide +kernel
theorem dX6_canDo_64 : decode cX6_canDo 64 = .ok (.ifCond .eq 7, 3) := by decide +kernel
theorem dX6_canDo_67 : decode cX6_canDo 67 = .ok (.iconst 1, 1) := by decide +kernel
theorem dX6_canDo_68 : decode cX6_canDo 68 = .ok (.goto 4, 3) := by decide +kernel
theorem dX6_canDo_71 : decode cX6_canDo 71 = .ok (.iconst 0, 1) := by decide +kernel
theorem dX6_canDo_72 : decode cX6_canDo 72 = .ok (.ireturn, 1) := by decide +kernel
theorem dX6_canDo_73 : decode cX6_canDo 73 = .ok (.iload_n 3, 1) := by decide +kernel
theorem dX6_canDo_74 : decode cX6_canDo 74 = .ok (.iconst 1, 1) := by decide +kernel
theorem dX6_canDo_75 : decode cX6_canDo 75 = .ok (.if_icmp .eq 20, 3) := by decide +kernel
theorem dX6_canDo_78 : decode cX6_canDo 78 = .ok (.aload_n 0, 1) := by decide +kernel
theorem dX6_canDo_79 : decode cX6_canDo 79 = .ok (.getfield 51, 3) := by decide +kernel
theorem dX6_canDo_82 : decode cX6_canDo 82 = .ok (.getfield 141, 3) := by decide +kernel
theorem dX6_canDo_85 : decode cX6_canDo 85 = .ok (.iload 4, 2) := by decide +kernel
theorem dX6_canDo_87 : decode cX6_canDo 87 = .ok (.aaload, 1) := by decide +kernel
theorem dX6_canDo_88 : decode cX6_canDo 88 = .ok (.iload_n 3, 1) := by decide +kernel
theorem dX6_canDo_89 : decode cX6_canDo 89 = .ok (.iconst 2, 1) := by decide +kernel
theorem dX6_canDo_90 : decode cX6_canDo 90 = .ok (.isub, 1) := by decide +kernel
theorem dX6_canDo_91 : decode cX6_canDo 91 = .ok (.iaload, 1) := by decide +kernel
theorem dX6_canDo_92 : decode cX6_canDo 92 = .ok (.ifCond .le 7, 3) := by decide +kernel
theorem dX6_canDo_95 : decode cX6_canDo 95 = .ok (.iconst 1, 1) := by decide +kernel
theorem dX6_canDo_96 : decode cX6_canDo 96 = .ok (.goto 4, 3) := by decide +kernel
theorem dX6_canDo_99 : decode cX6_canDo 99 = .ok (.iconst 0, 1) := by decide +kernel
theorem dX6_canDo_100 : decode cX6_canDo 100 = .ok (.ireturn, 1) := by decide +kernel
theorem dX6_openDay_0 : decode cX6_openDay 0 = .ok (.iload_n 1, 1) := by decide +kernel
theorem dX6_openDay_1 : decode cX6_openDay 1 = .ok (.iconst 1, 1) := by decide +kernel
theorem dX6_openDay_2 : decode cX6_openDay 2 = .ok (.if_icmp .lt 9, 3) := by decide +kernel
theorem dX6_openDay_5 : decode cX6_openDay 5 = .ok (.iload_n 1, 1) := by decide +kernel
theorem dX6_openDay_6 : decode cX6_openDay 6 = .ok (.bipush 14, 2) := by decide +kernel
theorem dX6_openDay_8 : decode cX6_openDay 8 = .ok (.if_icmp .le 4, 3) := by decide +kernel
theorem dX6_openDay_11 : decode cX6_openDay 11 = .ok (.return_, 1) := by decide +kernel
theorem dX6_openDay_12 : decode cX6_openDay 12 = .ok (.aload_n 0, 1) := by decide +kernel
theorem dX6_openDay_13 : decode cX6_openDay 13 = .ok (.getfield 17, 3) := by decide +kernel
theorem dX6_openDay_16 : decode cX6_openDay 16 = .ok (.iload_n 1, 1) := by decide +kernel
theorem dX6_openDay_17 : decode cX6_openDay 17 = .ok (.aaload, 1) := by decide +kernel
theorem dX6_openDay_18 : decode cX6_openDay 18 = .ok (.aload_n 0, 1) := by decide +kernel
theorem dX6_openDay_19 : decode cX6_openDay 19 = .ok (.getfield 17, 3) := by decide +kernel
theorem dX6_openDay_22 : decode cX6_openDay 22 = .ok (.iload_n 1, 1) := by decide +kernel
theorem dX6_openDay_23 : decode cX6_openDay 23 = .ok (.iconst 1, 1) := by decide +kernel
theorem dX6_openDay_24 : decode cX6_openDay 24 = .ok (.isub, 1) := by decide +kernel
theorem dX6_openDay_25 : decode cX6_openDay 25 = .ok (.aaload, 1) := by decide +kernel
theorem dX6_openDay_26 : decode cX6_openDay 26 = .ok (.aload_n 0, 1) := by decide +kernel
theorem dX6_openDay_27 : decode cX6_openDay 27 = .ok (.getfield 51, 3) := by decide +kernel
theorem dX6_openDay_30 : decode cX6_openDay 30 = .ok (.invokevirtual 113, 3) := by decide +kernel
theorem dX6_openDay_33 : decode cX6_openDay 33 = .ok (.aload_n 0, 1) := by decide +kernel
theorem dX6_openDay_34 : decode cX6_openDay 34 = .ok (.getfield 17, 3) := by decide +kernel
theorem dX6_openDay_37 : decode cX6_openDay 37 = .ok (.iload_n 1, 1) := by decide +kernel
theorem dX6_openDay_38 : decode cX6_openDay 38 = .ok (.aaload, 1) := by decide +kernel
theorem dX6_openDay_39 : decode cX6_openDay 39 = .ok (.aload_n 0, 1) := by decide +kernel
theorem dX6_openDay_40 : decode cX6_openDay 40 = .ok (.getfield 63, 3) := by decide +kernel
theorem dX6_openDay_43 : decode cX6_openDay 43 = .ok (.aload_n 0, 1) := by decide +kernel
theorem dX6_openDay_44 : decode cX6_openDay 44 = .ok (.getfield 55, 3) := by decide +kernel
theorem dX6_openDay_47 : decode cX6_openDay 47 = .ok (.aload_n 0, 1) := by decide +kernel
theorem dX6_openDay_48 : decode cX6_openDay 48 = .ok (.getfield 11, 3) := by decide +kernel
theorem dX6_openDay_51 : decode cX6_openDay 51 = .ok (.iload_n 1, 1) := by decide +kernel
theorem dX6_openDay_52 : decode cX6_openDay 52 = .ok (.iadd, 1) := by decide +kernel
theorem dX6_openDay_53 : decode cX6_openDay 53 = .ok (.invokevirtual 117, 3) := by decide +kernel
theorem dX6_openDay_56 : decode cX6_openDay 56 = .ok (.return_, 1) := by decide +kernel
theorem dX6_rowOf_0 : decode cX6_rowOf 0 = .ok (.iload_n 0, 1) := by decide +kernel
theorem dX6_rowOf_1 : decode cX6_rowOf 1 = .ok (.iconst 4, 1) := by decide +kernel
theorem dX6_rowOf_2 : decode cX6_rowOf 2 = .ok (.idiv, 1) := by decide +kernel
theorem dX6_rowOf_3 : decode cX6_rowOf 3 = .ok (.iconst 1, 1) := by decide +kernel
theorem dX6_rowOf_4 : decode cX6_rowOf 4 = .ok (.iadd, 1) := by decide +kernel
theorem dX6_rowOf_5 : decode cX6_rowOf 5 = .ok (.ireturn, 1) := by decide +kernel
theorem dX6_start_0 : decode cX6_start 0 = .ok (.aload_n 0, 1) := by decide +kernel
theorem dX6_start_1 : decode cX6_start 1 = .ok (.aload_n 1, 1) := by decide +kernel
theorem dX6_start_2 : decode cX6_start 2 = .ok (.putfield 63, 3) := by decide +kernel
theorem dX6_start_5 : decode cX6_start 5 = .ok (.aload_n 0, 1) := by decide +kernel
theorem dX6_start_6 : decode cX6_start 6 = .ok (.iload_n 3, 1) := by decide +kernel
theorem dX6_start_7 : decode cX6_start 7 = .ok (.putfield 11, 3) := by decide +kernel
theorem dX6_start_10 : decode cX6_start 10 = .ok (.aload_n 0, 1) := by decide +kernel
theorem dX6_start_11 : decode cX6_start 11 = .ok (.iconst 0, 1) := by decide +kernel
theorem dX6_start_12 : decode cX6_start 12 = .ok (.putfield 36, 3) := by decide +kernel
theorem dX6_start_15 : decode cX6_start 15 = .ok (.aload_n 0, 1) := by decide +kernel
theorem dX6_start_16 : decode cX6_start 16 = .ok (.iconst 0, 1) := by decide +kernel
theorem dX6_start_17 : decode cX6_start 17 = .ok (.putfield 39, 3) := by decide +kernel
theorem dX6_start_20 : decode cX6_start 20 = .ok (.aload_n 0, 1) := by decide +kernel
theorem dX6_start_21 : decode cX6_start 21 = .ok (.getfield 17, 3) := by decide +kernel
theorem dX6_start_24 : decode cX6_start 24 = .ok (.iconst 0, 1) := by decide +kernel
theorem dX6_start_25 : decode cX6_start 25 = .ok (.aaload, 1) := by decide +kernel
theorem dX6_start_26 : decode cX6_start 26 = .ok (.aload_n 2, 1) := by decide +kernel
theorem dX6_start_27 : decode cX6_start 27 = .ok (.invokevirtual 68, 3) := by decide +kernel
theorem dX6_start_30 : decode cX6_start 30 = .ok (.iconst 0, 1) := by decide +kernel
theorem dX6_start_31 : decode cX6_start 31 = .ok (.istore 4, 2) := by decide +kernel
theorem dX6_start_33 : decode cX6_start 33 = .ok (.iload 4, 2) := by decide +kernel
theorem dX6_start_35 : decode cX6_start 35 = .ok (.iconst 4, 1) := by decide +kernel
theorem dX6_start_36 : decode cX6_start 36 = .ok (.if_icmp .ge 57, 3) := by decide +kernel
theorem dX6_start_39 : decode cX6_start 39 = .ok (.aload_n 0, 1) := by decide +kernel
theorem dX6_start_40 : decode cX6_start 40 = .ok (.getfield 23, 3) := by decide +kernel
theorem dX6_start_43 : decode cX6_start 43 = .ok (.iconst 0, 1) := by decide +kernel
theorem dX6_start_44 : decode cX6_start 44 = .ok (.aaload, 1) := by decide +kernel
theorem dX6_start_45 : decode cX6_start 45 = .ok (.iload 4, 2) := by decide +kernel
theorem dX6_start_47 : decode cX6_start 47 = .ok (.aload_n 0, 1) := by decide +kernel
theorem dX6_start_48 : decode cX6_start 48 = .ok (.getfield 59, 3) := by decide +kernel
theorem dX6_start_51 : decode cX6_start 51 = .ok (.getfield 72, 3) := by decide +kernel
theorem dX6_start_54 : decode cX6_start 54 = .ok (.iload 4, 2) := by decide +kernel
theorem dX6_start_56 : decode cX6_start 56 = .ok (.iaload, 1) := by decide +kernel
theorem dX6_start_57 : decode cX6_start 57 = .ok (.iastore, 1) := by decide +kernel
theorem dX6_start_58 : decode cX6_start 58 = .ok (.aload_n 0, 1) := by decide +kernel
theorem dX6_start_59 : decode cX6_start 59 = .ok (.getfield 26, 3) := by decide +kernel
theorem dX6_start_62 : decode cX6_start 62 = .ok (.iconst 0, 1) := by decide +kernel
theorem dX6_start_63 : decode cX6_start 63 = .ok (.aaload, 1) := by decide +kernel
theorem dX6_start_64 : decode cX6_start 64 = .ok (.iload 4, 2) := by decide +kernel
theorem dX6_start_66 : decode cX6_start 66 = .ok (.iconst 0, 1) := by decide +kernel
theorem dX6_start_67 : decode cX6_start 67 = .ok (.iastore, 1) := by decide +kernel
theorem dX6_start_68 : decode cX6_start 68 = .ok (.aload_n 0, 1) := by decide +kernel
theorem dX6_start_69 : decode cX6_start 69 = .ok (.getfield 29, 3) := by decide +kernel
theorem dX6_start_72 : decode cX6_start 72 = .ok (.iconst 0, 1) := by decide +kernel
theorem dX6_start_73 : decode cX6_start 73 = .ok (.aaload, 1) := by decide +kernel
theorem dX6_start_74 : decode cX6_start 74 = .ok (.iload 4, 2) := by decide +kernel
theorem dX6_start_76 : decode cX6_start 76 = .ok (.aload_n 0, 1) := by decide +kernel
theorem dX6_start_77 : decode cX6_start 77 = .ok (.getfield 59, 3) := by decide +kernel
theorem dX6_start_80 : decode cX6_start 80 = .ok (.getfield 76, 3) := by decide +kernel
theorem dX6_start_83 : decode cX6_start 83 = .ok (.iload 4, 2) := by decide +kernel
theorem dX6_start_85 : decode cX6_start 85 = .ok (.iaload, 1) := by decide +kernel
theorem dX6_start_86 : decode cX6_start 86 = .ok (.iastore, 1) := by decide +kernel
theorem dX6_start_87 : decode cX6_start 87 = .ok (.iinc 4 1, 3) := by decide +kernel
theorem dX6_start_90 : decode cX6_start 90 = .ok (.goto (-57), 3) := by decide +kernel
theorem dX6_start_93 : decode cX6_start 93 = .ok (.return_, 1) := by decide +kernel
set_option maxHeartbeats 4000000 in
set_option maxRecDepth 100000 in
/-- WellCourt$Planner.start -/
theorem s_X6_start (l : Launch) (G : va_G) (cy : Nat → ClassId) (sK sV : Nat → Nat) (ad : Nat → Nat → Nat) (sz : Nat) (st : gS) (hB : gBd bX st) (z : Int32) (x : Int32) (Xx : Int) (kx : x.toInt = Xx) (hz_z : (0 : Int) ≤ z.toInt ∧ z.toInt ≤ (1 : Int)) (hx0 : 0 ≤ Xx) (hx1 : Xx ≤ 199) : gsMv l yX6_start cX6_start 5 ({ frames := 2, cells := 0, slots := 0, locals := 71 } : Room) G cy sK sV (shX cy ad) cnX ad sz [.ref (ad 38 0), .ref (ad 25 z.toNatClampNeg), .ref (ad 12 15), .int x] st (fun (u : gS) => gBN bX kX [1300, 3803, 3804, 3810, 3811, 4100, 4300, 4500] st u ∧ ((tdX st u) ∧ (u 38 0 4 = x) ∧ (u 38 0 3 = z) ∧ (stX st u 4) ∧ (∀ w : Nat, w < 6 → u 13 0 w = st 13 15 w) ∧ (u 38 0 10 = 0) ∧ (u 38 0 11 = 0) ∧ (dyO 0 st u))) := by
  refine gs_start (fun A => gsQv G (shX cy ad) cnX ad _ A) (by decide) (Nat.le_of_ble_eq_true rfl) ?_
  intro p e s m below meth c A ls H hx hb hr hml hlocks hown hts hK hov hE hI hM hm hS hA hl
  have hl : lv_has ls 5 [(0, .ref (ad 38 0)), (1, .ref (ad 25 z.toNatClampNeg)), (2, .ref (ad 12 15)), (3, .int x)] := hl
  have hB_st : gBN bX kX [1300, 3803, 3804, 3810, 3811, 4100, 4300, 4500] st st := gBN.rf hB
  generalize hQe : MQ below _ _ s _ _ A = Q
  refine lv_aload_n hx hb dX6_start_0 rfl (lv_at hl 0 rfl) ?_
  refine lv_aload_n hx hb dX6_start_1 rfl (lv_at hl 1 rfl) ?_
  refine gs_put (C := RX6) (T := TX6) (N := 15) (ty := .object "WellCourt$Law") (val := .ref (ad 25 z.toNatClampNeg)) hx hb hts inX6 tyX6 tyX6_ok nmX6 hown hK hI hm hM hS 38 0 3 (by decide) rfl rfl (by decide) (hts _ gm_246) (fun _ h9 => h9) rfl (z : Int32) rfl (by decide +kernel) rfl rfl (Nat.le_of_ble_eq_true rfl) dX6_start_2 (fun st_1 H locs est_1 hM hS => ?_)
  have hB_st_1 : gBN bX kX [1300, 3803, 3804, 3810, 3811, 4100, 4300, 4500] st st_1 := by rw [est_1]; exact hB_st.up (show (3803 : Nat) ∈ _ from by decide) (show (0 : Int) ≤ z.toInt from by omega) (show z.toInt ≤ (1 : Int) from by omega)
  refine lv_aload_n hx hb dX6_start_5 rfl (lv_at hl 0 rfl) ?_
  refine lv_iload_n hx hb dX6_start_6 rfl (lv_at hl 3 rfl) ?_
  refine gs_put (C := RX6) (T := TX6) (N := 15) (ty := .int) (val := .int x) hx hb hts inX6 tyX6 tyX6_ok nmX6 hown hK hI hm hM hS 38 0 4 (by decide) rfl rfl (by decide) (hts _ gm_247) (fun _ h9 => h9) rfl (x : Int32) rfl (by decide +kernel) rfl rfl (Nat.le_of_ble_eq_true rfl) dX6_start_7 (fun st_2 H locs est_2 hM hS => ?_)
  have hB_st_2 : gBN bX kX [1300, 3803, 3804, 3810, 3811, 4100, 4300, 4500] st st_2 := by rw [est_2]; exact hB_st_1.up (show (3804 : Nat) ∈ _ from by decide) (show (0 : Int) ≤ x.toInt from by omega) (show x.toInt ≤ (199 : Int) from by omega)
  refine lv_aload_n hx hb dX6_start_10 rfl (lv_at hl 0 rfl) ?_
  refine lv_iconst (v := 0) hx hb dX6_start_11 (by decide) ?_
  refine gs_put (C := RX6) (T := TX6) (N := 15) (ty := .int) (val := .int 0) hx hb hts inX6 tyX6 tyX6_ok nmX6 hown hK hI hm hM hS 38 0 10 (by decide) rfl rfl (by decide) (hts _ gm_253) (fun _ h9 => h9) rfl (0 : Int32) rfl (by decide +kernel) rfl rfl (Nat.le_of_ble_eq_true rfl) dX6_start_12 (fun st_3 H locs est_3 hM hS => ?_)
  have hB_st_3 : gBN bX kX [1300, 3803, 3804, 3810, 3811, 4100, 4300, 4500] st st_3 := by rw [est_3]; exact hB_st_2.up (show (3810 : Nat) ∈ _ from by decide) (gi_lo _) (gi_hi _)
  refine lv_aload_n hx hb dX6_start_15 rfl (lv_at hl 0 rfl) ?_
  refine lv_iconst (v := 0) hx hb dX6_start_16 (by decide) ?_
  refine gs_put (C := RX6) (T := TX6) (N := 15) (ty := .int) (val := .int 0) hx hb hts inX6 tyX6 tyX6_ok nmX6 hown hK hI hm hM hS 38 0 11 (by decide) rfl rfl (by decide) (hts _ gm_255) (fun _ h9 => h9) rfl (0 : Int32) rfl (by decide +kernel) rfl rfl (Nat.le_of_ble_eq_true rfl) dX6_start_17 (fun st_4 H locs est_4 hM hS => ?_)
  have hB_st_4 : gBN bX kX [1300, 3803, 3804, 3810, 3811, 4100, 4300, 4500] st st_4 := by rw [est_4]; exact hB_st_3.up (show (3811 : Nat) ∈ _ from by decide) (gi_lo _) (gi_hi _)
  refine lv_aload_n hx hb dX6_start_20 rfl (lv_at hl 0 rfl) ?_
  refine gs_get (C := RX6) (T := TX6) (N := 15) hx hb hts inX6 hown hK hM 38 0 5 (by decide) rfl rfl (by decide) (hts _ gm_248) (fun _ h9 => h9) rfl dX6_start_21 ?_
  refine lv_iconst (v := 0) hx hb dX6_start_24 (by decide) ?_
  refine gs_aldd hx hb hK hM 39 0 (by decide) rfl (vp_in_iff.mpr (by decide)) (a := ad 12 0) rfl dX6_start_25 ?_
  refine lv_aload_n hx hb dX6_start_26 rfl (lv_at hl 2 rfl) ?_
  refine gs_callv (va_runV (As := [.ref (ad 12 15)]) (rest := []) ⟨hx, hb, hml, hown, hts⟩ (s_X1_copyLevels l G cy sK sV ad H.size st_4 hB_st_4.1 0 15 (by decide) (by decide) (by first | decide | omega)) ⟨(gz_cb (n := 1) hts gm_843 gm_7 gm_846 ⟨by decide +kernel, by decide +kernel, by decide +kernel⟩ ⟨Nat.le_of_ble_eq_true rfl, Nat.le_of_ble_eq_true rfl⟩), hts _ gm_844, hts _ gm_845⟩ (gs_preV hK hov hE hI hM hm hS hA 12 0 (by decide) rfl rfl) rfl rfl hl.1 rfl (lv_room (Nat.le_of_ble_eq_true rfl)) dX6_start_27 ⟨Nat.le_of_ble_eq_true rfl, Nat.le_of_ble_eq_true rfl⟩) hm hS hA (fun st_5 H locs hw_5 hM hS => ?_)
  obtain ⟨n_5, hw_5⟩ := hw_5
  have hB_st_5 : gBN bX kX [1300, 3803, 3804, 3810, 3811, 4100, 4300, 4500] st st_5 := hB_st_4.call n_5 (by decide)
  obtain ⟨hw_5_0, hw_5_1⟩ := hw_5
  refine lv_iconst (v := 0) hx hb dX6_start_30 (by decide) ?_
  refine lv_istore (lv' := [(4, .int 0), (0, .ref (ad 38 0)), (1, .ref (ad 25 z.toNatClampNeg)), (2, .ref (ad 12 15)), (3, .int x)]) hx hb dX6_start_31 hl (by decide) rfl (fun ls hl => ?_)
  have lp6 : ∀ (n6 : Nat) (sv6 : gS) (y6_0 : Int32) (H : Heap) (locs : List Loc) (ls : Array Slot), (4 - y6_0.toInt).toNat < n6 → gBN bX kX [1300, 3803, 3804, 3810, 3811, 4100, 4300, 4500] st sv6 → (0 ≤ y6_0.toInt) → (sv6 38 0 4 = x) → (sv6 38 0 3 = z) → (stX st sv6 y6_0.toInt) → (∀ w : Nat, w < 6 → sv6 13 0 w = st 13 15 w) → (sv6 38 0 10 = 0) → (sv6 38 0 11 = 0) → (dyO 0 st sv6) → (tdX st sv6) → gM G (shX cy ad) cnX ad sv6 H → va_S A s.heap H locs → lv_has ls 5 [(4, .int y6_0), (0, .ref (ad 38 0)), (1, .ref (ad 25 z.toNatClampNeg)), (2, .ref (ad 12 15)), (3, .int x)] → W p l e ({ frames := 2, cells := 0, slots := 0, locals := 71 } : Room) s m [.ref (ad 38 0), .ref (ad 25 z.toNatClampNeg), .ref (ad 12 15), .int x].toArray below meth c H locs 0 0 Q (F0 m 33 ls []) := by
    intro n6
    induction n6 with
    | zero => intro sv6 y6_0 H locs ls h9; exact absurd h9 (Nat.not_lt_zero _)
    | succ n6 ih_6 =>
      intro sv6 y6_0 H locs ls hme6 hB_sv6 hv6_0 hv6_1 hv6_2 hv6_3 hv6_4 hv6_5 hv6_6 hv6_7 hv6_8 hM hS hl
      refine lv_iload hx hb dX6_start_33 (lv_at hl 0 rfl) ?_
      refine lv_iconst (v := 4) hx hb dX6_start_35 (by decide) ?_
      refine lv_icmp_ge (tgt := 93) hx hb dX6_start_36 (by decide) (fun c_7 => ?_) (fun c_7 => ?_)
      · have ic_7 := gz_le (by decide : (4 : Int32).toInt = 4) (rfl : y6_0.toInt = y6_0.toInt) c_7
        rw [← hQe]
        exact gs_vret hx hb hr hlocks hM hS ⟨hB_sv6, hv6_8, hv6_1, hv6_2, (fun h9 h8 => hv6_3 h9 (by omega)), hv6_4, hv6_5, hv6_6, hv6_7⟩ (by exact Nat.le_refl _) (by exact Nat.le_refl _) dX6_start_93
      · have ic_7 := gz_nle (by decide : (4 : Int32).toInt = 4) (rfl : y6_0.toInt = y6_0.toInt) c_7
        refine lv_aload_n hx hb dX6_start_39 rfl (lv_at hl 1 rfl) ?_
        refine gs_get (C := RX6) (T := TX6) (N := 15) hx hb hts inX6 hown hK hM 38 0 6 (by decide) rfl rfl (by decide) (hts _ gm_249) (fun _ h9 => h9) rfl dX6_start_40 ?_
        refine lv_iconst (v := 0) hx hb dX6_start_43 (by decide) ?_
        refine gs_alda hx hb hK hM 40 0 (by decide) rfl (vp_in_iff.mpr (by decide)) (a := ad 41 0) rfl dX6_start_44 ?_
        refine lv_iload hx hb dX6_start_45 (lv_at hl 0 rfl) ?_
        refine lv_aload_n hx hb dX6_start_47 rfl (lv_at hl 1 rfl) ?_
        refine gs_get (C := RX6) (T := TX6) (N := 15) hx hb hts inX6 hown hK hM 38 0 2 (by decide) rfl rfl (by decide) (hts _ gm_245) (fun _ h9 => h9) rfl dX6_start_48 ?_
        refine gs_getN (host := "WellCourt") (C := RX2) (T := TX2) (N := 5) hx hb hts inX2 hown hK hM 19 0 3 (by decide) rfl rfl (by decide) (va_Nw.use rfl (hov.2.2 _ gn_165)) (fun _ h9 => h9) rfl dX6_start_51 ?_
        refine lv_iload hx hb dX6_start_54 (lv_at hl 0 rfl) ?_
        refine gs_iald hx hb hK hM 23 0 (by decide) rfl (vp_in_iff.mpr ⟨by omega, by omega⟩) dX6_start_56 ?_
        refine lv_topi (fun x_8 ex_8 => ?_)
        have qx_8 : x_8.toInt = (sv6 23 0 (y6_0.toNatClampNeg)).toInt := congrArg Int32.toInt ex_8
        have bx_8 : (0 : Int) ≤ x_8.toInt ∧ x_8.toInt ≤ (5 : Int) := by rw [qx_8]; exact hB_sv6.1 23 0 (y6_0.toNatClampNeg)
        have rx_8 : x_8.toInt = ((st 23 0 (y6_0.toNatClampNeg)) : Int32).toInt := by rw [ex_8]; exact congrArg Int32.toInt ((hB_sv6.2 23 0 (y6_0.toNatClampNeg) (show (2300 : Nat) ∉ _ from by decide)))
        refine gs_iast hx hb hK hI hm hM hS 41 0 (by decide) (fun _ => rfl) (vp_in_iff.mpr ⟨by omega, by omega⟩) dX6_start_57 (fun st_9 H locs est_9 hM hS => ?_)
        have hB_st_9 : gBN bX kX [1300, 3803, 3804, 3810, 3811, 4100, 4300, 4500] st st_9 := by rw [est_9]; exact hB_sv6.up (show (4100 : Nat) ∈ _ from by decide) (show (0 : Int) ≤ x_8.toInt from by omega) (show x_8.toInt ≤ (5 : Int) from by omega)
        refine lv_aload_n hx hb dX6_start_58 rfl (lv_at hl 1 rfl) ?_
        refine gs_get (C := RX6) (T := TX6) (N := 15) hx hb hts inX6 hown hK hM 38 0 7 (by decide) rfl rfl (by decide) (hts _ gm_250) (fun _ h9 => h9) rfl dX6_start_59 ?_
        refine lv_iconst (v := 0) hx hb dX6_start_62 (by decide) ?_
        refine gs_alda hx hb hK hM 42 0 (by decide) rfl (vp_in_iff.mpr (by decide)) (a := ad 43 0) rfl dX6_start_63 ?_
        refine lv_iload hx hb dX6_start_64 (lv_at hl 0 rfl) ?_
        refine lv_iconst (v := 0) hx hb dX6_start_66 (by decide) ?_
        refine gs_iast hx hb hK hI hm hM hS 43 0 (by decide) (fun _ => rfl) (vp_in_iff.mpr ⟨by omega, by omega⟩) dX6_start_67 (fun st_10 H locs est_10 hM hS => ?_)
        have hB_st_10 : gBN bX kX [1300, 3803, 3804, 3810, 3811, 4100, 4300, 4500] st st_10 := by rw [est_10]; exact hB_st_9.up (show (4300 : Nat) ∈ _ from by decide) (gi_lo _) (gi_hi _)
        refine lv_aload_n hx hb dX6_start_68 rfl (lv_at hl 1 rfl) ?_
        refine gs_get (C := RX6) (T := TX6) (N := 15) hx hb hts inX6 hown hK hM 38 0 8 (by decide) rfl rfl (by decide) (hts _ gm_251) (fun _ h9 => h9) rfl dX6_start_69 ?_
        refine lv_iconst (v := 0) hx hb dX6_start_72 (by decide) ?_
        refine gs_alda hx hb hK hM 44 0 (by decide) rfl (vp_in_iff.mpr (by decide)) (a := ad 45 0) rfl dX6_start_73 ?_
        refine lv_iload hx hb dX6_start_74 (lv_at hl 0 rfl) ?_
        refine lv_aload_n hx hb dX6_start_76 rfl (lv_at hl 1 rfl) ?_
        refine gs_get (C := RX6) (T := TX6) (N := 15) hx hb hts inX6 hown hK hM 38 0 2 (by decide) rfl rfl (by decide) (hts _ gm_245) (fun _ h9 => h9) rfl dX6_start_77 ?_
        refine gs_getN (host := "WellCourt") (C := RX2) (T := TX2) (N := 5) hx hb hts inX2 hown hK hM 19 0 4 (by decide) rfl rfl (by decide) (va_Nw.use rfl (hov.2.2 _ gn_168)) (fun _ h9 => h9) rfl dX6_start_80 ?_
        refine lv_iload hx hb dX6_start_83 (lv_at hl 0 rfl) ?_
        refine gs_iald hx hb hK hM 24 0 (by decide) rfl (vp_in_iff.mpr ⟨by omega, by omega⟩) dX6_start_85 ?_
        refine lv_topi (fun x_11 ex_11 => ?_)
        have qx_11 : x_11.toInt = (st_10 24 0 (y6_0.toNatClampNeg)).toInt := congrArg Int32.toInt ex_11
        have rx_11 : x_11.toInt = ((st 24 0 (y6_0.toNatClampNeg)) : Int32).toInt := by rw [ex_11]; exact congrArg Int32.toInt ((((congrFun (congrFun (congrFun est_10 24) 0) (y6_0.toNatClampNeg)).trans (congrFun (congrFun (gU_k (by decide)) 0) (y6_0.toNatClampNeg))).trans (((congrFun (congrFun (congrFun est_9 24) 0) (y6_0.toNatClampNeg)).trans (congrFun (congrFun (gU_k (by decide)) 0) (y6_0.toNatClampNeg))).trans (hB_sv6.2 24 0 (y6_0.toNatClampNeg) (show (2400 : Nat) ∉ _ from by decide)))))
        refine gs_iast hx hb hK hI hm hM hS 45 0 (by decide) (fun _ => rfl) (vp_in_iff.mpr ⟨by omega, by omega⟩) dX6_start_86 (fun st_12 H locs est_12 hM hS => ?_)
        have hB_st_12 : gBN bX kX [1300, 3803, 3804, 3810, 3811, 4100, 4300, 4500] st st_12 := by rw [est_12]; exact hB_st_10.up (show (4500 : Nat) ∈ _ from by decide) (gi_lo _) (gi_hi _)
        obtain ⟨x_13, ex_13⟩ : ∃ y : Int32, y = y6_0 + 1 := ⟨_, rfl⟩
        try have tx_13 : x_13.toInt = y6_0.toInt + 1 := by rw [ex_13]; exact gz_addP (x := y6_0.toInt) (y := 1) rfl (by decide) (by omega) (by omega)
        refine lv_iinc (v := (x_13)) (lv' := [(4, .int x_13), (0, .ref (ad 38 0)), (1, .ref (ad 25 z.toNatClampNeg)), (2, .ref (ad 12 15)), (3, .int x)]) hx hb dX6_start_87 hl (k := 0) rfl (by rw [ex_13]; rfl) (by decide) rfl (fun ls hl => ?_)
        refine lv_goto (tgt := 33) hx hb dX6_start_90 (by decide) ?_
        exact ih_6 st_12 (x_13 : Int32) H _ ls (by omega) hB_st_12 (by omega) ((((congrFun (congrFun (congrFun est_12 38) 0) 4).trans (congrFun (congrFun (gU_k (by decide)) 0) 4)).trans (((congrFun (congrFun (congrFun est_10 38) 0) 4).trans (congrFun (congrFun (gU_k (by decide)) 0) 4)).trans ((congrFun (congrFun (congrFun est_9 38) 0) 4).trans (congrFun (congrFun (gU_k (by decide)) 0) 4)))).trans hv6_1) ((((congrFun (congrFun (congrFun est_12 38) 0) 3).trans (congrFun (congrFun (gU_k (by decide)) 0) 3)).trans (((congrFun (congrFun (congrFun est_10 38) 0) 3).trans (congrFun (congrFun (gU_k (by decide)) 0) 3)).trans ((congrFun (congrFun (congrFun est_9 38) 0) 3).trans (congrFun (congrFun (gU_k (by decide)) 0) 3)))).trans hv6_2) (stX.step (a := x_8) (b := 0) (c := x_11) hv6_3 ((congrFun (congrFun est_12 41) 0).trans ((congrFun (gU_k (by decide)) 0).trans ((congrFun (congrFun est_10 41) 0).trans ((congrFun (gU_k (by decide)) 0).trans ((congrFun (congrFun est_9 41) 0).trans ((gU_at _ _ _ _ _).trans (congrArg (fun f9 => upd f9 (y6_0.toNatClampNeg) (x_8 : Int32)) rfl))))))) ((congrFun (congrFun est_12 43) 0).trans ((congrFun (gU_k (by decide)) 0).trans ((congrFun (congrFun est_10 43) 0).trans ((gU_at _ _ _ _ _).trans (congrArg (fun f9 => upd f9 (y6_0.toNatClampNeg) (0 : Int32)) ((congrFun (congrFun est_9 43) 0).trans ((congrFun (gU_k (by decide)) 0).trans rfl))))))) ((congrFun (congrFun est_12 45) 0).trans ((gU_at _ _ _ _ _).trans (congrArg (fun f9 => upd f9 (y6_0.toNatClampNeg) (x_11 : Int32)) ((congrFun (congrFun est_10 45) 0).trans ((congrFun (gU_k (by decide)) 0).trans ((congrFun (congrFun est_9 45) 0).trans ((congrFun (gU_k (by decide)) 0).trans rfl))))))) (by omega) (by omega) (ex_8.trans (hB_sv6.2 23 0 (y6_0.toNatClampNeg) (show (2300 : Nat) ∉ _ from by decide))) (by decide) (ex_11.trans (((congrFun (congrFun (congrFun est_10 24) 0) (y6_0.toNatClampNeg)).trans (congrFun (congrFun (gU_k (by decide)) 0) (y6_0.toNatClampNeg))).trans (((congrFun (congrFun (congrFun est_9 24) 0) (y6_0.toNatClampNeg)).trans (congrFun (congrFun (gU_k (by decide)) 0) (y6_0.toNatClampNeg))).trans (hB_sv6.2 24 0 (y6_0.toNatClampNeg) (show (2400 : Nat) ∉ _ from by decide)))))) (fun w9 h9 => (congrFun ((congrFun (congrFun est_12 13) 0).trans (congrFun (gU_k (by decide)) 0)) w9).trans ((congrFun ((congrFun (congrFun est_10 13) 0).trans (congrFun (gU_k (by decide)) 0)) w9).trans ((congrFun ((congrFun (congrFun est_9 13) 0).trans (congrFun (gU_k (by decide)) 0)) w9).trans (hv6_4 w9 h9)))) ((((congrFun (congrFun (congrFun est_12 38) 0) 10).trans (congrFun (congrFun (gU_k (by decide)) 0) 10)).trans (((congrFun (congrFun (congrFun est_10 38) 0) 10).trans (congrFun (congrFun (gU_k (by decide)) 0) 10)).trans ((congrFun (congrFun (congrFun est_9 38) 0) 10).trans (congrFun (congrFun (gU_k (by decide)) 0) 10)))).trans hv6_5) ((((congrFun (congrFun (congrFun est_12 38) 0) 11).trans (congrFun (congrFun (gU_k (by decide)) 0) 11)).trans (((congrFun (congrFun (congrFun est_10 38) 0) 11).trans (congrFun (congrFun (gU_k (by decide)) 0) 11)).trans ((congrFun (congrFun (congrFun est_9 38) 0) 11).trans (congrFun (congrFun (gU_k (by decide)) 0) 11)))).trans hv6_6) (dyO.upk (dyO.upk (dyO.upk hv6_7 est_9 (by decide)) est_10 (by decide)) est_12 (by decide)) (tdX.trans (tdX.trans (tdX.trans hv6_8 (tdX.upk est_9 (by decide))) (tdX.upk est_10 (by decide))) (tdX.upk est_12 (by decide))) hM hS (lv_sub hl [0, 1, 2, 3, 4] rfl)
  exact lp6 ((4 - ((0 : Int32) : Int32).toInt).toNat + 1) st_5 ((0 : Int32) : Int32) H _ ls (Nat.lt_succ_self _) hB_st_5 (by have hl0 : (0 : Int32).toInt = 0 := (by decide); omega) ((n_5.2 38 0 4 (show (3804 : Nat) ∉ _ from by decide)).trans (((congrFun (congrFun (congrFun est_4 38) 0) 4).trans (gU_other (by decide))).trans (((congrFun (congrFun (congrFun est_3 38) 0) 4).trans (gU_other (by decide))).trans ((congrFun (congrFun (congrFun est_2 38) 0) 4).trans (gU_same _ _ _ _ _))))) ((n_5.2 38 0 3 (show (3803 : Nat) ∉ _ from by decide)).trans (((congrFun (congrFun (congrFun est_4 38) 0) 3).trans (gU_other (by decide))).trans (((congrFun (congrFun (congrFun est_3 38) 0) 3).trans (gU_other (by decide))).trans (((congrFun (congrFun (congrFun est_2 38) 0) 3).trans (gU_other (by decide))).trans ((congrFun (congrFun (congrFun est_1 38) 0) 3).trans (gU_same _ _ _ _ _)))))) (stX.nil (by decide)) (fun w9 h9 => (hw_5_1 w9 h9).trans (congrFun ((congrFun (congrFun est_4 13) 15).trans ((congrFun (gU_k (by decide)) 15).trans ((congrFun (congrFun est_3 13) 15).trans ((congrFun (gU_k (by decide)) 15).trans ((congrFun (congrFun est_2 13) 15).trans ((congrFun (gU_k (by decide)) 15).trans ((congrFun (congrFun est_1 13) 15).trans ((congrFun (gU_k (by decide)) 15).trans rfl)))))))) w9)) ((n_5.2 38 0 10 (show (3810 : Nat) ∉ _ from by decide)).trans (((congrFun (congrFun (congrFun est_4 38) 0) 10).trans (gU_other (by decide))).trans ((congrFun (congrFun (congrFun est_3 38) 0) 10).trans (gU_same _ _ _ _ _)))) ((n_5.2 38 0 11 (show (3811 : Nat) ∉ _ from by decide)).trans ((congrFun (congrFun (congrFun est_4 38) 0) 11).trans (gU_same _ _ _ _ _))) (dyO.trans (dyO.upk (dyO.upk (dyO.upk (dyO.upk dyO.rf est_1 (by decide)) est_2 (by decide)) est_3 (by decide)) est_4 (by decide)) hw_5_0) (tdX.trans (tdX.trans (tdX.trans (tdX.trans (tdX.trans tdX.rf (tdX.upk est_1 (by decide))) (tdX.upk est_2 (by decide))) (tdX.upk est_3 (by decide))) (tdX.upk est_4 (by decide))) (tdX.day hw_5_0 (by first | decide | omega))) hM hS (lv_sub hl [0, 1, 2, 3, 4] rfl)

set_option maxHeartbeats 4000000 in
set_option maxRecDepth 100000 in
/-- WellCourt$Planner.rowOf -/
theorem s_X6_rowOf (l : Launch) (G : va_G) (cy : Nat → ClassId) (sK sV : Nat → Nat) (ad : Nat → Nat → Nat) (sz : Nat) (st : gS) (hB : gBd bX st) (x : Int32) (Xx : Int) (kx : x.toInt = Xx) (hx0 : 0 ≤ Xx) (hx1 : Xx ≤ 55) : gsMi l yX6_rowOf cX6_rowOf 1 (some .int) ({ frames := 0, cells := 0, slots := 0, locals := 0 } : Room) G cy sK sV (shX cy ad) cnX ad sz [.int x] st (fun (r : Int32) (u : gS) => gBN bX kX [] st u ∧ ((1 ≤ r.toInt) ∧ (r.toInt ≤ 14) ∧ (4 * r.toInt ≤ Xx + 4) ∧ (Xx < 4 * r.toInt))) := by
  refine gs_start (fun A => gsQi G (shX cy ad) cnX ad _ A) (by decide) (Nat.le_of_ble_eq_true rfl) ?_
  intro p e s m below meth c A ls H hx hb hr hml hlocks hown hts hK hov hE hI hM hm hS hA hl
  have hl : lv_has ls 1 [(0, .int x)] := hl
  have hB_st : gBN bX kX [] st st := gBN.rf hB
  refine lv_iload_n hx hb dX6_rowOf_0 rfl (lv_at hl 0 rfl) ?_
  refine lv_iconst (v := 4) hx hb dX6_rowOf_1 (by decide) ?_
  refine lv_idiv hx hb dX6_rowOf_2 (by decide) ?_
  refine lv_topi (fun x_1 ex_1 => ?_)
  try have tx_1 := gs_div (y := 4) (by decide) (show 0 ≤ x.toInt from by omega) (by omega) ex_1
  refine lv_iconst (v := 1) hx hb dX6_rowOf_3 (by decide) ?_
  refine lv_iadd hx hb dX6_rowOf_4 ?_
  refine lv_topi (fun x_2 ex_2 => ?_)
  try have tx_2 : x_2.toInt = x_1.toInt + 1 := by rw [ex_2]; exact gz_addP (x := x_1.toInt) (y := 1) rfl (by decide) (by omega) (by omega)
  exact gs_iret hx hb hr hlocks hM hS rfl ⟨hB_st, (by omega), (by omega), (by omega), (by omega)⟩ (by exact Nat.le_refl _) (by exact Nat.le_refl _) dX6_rowOf_5

set_option maxHeartbeats 4000000 in
set_option maxRecDepth 100000 in
/-- WellCourt$Planner.openDay -/
theorem s_X6_openDay (l : Launch) (G : va_G) (cy : Nat → ClassId) (sK sV : Nat → Nat) (ad : Nat → Nat → Nat) (sz : Nat) (st : gS) (hB : gBd bX st) (x : Int32) (Xx : Int) (kx : x.toInt = Xx) (hx0 : 1 ≤ Xx) (hx1 : Xx ≤ 14) (hdr : (st 38 0 4).toInt + Xx ≤ 199) (rs : List Rl) (hLp : LXa rs st (st 38 0 3).toNatClampNeg) (hwf : ∀ r ∈ rs, wfR r) : gsMv l yX6_openDay cX6_openDay 2 ({ frames := 3, cells := 0, slots := 0, locals := 67 } : Room) G cy sK sV (shX cy ad) cnX ad sz [.ref (ad 38 0), .int x] st (fun (u : gS) => gBN bX kX [1300, 1400, 1500] st u ∧ ((opX rs st u x.toNatClampNeg) ∧ (tdX st u))) := by
  refine gs_start (fun A => gsQv G (shX cy ad) cnX ad _ A) (by decide) (Nat.le_of_ble_eq_true rfl) ?_
  intro p e s m below meth c A ls H hx hb hr hml hlocks hown hts hK hov hE hI hM hm hS hA hl
  have hl : lv_has ls 2 [(0, .ref (ad 38 0)), (1, .int x)] := hl
  have hB_st : gBN bX kX [1300, 1400, 1500] st st := gBN.rf hB
  refine lv_iload_n hx hb dX6_openDay_0 rfl (lv_at hl 1 rfl) ?_
  refine lv_iconst (v := 1) hx hb dX6_openDay_1 (by decide) ?_
  refine lv_icmp_lt (tgt := 11) hx hb dX6_openDay_2 (by decide) (fun c_1 => ?_) (fun c_1 => ?_)
  · have ic_1 := gz_lt (rfl : x.toInt = x.toInt) (by decide : (1 : Int32).toInt = 1) c_1
    exact gs_vret hx hb hr hlocks hM hS ⟨hB_st, (by exfalso; omega), (by exfalso; omega)⟩ (by exact Nat.le_refl _) (by exact Nat.le_refl _) dX6_openDay_11
  · have ic_1 := gz_nlt (rfl : x.toInt = x.toInt) (by decide : (1 : Int32).toInt = 1) c_1
    refine lv_iload_n hx hb dX6_openDay_5 rfl (lv_at hl 1 rfl) ?_
    refine lv_bipush (v := 14) hx hb dX6_openDay_6 (by decide) ?_
    refine lv_icmp_le (tgt := 12) hx hb dX6_openDay_8 (by decide) (fun c_2 => ?_) (fun c_2 => ?_)
    · have ic_2 := gz_le (rfl : x.toInt = x.toInt) (by decide : (14 : Int32).toInt = 14) c_2
      refine lv_aload_n hx hb dX6_openDay_12 rfl (lv_at hl 0 rfl) ?_
      refine gs_get (C := RX6) (T := TX6) (N := 15) hx hb hts inX6 hown hK hM 38 0 5 (by decide) rfl rfl (by decide) (hts _ gm_248) (fun _ h9 => h9) rfl dX6_openDay_13 ?_
      refine lv_iload_n hx hb dX6_openDay_16 rfl (lv_at hl 1 rfl) ?_
      have h_3 : x.toNatClampNeg < 15 := gs_lt (vp_in_iff.mpr ⟨by omega, by omega⟩)
      refine gs_aldd hx hb hK hM 39 0 (by decide) rfl (vp_in_iff.mpr ⟨by omega, by omega⟩) (a := ad 12 x.toNatClampNeg) (if_pos h_3) dX6_openDay_17 ?_
      refine lv_aload_n hx hb dX6_openDay_18 rfl (lv_at hl 0 rfl) ?_
      refine gs_get (C := RX6) (T := TX6) (N := 15) hx hb hts inX6 hown hK hM 38 0 5 (by decide) rfl rfl (by decide) (hts _ gm_248) (fun _ h9 => h9) rfl dX6_openDay_19 ?_
      refine lv_iload_n hx hb dX6_openDay_22 rfl (lv_at hl 1 rfl) ?_
      refine lv_iconst (v := 1) hx hb dX6_openDay_23 (by decide) ?_
      refine lv_isub hx hb dX6_openDay_24 ?_
      refine lv_topi (fun x_4 ex_4 => ?_)
      try have tx_4 : x_4.toInt = x.toInt - 1 := by rw [ex_4]; exact gz_subP (x := x.toInt) (y := 1) rfl (by decide) (by omega) (by omega)
      have h_5 : x_4.toNatClampNeg < 15 := gs_lt (vp_in_iff.mpr ⟨by omega, by omega⟩)
      refine gs_aldd hx hb hK hM 39 0 (by decide) rfl (vp_in_iff.mpr ⟨by omega, by omega⟩) (a := ad 12 x_4.toNatClampNeg) (if_pos h_5) dX6_openDay_25 ?_
      refine lv_aload_n hx hb dX6_openDay_26 rfl (lv_at hl 0 rfl) ?_
      refine gs_get (C := RX6) (T := TX6) (N := 15) hx hb hts inX6 hown hK hM 38 0 0 (by decide) rfl rfl (by decide) (hts _ gm_243) (fun _ h9 => h9) rfl dX6_openDay_27 ?_
      refine gs_callv (va_runV (As := [.ref (ad 12 x_4.toNatClampNeg), .ref (ad 4 0)]) (rest := []) ⟨hx, hb, hml, hown, hts⟩ (s_X1_grow l G cy sK sV ad H.size st hB_st.1 x.toNatClampNeg x_4.toNatClampNeg (Nat.lt_trans h_3 (by decide)) (Nat.lt_trans h_5 (by decide)) ) ⟨(gz_cb (n := 2) hts gm_858 gm_7 gm_578 ⟨by decide +kernel, by decide +kernel, by decide +kernel⟩ ⟨Nat.le_of_ble_eq_true rfl, Nat.le_of_ble_eq_true rfl⟩), hts _ gm_576, hts _ gm_577⟩ (gs_preV hK hov hE hI hM hm hS hA 12 x.toNatClampNeg (Nat.lt_trans h_3 (by decide)) rfl rfl) rfl rfl hl.1 rfl (lv_room (Nat.le_of_ble_eq_true rfl)) dX6_openDay_30 ⟨Nat.le_of_ble_eq_true rfl, Nat.le_of_ble_eq_true rfl⟩) hm hS hA (fun st_6 H locs hw_6 hM hS => ?_)
      obtain ⟨n_6, hw_6⟩ := hw_6
      have hB_st_6 : gBN bX kX [1300, 1400, 1500] st st_6 := hB_st.call n_6 (by decide)
      obtain ⟨hw_6_0, hw_6_1, hw_6_2⟩ := hw_6
      refine lv_aload_n hx hb dX6_openDay_33 rfl (lv_at hl 0 rfl) ?_
      refine gs_get (C := RX6) (T := TX6) (N := 15) hx hb hts inX6 hown hK hM 38 0 5 (by decide) rfl rfl (by decide) (hts _ gm_248) (fun _ h9 => h9) rfl dX6_openDay_34 ?_
      refine lv_iload_n hx hb dX6_openDay_37 rfl (lv_at hl 1 rfl) ?_
      have h_7 : x.toNatClampNeg < 15 := gs_lt (vp_in_iff.mpr ⟨by omega, by omega⟩)
      refine gs_aldd hx hb hK hM 39 0 (by decide) rfl (vp_in_iff.mpr ⟨by omega, by omega⟩) (a := ad 12 x.toNatClampNeg) (if_pos h_7) dX6_openDay_38 ?_
      refine lv_aload_n hx hb dX6_openDay_39 rfl (lv_at hl 0 rfl) ?_
      refine gs_get (C := RX6) (T := TX6) (N := 15) hx hb hts inX6 hown hK hM 38 0 3 (by decide) rfl rfl (by decide) (hts _ gm_246) (fun _ h9 => h9) rfl dX6_openDay_40 ?_
      have h_8 : (0 : Int) ≤ (st_6 38 0 3).toInt ∧ (st_6 38 0 3).toInt ≤ (1 : Int) := hB_st_6.1 38 0 3
      refine lv_aload_n hx hb dX6_openDay_43 rfl (lv_at hl 0 rfl) ?_
      refine gs_get (C := RX6) (T := TX6) (N := 15) hx hb hts inX6 hown hK hM 38 0 1 (by decide) rfl rfl (by decide) (hts _ gm_244) (fun _ h9 => h9) rfl dX6_openDay_44 ?_
      refine lv_aload_n hx hb dX6_openDay_47 rfl (lv_at hl 0 rfl) ?_
      refine gs_get (C := RX6) (T := TX6) (N := 15) hx hb hts inX6 hown hK hM 38 0 4 (by decide) rfl rfl (by decide) (hts _ gm_247) (fun _ h9 => h9) rfl dX6_openDay_48 ?_
      refine lv_topi (fun x_9 ex_9 => ?_)
      have ex_9 : (st 38 0 4) = x_9 := Eq.symm (ex_9.trans (n_6.2 38 0 4 (show (3804 : Nat) ∉ _ from by decide)))
      subst ex_9
      have bf_10 : (0 : Int) ≤ (st 38 0 4).toInt ∧ (st 38 0 4).toInt ≤ (199 : Int) := hB_st.1 38 0 4
      refine lv_iload_n hx hb dX6_openDay_51 rfl (lv_at hl 1 rfl) ?_
      refine lv_iadd hx hb dX6_openDay_52 ?_
      refine lv_topi (fun x_11 ex_11 => ?_)
      try have tx_11 : x_11.toInt = (st 38 0 4).toInt + x.toInt := by rw [ex_11]; exact gz_addI (x := (st 38 0 4).toInt) (y := x.toInt) rfl rfl (by omega) (by omega)
      refine gs_callv (va_runV (As := [.ref (ad 25 ((st_6 38 0 3).toNatClampNeg)), .ref (ad 9 0), .int x_11]) (rest := []) ⟨hx, hb, hml, hown, hts⟩ (s_X1_settle l G cy sK sV ad H.size st_6 hB_st_6.1 x.toNatClampNeg (st_6 38 0 3) x_11 x_11.toInt rfl (Nat.lt_trans h_7 (by decide)) h_8 (by first | decide | omega) (by first | decide | omega) rs (show LXa rs st_6 (st_6 38 0 3).toNatClampNeg from (by rw [show st_6 38 0 3 = st 38 0 3 from (n_6.2 38 0 3 (show (3803 : Nat) ∉ _ from by decide))]; exact (LXa.keep hLp n_6.2 (by decide)))).2.2.2.1) ⟨(gz_cb (n := 3) hts gm_859 gm_7 gm_550 ⟨by decide +kernel, by decide +kernel, by decide +kernel⟩ ⟨Nat.le_of_ble_eq_true rfl, Nat.le_of_ble_eq_true rfl⟩), hts _ gm_548, hts _ gm_549⟩ (gs_preV hK hov hE hI hM hm hS hA 12 x.toNatClampNeg (Nat.lt_trans h_7 (by decide)) rfl rfl) rfl rfl hl.1 rfl (lv_room (Nat.le_of_ble_eq_true rfl)) dX6_openDay_53 ⟨Nat.le_of_ble_eq_true rfl, Nat.le_of_ble_eq_true rfl⟩) hm hS hA (fun st_12 H locs hw_12 hM hS => ?_)
      obtain ⟨n_12, hw_12⟩ := hw_12
      have hB_st_12 : gBN bX kX [1300, 1400, 1500] st st_12 := hB_st_6.call n_12 (by decide)
      obtain ⟨hw_12_0, hw_12_1⟩ := hw_12
      exact gs_vret hx hb hr hlocks hM hS ⟨hB_st_12, (by have c_x := gs_cl (x := x) (by omega); have c_i := gs_cl (x := x_4) (by omega); have ei : x_4.toNatClampNeg = x.toNatClampNeg - 1 := (by omega); exact ⟨(by have h9 := hw_6_0; rw [ei] at h9; rw [show st_12 13 x.toNatClampNeg = st_6 13 x.toNatClampNeg from (funext fun j9 => n_12.2 13 _ j9 (show (1300 : Nat) ∉ _ from by decide))]; exact h9), (by have h9 := hw_6_1; rw [ei] at h9; rw [show st_12 14 x.toNatClampNeg = st_6 14 x.toNatClampNeg from (funext fun j9 => n_12.2 14 _ j9 (show (1400 : Nat) ∉ _ from by decide))]; exact h9), (fun w9 h9 => by have h8 := hw_12_0 w9 h9 (by omega); rw [show st_12 14 x.toNatClampNeg = st_6 14 x.toNatClampNeg from (funext fun j9 => n_12.2 14 _ j9 (show (1400 : Nat) ∉ _ from by decide)), show (st 38 0 4).toInt + ((x.toNatClampNeg : Nat) : Int) = x_11.toInt by omega]; rw [show st_6 11 = st 11 from ((funext fun i9 => funext fun j9 => n_6.2 11 i9 j9 (show (1100 : Nat) ∉ _ from by decide)).trans rfl)] at h8; exact h8), dyO.trans hw_6_2 hw_12_1⟩), (tdX.trans (tdX.trans tdX.rf (tdX.day hw_6_2 (by first | decide | omega))) (tdX.day hw_12_1 (by first | decide | omega)))⟩ (by exact Nat.le_refl _) (by exact Nat.le_refl _) dX6_openDay_56
    · have ic_2 := gz_nle (rfl : x.toInt = x.toInt) (by decide : (14 : Int32).toInt = 14) c_2
      exact gs_vret hx hb hr hlocks hM hS ⟨hB_st, (by exfalso; omega), (by exfalso; omega)⟩ (by exact Nat.le_refl _) (by exact Nat.le_refl _) dX6_openDay_11

set_option maxHeartbeats 4000000 in
set_option maxRecDepth 100000 in
/-- WellCourt$Planner.canDo -/
theorem s_X6_canDo (l : Launch) (G : va_G) (cy : Nat → ClassId) (sK sV : Nat → Nat) (ad : Nat → Nat → Nat) (sz : Nat) (st : gS) (hB : gBd bX st) (x : Int32) (y : Int32) (w : Int32) (Xx : Int) (Xy : Int) (Xw : Int) (kx : x.toInt = Xx) (ky : y.toInt = Xy) (kw : w.toInt = Xw) (hx0 : 1 ≤ Xx) (hx1 : Xx ≤ 14) (hy0 : 0 ≤ Xy) (hy1 : Xy ≤ 3) (hw0 : 0 ≤ Xw) (hw1 : Xw ≤ 7) (rs : List Rl) (hLp : LXa rs st (st 38 0 3).toNatClampNeg) (hwf : ∀ r ∈ rs, wfR r) : gsMi l yX6_canDo cX6_canDo 5 (some .boolean) ({ frames := 3, cells := 0, slots := 0, locals := 66 } : Room) G cy sK sV (shX cy ad) cnX ad sz [.ref (ad 38 0), .int x, .int y, .int w] st (fun (r : Int32) (u : gS) => gBN bX kX [] st u ∧ ((r = 1 ∧ (cdX rs st x.toNatClampNeg y.toNatClampNeg Xw)) ∨ (r = 0 ∧ (¬ cdX rs st x.toNatClampNeg y.toNatClampNeg Xw)))) := by
  refine gs_start (fun A => gsQi G (shX cy ad) cnX ad _ A) (by decide) (Nat.le_of_ble_eq_true rfl) ?_
  intro p e s m below meth c A ls H hx hb hr hml hlocks hown hts hK hov hE hI hM hm hS hA hl
  have hl : lv_has ls 5 [(0, .ref (ad 38 0)), (1, .int x), (2, .int y), (3, .int w)] := hl
  have hB_st : gBN bX kX [] st st := gBN.rf hB
  refine lv_aload_n hx hb dX6_canDo_0 rfl (lv_at hl 0 rfl) ?_
  refine gs_get (C := RX6) (T := TX6) (N := 15) hx hb hts inX6 hown hK hM 38 0 6 (by decide) rfl rfl (by decide) (hts _ gm_249) (fun _ h9 => h9) rfl dX6_canDo_1 ?_
  refine lv_iload_n hx hb dX6_canDo_4 rfl (lv_at hl 1 rfl) ?_
  refine lv_iconst (v := 1) hx hb dX6_canDo_5 (by decide) ?_
  refine lv_isub hx hb dX6_canDo_6 ?_
  refine lv_topi (fun x_1 ex_1 => ?_)
  try have tx_1 : x_1.toInt = x.toInt - 1 := by rw [ex_1]; exact gz_subP (x := x.toInt) (y := 1) rfl (by decide) (by omega) (by omega)
  have h_2 : x_1.toNatClampNeg < 15 := gs_lt (vp_in_iff.mpr ⟨by omega, by omega⟩)
  refine gs_alda hx hb hK hM 40 0 (by decide) rfl (vp_in_iff.mpr ⟨by omega, by omega⟩) (a := ad 41 x_1.toNatClampNeg) (if_pos h_2) dX6_canDo_7 ?_
  refine lv_iload_n hx hb dX6_canDo_8 rfl (lv_at hl 2 rfl) ?_
  refine gs_iald hx hb hK hM 41 x_1.toNatClampNeg h_2 rfl (vp_in_iff.mpr ⟨by omega, by omega⟩) dX6_canDo_9 ?_
  refine lv_topi (fun x_3 ex_3 => ?_)
  have qx_3 : x_3.toInt = (st 41 x_1.toNatClampNeg (y.toNatClampNeg)).toInt := congrArg Int32.toInt ex_3
  have bx_3 : (0 : Int) ≤ x_3.toInt ∧ x_3.toInt ≤ (5 : Int) := by rw [qx_3]; exact hB_st.1 41 x_1.toNatClampNeg (y.toNatClampNeg)
  have hp9 : x_3 = st 41 (x.toNatClampNeg - 1) y.toNatClampNeg := (by rw [ex_3, show x_1.toNatClampNeg = x.toNatClampNeg - 1 by (have c_x_1 := gs_cl (x := x_1) (by omega); have c_r := gs_cl (x := x) (by omega); omega)])
  refine lv_istore (lv' := [(4, .int x_3), (0, .ref (ad 38 0)), (1, .int x), (2, .int y), (3, .int w)]) hx hb dX6_canDo_10 hl (by decide) rfl (fun ls hl => ?_)
  refine lv_iload_n hx hb dX6_canDo_12 rfl (lv_at hl 4 rfl) ?_
  refine lv_if_ne (tgt := 73) hx hb dX6_canDo_13 (by decide) (fun c_4 => ?_) (fun c_4 => ?_)
  · have ic_4 := gz_ne (rfl : w.toInt = w.toInt) (by decide : (0 : Int32).toInt = 0) c_4
    refine lv_iload_n hx hb dX6_canDo_73 rfl (lv_at hl 4 rfl) ?_
    refine lv_iconst (v := 1) hx hb dX6_canDo_74 (by decide) ?_
    refine lv_icmp_eq (tgt := 95) hx hb dX6_canDo_75 (by decide) (fun c_5 => ?_) (fun c_5 => ?_)
    · have ic_5 := gz_eq (rfl : w.toInt = w.toInt) (by decide : (1 : Int32).toInt = 1) c_5
      refine lv_iconst (v := 1) hx hb dX6_canDo_95 (by decide) ?_
      refine lv_goto (tgt := 100) hx hb dX6_canDo_96 (by decide) ?_
      exact gs_iret hx hb hr hlocks hM hS (by decide) ⟨hB_st, (Or.inl ⟨rfl, by first | exact Or.inr (Or.inl (by omega)) | exact Or.inr (Or.inr ⟨by omega, by omega⟩)⟩)⟩ (by exact Nat.le_refl _) (by exact Nat.le_refl _) dX6_canDo_100
    · have ic_5 := gz_ne (rfl : w.toInt = w.toInt) (by decide : (1 : Int32).toInt = 1) c_5
      refine lv_aload_n hx hb dX6_canDo_78 rfl (lv_at hl 1 rfl) ?_
      refine gs_get (C := RX6) (T := TX6) (N := 15) hx hb hts inX6 hown hK hM 38 0 0 (by decide) rfl rfl (by decide) (hts _ gm_243) (fun _ h9 => h9) rfl dX6_canDo_79 ?_
      refine gs_getN (host := "WellCourt") (C := RX3) (T := TX3) (N := 3) hx hb hts inX3 hown hK hM 4 0 2 (by decide) rfl rfl (by decide) (va_Nw.use rfl (hov.2.2 _ gn_89)) (fun _ h9 => h9) rfl dX6_canDo_82 ?_
      refine lv_iload hx hb dX6_canDo_85 (lv_at hl 0 rfl) ?_
      have h_6 : x_3.toNatClampNeg < 6 := gs_lt (vp_in_iff.mpr ⟨by omega, by omega⟩)
      refine gs_alda hx hb hK hM 7 0 (by decide) rfl (vp_in_iff.mpr ⟨by omega, by omega⟩) (a := ad 8 x_3.toNatClampNeg) (if_pos h_6) dX6_canDo_87 ?_
      refine lv_iload_n hx hb dX6_canDo_88 rfl (lv_at hl 4 rfl) ?_
      refine lv_iconst (v := 2) hx hb dX6_canDo_89 (by decide) ?_
      refine lv_isub hx hb dX6_canDo_90 ?_
      refine lv_topi (fun x_7 ex_7 => ?_)
      try have tx_7 : x_7.toInt = w.toInt - 2 := by rw [ex_7]; exact gz_subP (x := w.toInt) (y := 2) rfl (by decide) (by omega) (by omega)
      refine gs_iald hx hb hK hM 8 x_3.toNatClampNeg h_6 rfl (vp_in_iff.mpr ⟨by omega, by omega⟩) dX6_canDo_91 ?_
      refine lv_topi (fun x_8 ex_8 => ?_)
      have qx_8 : x_8.toInt = (st 8 x_3.toNatClampNeg (x_7.toNatClampNeg)).toInt := congrArg Int32.toInt ex_8
      have hy9 : x_8.toInt = (st 8 (st 41 (x.toNatClampNeg - 1) y.toNatClampNeg).toNatClampNeg (Xw - 2).toNat).toInt := (by have c_i := gs_cl (x := x_7) (by omega); rw [qx_8, hp9, show x_7.toNatClampNeg = (Xw - 2).toNat by omega])
      refine lv_if_le (tgt := 99) hx hb dX6_canDo_92 (by decide) (fun c_9 => ?_) (fun c_9 => ?_)
      · have ic_9 := gz_le (rfl : x_8.toInt = x_8.toInt) (by decide : (0 : Int32).toInt = 0) c_9
        refine lv_iconst (v := 0) hx hb dX6_canDo_99 (by decide) ?_
        exact gs_iret hx hb hr hlocks hM hS (by decide) ⟨hB_st, (Or.inr ⟨rfl, fun h8 => by rcases h8 with ⟨h7, h6, _⟩ | h7 | ⟨h7, h6⟩ <;> omega⟩)⟩ (by exact Nat.le_refl _) (by exact Nat.le_refl _) dX6_canDo_100
      · have ic_9 := gz_nle (rfl : x_8.toInt = x_8.toInt) (by decide : (0 : Int32).toInt = 0) c_9
        refine lv_iconst (v := 1) hx hb dX6_canDo_95 (by decide) ?_
        refine lv_goto (tgt := 100) hx hb dX6_canDo_96 (by decide) ?_
        exact gs_iret hx hb hr hlocks hM hS (by decide) ⟨hB_st, (Or.inl ⟨rfl, by first | exact Or.inr (Or.inl (by omega)) | exact Or.inr (Or.inr ⟨by omega, by omega⟩)⟩)⟩ (by exact Nat.le_refl _) (by exact Nat.le_refl _) dX6_canDo_100
  · have ic_4 := gz_eqn (rfl : w.toInt = w.toInt) (by decide : (0 : Int32).toInt = 0) c_4
    refine lv_aload_n hx hb dX6_canDo_16 rfl (lv_at hl 1 rfl) ?_
    refine gs_get (C := RX6) (T := TX6) (N := 15) hx hb hts inX6 hown hK hM 38 0 5 (by decide) rfl rfl (by decide) (hts _ gm_248) (fun _ h9 => h9) rfl dX6_canDo_17 ?_
    refine lv_iload_n hx hb dX6_canDo_20 rfl (lv_at hl 2 rfl) ?_
    have h_10 : x.toNatClampNeg < 15 := gs_lt (vp_in_iff.mpr ⟨by omega, by omega⟩)
    refine gs_aldd hx hb hK hM 39 0 (by decide) rfl (vp_in_iff.mpr ⟨by omega, by omega⟩) (a := ad 12 x.toNatClampNeg) (if_pos h_10) dX6_canDo_21 ?_
    refine gs_getN (host := "WellCourt") (C := RX1) (T := TX1) (N := 3) hx hb hts inX1 hown hK hM 12 x.toNatClampNeg 0 (Nat.lt_trans h_10 (by decide)) rfl rfl (by decide) (va_Nw.use rfl (hov.2.2 _ gn_122)) (fun _ h9 => h9) rfl dX6_canDo_22 ?_
    refine lv_iload hx hb dX6_canDo_25 (lv_at hl 0 rfl) ?_
    refine gs_iald hx hb hK hM 13 x.toNatClampNeg (Nat.lt_trans h_10 (by decide)) rfl (vp_in_iff.mpr ⟨by omega, by omega⟩) dX6_canDo_27 ?_
    refine lv_topi (fun x_11 ex_11 => ?_)
    have qx_11 : x_11.toInt = (st 13 x.toNatClampNeg (x_3.toNatClampNeg)).toInt := congrArg Int32.toInt ex_11
    have hl9 : x_11.toInt = (st 13 x.toNatClampNeg (st 41 (x.toNatClampNeg - 1) y.toNatClampNeg).toNatClampNeg).toInt := (by rw [qx_11, hp9])
    refine lv_aload_n hx hb dX6_canDo_28 rfl (lv_at hl 1 rfl) ?_
    refine gs_get (C := RX6) (T := TX6) (N := 15) hx hb hts inX6 hown hK hM 38 0 2 (by decide) rfl rfl (by decide) (hts _ gm_245) (fun _ h9 => h9) rfl dX6_canDo_29 ?_
    refine gs_getN (host := "WellCourt") (C := RX2) (T := TX2) (N := 5) hx hb hts inX2 hown hK hM 19 0 1 (by decide) rfl rfl (by decide) (va_Nw.use rfl (hov.2.2 _ gn_161)) (fun _ h9 => h9) rfl dX6_canDo_32 ?_
    refine lv_iload_n hx hb dX6_canDo_35 rfl (lv_at hl 3 rfl) ?_
    refine gs_iald hx hb hK hM 21 0 (by decide) rfl (vp_in_iff.mpr ⟨by omega, by omega⟩) dX6_canDo_36 ?_
    refine lv_topi (fun x_12 ex_12 => ?_)
    have qx_12 : x_12.toInt = (st 21 0 (y.toNatClampNeg)).toInt := congrArg Int32.toInt ex_12
    refine lv_icmp_lt (tgt := 71) hx hb dX6_canDo_37 (by decide) (fun c_13 => ?_) (fun c_13 => ?_)
    · have ic_13 := gz_lt (rfl : x_11.toInt = x_11.toInt) (rfl : x_12.toInt = x_12.toInt) c_13
      have lc_13 := gi_hi x_12
      refine lv_iconst (v := 0) hx hb dX6_canDo_71 (by decide) ?_
      exact gs_iret hx hb hr hlocks hM hS (by decide) ⟨hB_st, (Or.inr ⟨rfl, fun h8 => by rcases h8 with ⟨h7, h6, _⟩ | h7 | ⟨h7, h6⟩ <;> omega⟩)⟩ (by exact Nat.le_refl _) (by exact Nat.le_refl _) dX6_canDo_72
    · have ic_13 := gz_nlt (rfl : x_11.toInt = x_11.toInt) (rfl : x_12.toInt = x_12.toInt) c_13
      refine lv_aload_n hx hb dX6_canDo_40 rfl (lv_at hl 1 rfl) ?_
      refine gs_get (C := RX6) (T := TX6) (N := 15) hx hb hts inX6 hown hK hM 38 0 5 (by decide) rfl rfl (by decide) (hts _ gm_248) (fun _ h9 => h9) rfl dX6_canDo_41 ?_
      refine lv_iload_n hx hb dX6_canDo_44 rfl (lv_at hl 2 rfl) ?_
      have h_14 : x.toNatClampNeg < 15 := gs_lt (vp_in_iff.mpr ⟨by omega, by omega⟩)
      refine gs_aldd hx hb hK hM 39 0 (by decide) rfl (vp_in_iff.mpr ⟨by omega, by omega⟩) (a := ad 12 x.toNatClampNeg) (if_pos h_14) dX6_canDo_45 ?_
      refine lv_aload_n hx hb dX6_canDo_46 rfl (lv_at hl 1 rfl) ?_
      refine gs_get (C := RX6) (T := TX6) (N := 15) hx hb hts inX6 hown hK hM 38 0 3 (by decide) rfl rfl (by decide) (hts _ gm_246) (fun _ h9 => h9) rfl dX6_canDo_47 ?_
      have h_15 : (0 : Int) ≤ (st 38 0 3).toInt ∧ (st 38 0 3).toInt ≤ (1 : Int) := hB_st.1 38 0 3
      refine lv_iload hx hb dX6_canDo_50 (lv_at hl 0 rfl) ?_
      refine lv_aload_n hx hb dX6_canDo_52 rfl (lv_at hl 1 rfl) ?_
      refine gs_get (C := RX6) (T := TX6) (N := 15) hx hb hts inX6 hown hK hM 38 0 2 (by decide) rfl rfl (by decide) (hts _ gm_245) (fun _ h9 => h9) rfl dX6_canDo_53 ?_
      refine gs_getN (host := "WellCourt") (C := RX2) (T := TX2) (N := 5) hx hb hts inX2 hown hK hM 19 0 0 (by decide) rfl rfl (by decide) (va_Nw.use rfl (hov.2.2 _ gn_158)) (fun _ h9 => h9) rfl dX6_canDo_56 ?_
      refine lv_iload_n hx hb dX6_canDo_59 rfl (lv_at hl 3 rfl) ?_
      refine gs_iald hx hb hK hM 20 0 (by decide) rfl (vp_in_iff.mpr ⟨by omega, by omega⟩) dX6_canDo_60 ?_
      refine lv_topi (fun x_16 ex_16 => ?_)
      have qx_16 : x_16.toInt = (st 20 0 (y.toNatClampNeg)).toInt := congrArg Int32.toInt ex_16
      refine gs_calli (va_runV (As := [.ref (ad 25 ((st 38 0 3).toNatClampNeg)), .int x_3, .int x_16]) (rest := []) ⟨hx, hb, hml, hown, hts⟩ (s_X1_isRight l G cy sK sV ad H.size st hB_st.1 x.toNatClampNeg (st 38 0 3) x_3 x_16 x_3.toInt x_16.toInt rfl rfl (Nat.lt_trans h_14 (by decide)) h_15 (by first | decide | omega) (by first | decide | omega) rs hLp.2.1 hLp.2.2.1 hwf) ⟨(gz_cb (n := 3) hts gm_873 gm_7 gm_608 ⟨by decide +kernel, by decide +kernel, by decide +kernel⟩ ⟨Nat.le_of_ble_eq_true rfl, Nat.le_of_ble_eq_true rfl⟩), hts _ gm_606, hts _ gm_607⟩ (gs_preV hK hov hE hI hM hm hS hA 12 x.toNatClampNeg (Nat.lt_trans h_14 (by decide)) rfl rfl) rfl rfl hl.1 rfl (lv_room (Nat.le_of_ble_eq_true rfl)) dX6_canDo_61 ⟨Nat.le_of_ble_eq_true rfl, Nat.le_of_ble_eq_true rfl⟩) hm hS hA (fun r_17 st_17 H locs hw_17 hM hS => ?_)
      obtain ⟨n_17, hw_17⟩ := hw_17
      have n_17 := gBN.nil n_17
      subst n_17
      rcases hw_17 with ⟨rfl, hw_17_0⟩ | ⟨rfl, hw_17_0⟩
      · skip
        refine lv_if_eq (tgt := 71) hx hb dX6_canDo_64 (by decide) (fun h9 => absurd h9 (by decide)) (fun _ => ?_)
        refine lv_iconst (v := 1) hx hb dX6_canDo_67 (by decide) ?_
        refine lv_goto (tgt := 72) hx hb dX6_canDo_68 (by decide) ?_
        exact gs_iret hx hb hr hlocks hM hS (by decide) ⟨hB_st, (Or.inl ⟨rfl, Or.inl ⟨by omega, by omega, (by have h9 := hw_17_0; rw [hp9, show x_16.toInt = (st 20 0 y.toNatClampNeg).toInt from (by omega)] at h9; exact h9)⟩⟩)⟩ (by exact Nat.le_refl _) (by exact Nat.le_refl _) dX6_canDo_72
      · skip
        refine lv_if_eq (tgt := 71) hx hb dX6_canDo_64 (by decide) (fun _ => ?_) (fun h9 => absurd (by decide) h9)
        refine lv_iconst (v := 0) hx hb dX6_canDo_71 (by decide) ?_
        exact gs_iret hx hb hr hlocks hM hS (by decide) ⟨hB_st, (Or.inr ⟨rfl, fun h8 => by rcases h8 with ⟨_, _, h7⟩ | h7 | ⟨h7, _⟩; exact absurd h7 (by have h9 := hw_17_0; rw [hp9, show x_16.toInt = (st 20 0 y.toNatClampNeg).toInt from (by omega)] at h9; exact h9); omega; omega⟩)⟩ (by exact Nat.le_refl _) (by exact Nat.le_refl _) dX6_canDo_72
