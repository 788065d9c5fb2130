theorem gm_30 : (Jvm.Cond.instanceMethod ({ cls := "java/lang/Object", name := "<init>", desc := "()V" } : Jvm.MethodName)) ∈ gz_T := gz_at 30 (by decide +kernel) rfl
theorem gm_31 : (Jvm.Cond.code ({ cls := "java/lang/Object", name := "<init>", desc := "()V" } : Jvm.MethodName) object_method_1_code (1 : Nat) (Option.none : Option Jvm.ClassFile.FieldType)) ∈ gz_T := gz_at 31 (by decide +kernel) rfl
theorem gm_37 : (Jvm.Cond.methodLink "WellCourt$Tape" (3 : Nat) ({ cls := "java/lang/Object", name := "<init>", desc := "()V" } : Jvm.MethodName)) ∈ gz_T := gz_at 37 (by decide +kernel) rfl
theorem gm_46 : (Jvm.Cond.arrayClass Jvm.ClassFile.FieldType.byte) ∈ gz_T := gz_at 46 (by decide +kernel) rfl
theorem gm_52 : (Jvm.Cond.methodLink "WellCourt$Reader" (3 : Nat) ({ cls := "java/lang/Object", name := "<init>", desc := "()V" } : Jvm.MethodName)) ∈ gz_T := gz_at 52 (by decide +kernel) rfl
theorem gm_79 : (Jvm.Cond.methodLink "WellCourt$Land" (3 : Nat) ({ cls := "java/lang/Object", name := "<init>", desc := "()V" } : Jvm.MethodName)) ∈ gz_T := gz_at 79 (by decide +kernel) rfl
theorem gm_80 : (Jvm.Cond.classLink "WellCourt$Land" (18 : Nat) "[[I") ∈ gz_T := gz_at 80 (by decide +kernel) rfl
theorem gm_85 : (Jvm.Cond.fieldLink "WellCourt$Land" (15 : Nat) "WellCourt$Land" "rate" "[I") ∈ gz_T := gz_at 85 (by decide +kernel) rfl
theorem gm_88 : (Jvm.Cond.fieldLink "WellCourt$Land" (20 : Nat) "WellCourt$Land" "wayDays" "[[I") ∈ gz_T := gz_at 88 (by decide +kernel) rfl
theorem gm_98 : (Jvm.Cond.arrayClass Jvm.ClassFile.FieldType.int) ∈ gz_T := gz_at 98 (by decide +kernel) rfl
theorem gm_104 : (Jvm.Cond.methodLink "WellCourt$Calendar" (3 : Nat) ({ cls := "java/lang/Object", name := "<init>", desc := "()V" } : Jvm.MethodName)) ∈ gz_T := gz_at 104 (by decide +kernel) rfl
theorem gm_105 : (Jvm.Cond.classLink "WellCourt$Calendar" (9 : Nat) "[[I") ∈ gz_T := gz_at 105 (by decide +kernel) rfl
theorem gm_106 : (Jvm.Cond.methodLink "WellCourt$Calendar" (16 : Nat) ({ cls := "java/util/Arrays", name := "fill", desc := "([II)V" } : Jvm.MethodName)) ∈ gz_T := gz_at 106 (by decide +kernel) rfl
theorem gm_118 : (Jvm.Cond.methodLink "WellCourt$Day" (3 : Nat) ({ cls := "java/lang/Object", name := "<init>", desc := "()V" } : Jvm.MethodName)) ∈ gz_T := gz_at 118 (by decide +kernel) rfl
theorem gm_119 : (Jvm.Cond.methodLink "WellCourt$Day" (21 : Nat) ({ cls := "java/util/Arrays", name := "fill", desc := "([II)V" } : Jvm.MethodName)) ∈ gz_T := gz_at 119 (by decide +kernel) rfl
theorem gm_139 : (Jvm.Cond.methodLink "WellCourt$Ledger" (3 : Nat) ({ cls := "java/lang/Object", name := "<init>", desc := "()V" } : Jvm.MethodName)) ∈ gz_T := gz_at 139 (by decide +kernel) rfl
theorem gm_140 : (Jvm.Cond.classLink "WellCourt$Ledger" (9 : Nat) "[[I") ∈ gz_T := gz_at 140 (by decide +kernel) rfl
theorem gm_155 : (Jvm.Cond.methodLink "WellCourt$Flock" (3 : Nat) ({ cls := "java/lang/Object", name := "<init>", desc := "()V" } : Jvm.MethodName)) ∈ gz_T := gz_at 155 (by decide +kernel) rfl
theorem gm_156 : (Jvm.Cond.methodLink "WellCourt$Flock" (27 : Nat) ({ cls := "java/util/Arrays", name := "fill", desc := "([II)V" } : Jvm.MethodName)) ∈ gz_T := gz_at 156 (by decide +kernel) rfl
theorem gm_164 : (Jvm.Cond.fieldLink "WellCourt$Flock" (21 : Nat) "WellCourt$Flock" "place" "[I") ∈ gz_T := gz_at 164 (by decide +kernel) rfl
theorem gm_167 : (Jvm.Cond.fieldLink "WellCourt$Flock" (24 : Nat) "WellCourt$Flock" "drank" "[I") ∈ gz_T := gz_at 167 (by decide +kernel) rfl
theorem gm_186 : (Jvm.Cond.methodLink "WellCourt$Law" (3 : Nat) ({ cls := "java/lang/Object", name := "<init>", desc := "()V" } : Jvm.MethodName)) ∈ gz_T := gz_at 186 (by decide +kernel) rfl
theorem gm_187 : (Jvm.Cond.classLink "WellCourt$Law" (15 : Nat) "[[I") ∈ gz_T := gz_at 187 (by decide +kernel) rfl
theorem dX0_init_0 : decode cX0_init 0 = .ok (.aload_n 0, 1) := by decide +kernel
theorem dX0_init_1 : decode cX0_init 1 = .ok (.invokespecial 3, 3) := by decide +kernel
theorem dX0_init_4 : decode cX0_init 4 = .ok (.aload_n 0, 1) := by decide +kernel
theorem dX0_init_5 : decode cX0_init 5 = .ok (.bipush 6, 2) := by decide +kernel
theorem dX0_init_7 : decode cX0_init 7 = .ok (.sipush 200, 3) := by decide +kernel
theorem dX0_init_10 : decode cX0_init 10 = .ok (.multianewarray 9 2, 4) := by decide +kernel
theorem dX0_init_14 : decode cX0_init 14 = .ok (.putfield 11, 3) := by decide +kernel
theorem dX0_init_17 : decode cX0_init 17 = .ok (.iconst 0, 1) := by decide +kernel
theorem dX0_init_18 : decode cX0_init 18 = .ok (.istore_n 1, 1) := by decide +kernel
theorem dX0_init_19 : decode cX0_init 19 = .ok (.iload_n 1, 1) := by decide +kernel
theorem dX0_init_20 : decode cX0_init 20 = .ok (.bipush 6, 2) := by decide +kernel
theorem dX0_init_22 : decode cX0_init 22 = .ok (.if_icmp .ge 19, 3) := by decide +kernel
theorem dX0_init_25 : decode cX0_init 25 = .ok (.aload_n 0, 1) := by decide +kernel
theorem dX0_init_26 : decode cX0_init 26 = .ok (.getfield 11, 3) := by decide +kernel
theorem dX0_init_29 : decode cX0_init 29 = .ok (.iload_n 1, 1) := by decide +kernel
theorem dX0_init_30 : decode cX0_init 30 = .ok (.aaload, 1) := by decide +kernel
theorem dX0_init_31 : decode cX0_init 31 = .ok (.iconst (-1), 1) := by decide +kernel
theorem dX0_init_32 : decode cX0_init 32 = .ok (.invokestatic 16, 3) := by decide +kernel
theorem dX0_init_35 : decode cX0_init 35 = .ok (.iinc 1 1, 3) := by decide +kernel
theorem dX0_init_38 : decode cX0_init 38 = .ok (.goto (-19), 3) := by decide +kernel
theorem dX0_init_41 : decode cX0_init 41 = .ok (.return_, 1) := by decide +kernel
theorem dX1_init_0 : decode cX1_init 0 = .ok (.aload_n 0, 1) := by decide +kernel
theorem dX1_init_1 : decode cX1_init 1 = .ok (.invokespecial 3, 3) := by decide +kernel
theorem dX1_init_4 : decode cX1_init 4 = .ok (.aload_n 0, 1) := by decide +kernel
theorem dX1_init_5 : decode cX1_init 5 = .ok (.bipush 6, 2) := by decide +kernel
theorem dX1_init_7 : decode cX1_init 7 = .ok (.newarray .int, 2) := by decide +kernel
theorem dX1_init_9 : decode cX1_init 9 = .ok (.putfield 9, 3) := by decide +kernel
theorem dX1_init_12 : decode cX1_init 12 = .ok (.aload_n 0, 1) := by decide +kernel
theorem dX1_init_13 : decode cX1_init 13 = .ok (.bipush 6, 2) := by decide +kernel
theorem dX1_init_15 : decode cX1_init 15 = .ok (.newarray .int, 2) := by decide +kernel
theorem dX1_init_17 : decode cX1_init 17 = .ok (.putfield 15, 3) := by decide +kernel
theorem dX1_init_20 : decode cX1_init 20 = .ok (.aload_n 0, 1) := by decide +kernel
theorem dX1_init_21 : decode cX1_init 21 = .ok (.bipush 6, 2) := by decide +kernel
theorem dX1_init_23 : decode cX1_init 23 = .ok (.newarray .int, 2) := by decide +kernel
theorem dX1_init_25 : decode cX1_init 25 = .ok (.putfield 18, 3) := by decide +kernel
theorem dX1_init_28 : decode cX1_init 28 = .ok (.aload_n 0, 1) := by decide +kernel
theorem dX1_init_29 : decode cX1_init 29 = .ok (.getfield 15, 3) := by decide +kernel
theorem dX1_init_32 : decode cX1_init 32 = .ok (.iconst (-1), 1) := by decide +kernel
theorem dX1_init_33 : decode cX1_init 33 = .ok (.invokestatic 21, 3) := by decide +kernel
theorem dX1_init_36 : decode cX1_init 36 = .ok (.aload_n 0, 1) := by decide +kernel
theorem dX1_init_37 : decode cX1_init 37 = .ok (.getfield 18, 3) := by decide +kernel
theorem dX1_init_40 : decode cX1_init 40 = .ok (.iconst (-1), 1) := by decide +kernel
theorem dX1_init_41 : decode cX1_init 41 = .ok (.invokestatic 21, 3) := by decide +kernel
theorem dX1_init_44 : decode cX1_init 44 = .ok (.return_, 1) := by decide +kernel
theorem dX2_init_0 : decode cX2_init 0 = .ok (.aload_n 0, 1) := by decide +kernel
theorem dX2_init_1 : decode cX2_init 1 = .ok (.invokespecial 3, 3) := by decide +kernel
theorem dX2_init_4 : decode cX2_init 4 = .ok (.aload_n 0, 1) := by decide +kernel
theorem dX2_init_5 : decode cX2_init 5 = .ok (.iconst 4, 1) := by decide +kernel
theorem dX2_init_6 : decode cX2_init 6 = .ok (.newarray .int, 2) := by decide +kernel
theorem dX2_init_8 : decode cX2_init 8 = .ok (.putfield 9, 3) := by decide +kernel
theorem dX2_init_11 : decode cX2_init 11 = .ok (.aload_n 0, 1) := by decide +kernel
theorem dX2_init_12 : decode cX2_init 12 = .ok (.iconst 4, 1) := by decide +kernel
theorem dX2_init_13 : decode cX2_init 13 = .ok (.newarray .int, 2) := by decide +kernel
theorem dX2_init_15 : decode cX2_init 15 = .ok (.putfield 15, 3) := by decide +kernel
theorem dX2_init_18 : decode cX2_init 18 = .ok (.aload_n 0, 1) := by decide +kernel
theorem dX2_init_19 : decode cX2_init 19 = .ok (.iconst 4, 1) := by decide +kernel
theorem dX2_init_20 : decode cX2_init 20 = .ok (.newarray .int, 2) := by decide +kernel
theorem dX2_init_22 : decode cX2_init 22 = .ok (.putfield 18, 3) := by decide +kernel
theorem dX2_init_25 : decode cX2_init 25 = .ok (.aload_n 0, 1) := by decide +kernel
theorem dX2_init_26 : decode cX2_init 26 = .ok (.iconst 4, 1) := by decide +kernel
theorem dX2_init_27 : decode cX2_init 27 = .ok (.newarray .int, 2) := by decide +kernel
theorem dX2_init_29 : decode cX2_init 29 = .ok (.putfield 21, 3) := by decide +kernel
theorem dX2_init_32 : decode cX2_init 32 = .ok (.aload_n 0, 1) := by decide +kernel
theorem dX2_init_33 : decode cX2_init 33 = .ok (.iconst 4, 1) := by decide +kernel
theorem dX2_init_34 : decode cX2_init 34 = .ok (.newarray .int, 2) := by decide +kernel
theorem dX2_init_36 : decode cX2_init 36 = .ok (.putfield 24, 3) := by decide +kernel
theorem dX2_init_39 : decode cX2_init 39 = .ok (.aload_n 0, 1) := by decide +kernel
theorem dX2_init_40 : decode cX2_init 40 = .ok (.getfield 9, 3) := by decide +kernel
theorem dX2_init_43 : decode cX2_init 43 = .ok (.iconst (-1), 1) := by decide +kernel
theorem dX2_init_44 : decode cX2_init 44 = .ok (.invokestatic 27, 3) := by decide +kernel
theorem dX2_init_47 : decode cX2_init 47 = .ok (.return_, 1) := by decide +kernel
theorem dX3_init_0 : decode cX3_init 0 = .ok (.aload_n 0, 1) := by decide +kernel
theorem dX3_init_1 : decode cX3_init 1 = .ok (.invokespecial 3, 3) := by decide +kernel
theorem dX3_init_4 : decode cX3_init 4 = .ok (.aload_n 0, 1) := by decide +kernel
theorem dX3_init_5 : decode cX3_init 5 = .ok (.bipush 6, 2) := by decide +kernel
theorem dX3_init_7 : decode cX3_init 7 = .ok (.newarray .int, 2) := by decide +kernel
theorem dX3_init_9 : decode cX3_init 9 = .ok (.putfield 9, 3) := by decide +kernel
theorem dX3_init_12 : decode cX3_init 12 = .ok (.aload_n 0, 1) := by decide +kernel
theorem dX3_init_13 : decode cX3_init 13 = .ok (.bipush 6, 2) := by decide +kernel
theorem dX3_init_15 : decode cX3_init 15 = .ok (.newarray .int, 2) := by decide +kernel
theorem dX3_init_17 : decode cX3_init 17 = .ok (.putfield 15, 3) := by decide +kernel
theorem dX3_init_20 : decode cX3_init 20 = .ok (.aload_n 0, 1) := by decide +kernel
theorem dX3_init_21 : decode cX3_init 21 = .ok (.bipush 6, 2) := by decide +kernel
theorem dX3_init_23 : decode cX3_init 23 = .ok (.bipush 6, 2) := by decide +kernel
theorem dX3_init_25 : decode cX3_init 25 = .ok (.multianewarray 18 2, 4) := by decide +kernel
theorem dX3_init_29 : decode cX3_init 29 = .ok (.putfield 20, 3) := by decide +kernel
theorem dX3_init_32 : decode cX3_init 32 = .ok (.return_, 1) := by decide +kernel
theorem dX4_init_0 : decode cX4_init 0 = .ok (.aload_n 0, 1) := by decide +kernel
theorem dX4_init_1 : decode cX4_init 1 = .ok (.invokespecial 3, 3) := by decide +kernel
theorem dX4_init_4 : decode cX4_init 4 = .ok (.aload_n 0, 1) := by decide +kernel
theorem dX4_init_5 : decode cX4_init 5 = .ok (.iconst 0, 1) := by decide +kernel
theorem dX4_init_6 : decode cX4_init 6 = .ok (.putfield 9, 3) := by decide +kernel
theorem dX4_init_9 : decode cX4_init 9 = .ok (.aload_n 0, 1) := by decide +kernel
theorem dX4_init_10 : decode cX4_init 10 = .ok (.bipush 6, 2) := by decide +kernel
theorem dX4_init_12 : decode cX4_init 12 = .ok (.bipush 72, 2) := by decide +kernel
theorem dX4_init_14 : decode cX4_init 14 = .ok (.multianewarray 15 2, 4) := by decide +kernel
theorem dX4_init_18 : decode cX4_init 18 = .ok (.putfield 17, 3) := by decide +kernel
theorem dX4_init_21 : decode cX4_init 21 = .ok (.aload_n 0, 1) := by decide +kernel
theorem dX4_init_22 : decode cX4_init 22 = .ok (.bipush 6, 2) := by decide +kernel
theorem dX4_init_24 : decode cX4_init 24 = .ok (.newarray .int, 2) := by decide +kernel
theorem dX4_init_26 : decode cX4_init 26 = .ok (.putfield 20, 3) := by decide +kernel
theorem dX4_init_29 : decode cX4_init 29 = .ok (.aload_n 0, 1) := by decide +kernel
theorem dX4_init_30 : decode cX4_init 30 = .ok (.bipush 6, 2) := by decide +kernel
theorem dX4_init_32 : decode cX4_init 32 = .ok (.newarray .int, 2) := by decide +kernel
theorem dX4_init_34 : decode cX4_init 34 = .ok (.putfield 24, 3) := by decide +kernel
theorem dX4_init_37 : decode cX4_init 37 = .ok (.aload_n 0, 1) := by decide +kernel
theorem dX4_init_38 : decode cX4_init 38 = .ok (.bipush 6, 2) := by decide +kernel
theorem dX4_init_40 : decode cX4_init 40 = .ok (.newarray .int, 2) := by decide +kernel
theorem dX4_init_42 : decode cX4_init 42 = .ok (.putfield 27, 3) := by decide +kernel
theorem dX4_init_45 : decode cX4_init 45 = .ok (.aload_n 0, 1) := by decide +kernel
theorem dX4_init_46 : decode cX4_init 46 = .ok (.iconst 0, 1) := by decide +kernel
theorem dX4_init_47 : decode cX4_init 47 = .ok (.putfield 30, 3) := by decide +kernel
theorem dX4_init_50 : decode cX4_init 50 = .ok (.aload_n 0, 1) := by decide +kernel
theorem dX4_init_51 : decode cX4_init 51 = .ok (.bipush 20, 2) := by decide +kernel
theorem dX4_init_53 : decode cX4_init 53 = .ok (.newarray .int, 2) := by decide +kernel
theorem dX4_init_55 : decode cX4_init 55 = .ok (.putfield 33, 3) := by decide +kernel
theorem dX4_init_58 : decode cX4_init 58 = .ok (.aload_n 0, 1) := by decide +kernel
theorem dX4_init_59 : decode cX4_init 59 = .ok (.bipush 20, 2) := by decide +kernel
theorem dX4_init_61 : decode cX4_init 61 = .ok (.newarray .int, 2) := by decide +kernel
theorem dX4_init_63 : decode cX4_init 63 = .ok (.putfield 36, 3) := by decide +kernel
theorem dX4_init_66 : decode cX4_init 66 = .ok (.aload_n 0, 1) := by decide +kernel
theorem dX4_init_67 : decode cX4_init 67 = .ok (.bipush 20, 2) := by decide +kernel
theorem dX4_init_69 : decode cX4_init 69 = .ok (.newarray .int, 2) := by decide +kernel
theorem dX4_init_71 : decode cX4_init 71 = .ok (.putfield 39, 3) := by decide +kernel
theorem dX4_init_74 : decode cX4_init 74 = .ok (.aload_n 0, 1) := by decide +kernel
theorem dX4_init_75 : decode cX4_init 75 = .ok (.iconst 0, 1) := by decide +kernel
theorem dX4_init_76 : decode cX4_init 76 = .ok (.putfield 42, 3) := by decide +kernel
theorem dX4_init_79 : decode cX4_init 79 = .ok (.aload_n 0, 1) := by decide +kernel
theorem dX4_init_80 : decode cX4_init 80 = .ok (.bipush 20, 2) := by decide +kernel
theorem dX4_init_82 : decode cX4_init 82 = .ok (.newarray .int, 2) := by decide +kernel
theorem dX4_init_84 : decode cX4_init 84 = .ok (.putfield 45, 3) := by decide +kernel
theorem dX4_init_87 : decode cX4_init 87 = .ok (.aload_n 0, 1) := by decide +kernel
theorem dX4_init_88 : decode cX4_init 88 = .ok (.bipush 20, 2) := by decide +kernel
theorem dX4_init_90 : decode cX4_init 90 = .ok (.newarray .int, 2) := by decide +kernel
theorem dX4_init_92 : decode cX4_init 92 = .ok (.putfield 48, 3) := by decide +kernel
theorem dX4_init_95 : decode cX4_init 95 = .ok (.aload_n 0, 1) := by decide +kernel
theorem dX4_init_96 : decode cX4_init 96 = .ok (.bipush 20, 2) := by decide +kernel
theorem dX4_init_98 : decode cX4_init 98 = .ok (.newarray .int, 2) := by decide +kernel
theorem dX4_init_100 : decode cX4_init 100 = .ok (.putfield 51, 3) := by decide +kernel
theorem dX4_init_103 : decode cX4_init 103 = .ok (.aload_n 0, 1) := by decide +kernel
theorem dX4_init_104 : decode cX4_init 104 = .ok (.bipush 20, 2) := by decide +kernel
theorem dX4_init_106 : decode cX4_init 106 = .ok (.newarray .int, 2) := by decide +kernel
theorem dX4_init_108 : decode cX4_init 108 = .ok (.putfield 54, 3) := by decide +kernel
theorem dX4_init_111 : decode cX4_init 111 = .ok (.return_, 1) := by decide +kernel
theorem dX5_init_0 : decode cX5_init 0 = .ok (.aload_n 0, 1) := by decide +kernel
theorem dX5_init_1 : decode cX5_init 1 = .ok (.invokespecial 3, 3) := by decide +kernel
theorem dX5_init_4 : decode cX5_init 4 = .ok (.aload_n 0, 1) := by decide +kernel
theorem dX5_init_5 : decode cX5_init 5 = .ok (.bipush 6, 2) := by decide +kernel
theorem dX5_init_7 : decode cX5_init 7 = .ok (.sipush 300, 3) := by decide +kernel
theorem dX5_init_10 : decode cX5_init 10 = .ok (.multianewarray 9 2, 4) := by decide +kernel
theorem dX5_init_14 : decode cX5_init 14 = .ok (.putfield 11, 3) := by decide +kernel
theorem dX5_init_17 : decode cX5_init 17 = .ok (.aload_n 0, 1) := by decide +kernel
theorem dX5_init_18 : decode cX5_init 18 = .ok (.iconst 0, 1) := by decide +kernel
theorem dX5_init_19 : decode cX5_init 19 = .ok (.putfield 16, 3) := by decide +kernel
theorem dX5_init_22 : decode cX5_init 22 = .ok (.return_, 1) := by decide +kernel
theorem dX7_init_0 : decode cX7_init 0 = .ok (.aload_n 0, 1) := by decide +kernel
theorem dX7_init_1 : decode cX7_init 1 = .ok (.invokespecial 3, 3) := by decide +kernel
theorem dX7_init_4 : decode cX7_init 4 = .ok (.aload_n 0, 1) := by decide +kernel
theorem dX7_init_5 : decode cX7_init 5 = .ok (.iconst 0, 1) := by decide +kernel
theorem dX7_init_6 : decode cX7_init 6 = .ok (.putfield 11, 3) := by decide +kernel
theorem dX7_init_9 : decode cX7_init 9 = .ok (.aload_n 0, 1) := by decide +kernel
theorem dX7_init_10 : decode cX7_init 10 = .ok (.iconst 0, 1) := by decide +kernel
theorem dX7_init_11 : decode cX7_init 11 = .ok (.putfield 15, 3) := by decide +kernel
theorem dX7_init_14 : decode cX7_init 14 = .ok (.aload_n 0, 1) := by decide +kernel
theorem dX7_init_15 : decode cX7_init 15 = .ok (.iconst 0, 1) := by decide +kernel
theorem dX7_init_16 : decode cX7_init 16 = .ok (.putfield 18, 3) := by decide +kernel
theorem dX7_init_19 : decode cX7_init 19 = .ok (.aload_n 0, 1) := by decide +kernel
theorem dX7_init_20 : decode cX7_init 20 = .ok (.iconst 0, 1) := by decide +kernel
theorem dX7_init_21 : decode cX7_init 21 = .ok (.putfield 21, 3) := by decide +kernel
theorem dX7_init_24 : decode cX7_init 24 = .ok (.aload_n 0, 1) := by decide +kernel
theorem dX7_init_25 : decode cX7_init 25 = .ok (.iconst 0, 1) := by decide +kernel
theorem dX7_init_26 : decode cX7_init 26 = .ok (.putfield 24, 3) := by decide +kernel
theorem dX7_init_29 : decode cX7_init 29 = .ok (.aload_n 0, 1) := by decide +kernel
theorem dX7_init_30 : decode cX7_init 30 = .ok (.aload_n 1, 1) := by decide +kernel
theorem dX7_init_31 : decode cX7_init 31 = .ok (.putfield 27, 3) := by decide +kernel
theorem dX7_init_34 : decode cX7_init 34 = .ok (.return_, 1) := by decide +kernel
theorem dX8_init_0 : decode cX8_init 0 = .ok (.aload_n 0, 1) := by decide +kernel
theorem dX8_init_1 : decode cX8_init 1 = .ok (.invokespecial 3, 3) := by decide +kernel
theorem dX8_init_4 : decode cX8_init 4 = .ok (.aload_n 0, 1) := by decide +kernel
theorem dX8_init_5 : decode cX8_init 5 = .ok (.sipush 800, 3) := by decide +kernel
theorem dX8_init_8 : decode cX8_init 8 = .ok (.newarray .byte, 2) := by decide +kernel
theorem dX8_init_10 : decode cX8_init 10 = .ok (.putfield 9, 3) := by decide +kernel
theorem dX8_init_13 : decode cX8_init 13 = .ok (.aload_n 0, 1) := by decide +kernel
theorem dX8_init_14 : decode cX8_init 14 = .ok (.iconst 0, 1) := by decide +kernel
theorem dX8_init_15 : decode cX8_init 15 = .ok (.putfield 15, 3) := by decide +kernel
theorem dX8_init_18 : decode cX8_init 18 = .ok (.return_, 1) := by decide +kernel
set_option maxHeartbeats 4000000 in
set_option maxRecDepth 100000 in
/-- WellCourt$Tape.<init> -/
theorem c_Tape_init (l : Launch) (G : va_G) (cy : Nat → ClassId) (sz : Nat) (h0 : Nat)  : gMv l yX8_init cX8_init 1 ({ frames := 1, cells := 1, slots := 800, locals := 20 }) G cy sz [.ref h0] [(h0, .inr (8, [.null, .int 0]))] (fun (u : Nat → Nat → Nat) => True) (fun (u : Nat → Nat → Nat) => [(h0, .inr (8, [.ref (u 0 0), .int 0])), ((u 0 0), .inl (cy 1, 800, .inl (fun _ => 0)))]) := by
  refine gz_start (fun A => gQv G cy _ _ A) (by decide) (Nat.le_of_ble_eq_true rfl) ?_
  intro p e s m below meth c A ls H hx hb hr hml hlocks hin hown hts hK hov hsz hP hD hS hA hl
  have hl : lv_has ls 1 [(0, .ref h0)] := hl
  refine lv_aload_n hx hb dX8_init_0 rfl (lv_at hl 0 rfl) ?_
  refine W.objInit hx hb hown (hts _ gm_37) (hts _ gm_30) (hts _ gm_31) rfl (by rw [hml]; exact hl.1) rfl dX8_init_1 (Nat.le_of_ble_eq_true rfl) (Nat.le_of_ble_eq_true rfl) ?_
  refine W.eq (g2 := F0 m 4 ls []) rfl ?_
  refine lv_aload_n hx hb dX8_init_4 rfl (lv_at hl 0 rfl) ?_
  refine lv_sipush (v := 800) hx hb dX8_init_5 (by decide) ?_
  refine gz_newa (atype := .byte) (t0 := 1) (a0 := (800, .inl (fun _ => 0))) hx hb rfl (fun _ _ h9 => h9) (hts _ gm_46) rfl hK hP hD hS hA (fun _ => rfl) (by decide) (by decide) (Nat.le_of_ble_eq_true rfl) (Nat.le_of_ble_eq_true rfl) (Nat.le_of_ble_eq_true rfl) dX8_init_8 (fun q_1 H hP hD hS => ?_)
  have hP : va_P G vwCl [(h0, .inr (8, [.null, .int 0])), (q_1, .inl (cy 1, 800, .inl (fun _ => 0)))] H := hP
  have hD : va_D A [(h0, .inr (8, [.null, .int 0])), (q_1, .inl (cy 1, 800, .inl (fun _ => 0)))] := hD
  refine W.widen (k := 1) (n := 800) (Nat.le_of_ble_eq_true rfl) (Nat.le_of_ble_eq_true rfl) ?_
  refine va_putF (ci := 8) (v := .ref q_1) (ty := .array .byte) (C := RX8) (T := TX8) (N := 2) hx hb hts inX8 tyX8 tyX8_ok nmX8 hown hK hP hD hS 0 rfl rfl 0 (by decide) (hts _ gm_38) (fun _ h9 => h9) rfl hin rfl (by decide +kernel) rfl rfl (Nat.le_of_ble_eq_true rfl) dX8_init_10 (fun H locs hP hD hS => ?_)
  have hP : va_P G vwCl [(h0, .inr (8, [.ref q_1, .int 0])), (q_1, .inl (cy 1, 800, .inl (fun _ => 0)))] H := hP
  have hD : va_D A [(h0, .inr (8, [.ref q_1, .int 0])), (q_1, .inl (cy 1, 800, .inl (fun _ => 0)))] := hD
  refine lv_aload_n hx hb dX8_init_13 rfl (lv_at hl 0 rfl) ?_
  refine lv_iconst (v := 0) hx hb dX8_init_14 (by decide) ?_
  refine va_put (ci := 8) (v := .int 0) (ty := .int) (C := RX8) (T := TX8) (N := 2) hx hb hts inX8 tyX8 tyX8_ok nmX8 hown hK hP hD hS 0 rfl rfl 1 (by decide) (hts _ gm_39) (fun _ h9 => h9) rfl (by decide +kernel) rfl rfl (Nat.le_of_ble_eq_true rfl) dX8_init_15 (fun H locs hP hD hS => ?_)
  have hP : va_P G vwCl [(h0, .inr (8, [.ref q_1, .int 0])), (q_1, .inl (cy 1, 800, .inl (fun _ => 0)))] H := hP
  have hD : va_D A [(h0, .inr (8, [.ref q_1, .int 0])), (q_1, .inl (cy 1, 800, .inl (fun _ => 0)))] := hD
  exact gz_vret (p := p) (l := l) (e := e) (s := s) (m := m) (below := below) (meth := meth) (c := c) (H := H) (cells := 1) (slots := 800) (mc := 1) (ms := 800) (cf := (fun (u : Nat → Nat → Nat) => [(h0, .inr (8, [.ref (u 0 0), .int 0])), ((u 0 0), .inl (cy 1, 800, .inl (fun _ => 0)))])) (post := (fun (u : Nat → Nat → Nat) => True)) hx hb hr hlocks hK hP hD hS (fun a => match a with | 0 => (fun k => match k with | 0 => q_1 | _ => 0)  | _ => fun _ => 0) [0, 1] trivial (by decide) rfl (by exact Nat.le_of_ble_eq_true rfl) (by exact Nat.le_of_ble_eq_true rfl) dX8_init_18

set_option maxHeartbeats 4000000 in
set_option maxRecDepth 100000 in
/-- WellCourt$Reader.<init> -/
theorem c_Reader_init (l : Launch) (G : va_G) (cy : Nat → ClassId) (sz : Nat) (h0 : Nat) (h1 : Nat)  : gMv l yX7_init cX7_init 2 ({ frames := 1, cells := 0, slots := 0, locals := 20 }) G cy sz [.ref h0, .ref h1] [(h0, .inr (7, [.null, .int 0, .int 0, .int 0, .int 0, .int 0]))] (fun (u : Nat → Nat → Nat) => True) (fun (u : Nat → Nat → Nat) => [(h0, .inr (7, [.ref h1, .int 0, .int 0, .int 0, .int 0, .int 0]))]) := by
  refine gz_start (fun A => gQv G cy _ _ A) (by decide) (Nat.le_of_ble_eq_true rfl) ?_
  intro p e s m below meth c A ls H hx hb hr hml hlocks hin hown hts hK hov hsz hP hD hS hA hl
  have hl : lv_has ls 2 [(0, .ref h0), (1, .ref h1)] := hl
  refine lv_aload_n hx hb dX7_init_0 rfl (lv_at hl 0 rfl) ?_
  refine W.objInit hx hb hown (hts _ gm_52) (hts _ gm_30) (hts _ gm_31) rfl (by rw [hml]; exact hl.1) rfl dX7_init_1 (Nat.le_of_ble_eq_true rfl) (Nat.le_of_ble_eq_true rfl) ?_
  refine W.eq (g2 := F0 m 4 ls []) rfl ?_
  refine lv_aload_n hx hb dX7_init_4 rfl (lv_at hl 0 rfl) ?_
  refine lv_iconst (v := 0) hx hb dX7_init_5 (by decide) ?_
  refine va_put (ci := 7) (v := .int 0) (ty := .int) (C := RX7) (T := TX7) (N := 6) hx hb hts inX7 tyX7 tyX7_ok nmX7 hown hK hP hD hS 0 rfl rfl 1 (by decide) (hts _ gm_54) (fun _ h9 => h9) rfl (by decide +kernel) rfl rfl (Nat.le_of_ble_eq_true rfl) dX7_init_6 (fun H locs hP hD hS => ?_)
  have hP : va_P G vwCl [(h0, .inr (7, [.null, .int 0, .int 0, .int 0, .int 0, .int 0]))] H := hP
  have hD : va_D A [(h0, .inr (7, [.null, .int 0, .int 0, .int 0, .int 0, .int 0]))] := hD
  refine lv_aload_n hx hb dX7_init_9 rfl (lv_at hl 0 rfl) ?_
  refine lv_iconst (v := 0) hx hb dX7_init_10 (by decide) ?_
  refine va_put (ci := 7) (v := .int 0) (ty := .int) (C := RX7) (T := TX7) (N := 6) hx hb hts inX7 tyX7 tyX7_ok nmX7 hown hK hP hD hS 0 rfl rfl 2 (by decide) (hts _ gm_55) (fun _ h9 => h9) rfl (by decide +kernel) rfl rfl (Nat.le_of_ble_eq_true rfl) dX7_init_11 (fun H locs hP hD hS => ?_)
  have hP : va_P G vwCl [(h0, .inr (7, [.null, .int 0, .int 0, .int 0, .int 0, .int 0]))] H := hP
  have hD : va_D A [(h0, .inr (7, [.null, .int 0, .int 0, .int 0, .int 0, .int 0]))] := hD
  refine lv_aload_n hx hb dX7_init_14 rfl (lv_at hl 0 rfl) ?_
  refine lv_iconst (v := 0) hx hb dX7_init_15 (by decide) ?_
  refine va_put (ci := 7) (v := .int 0) (ty := .int) (C := RX7) (T := TX7) (N := 6) hx hb hts inX7 tyX7 tyX7_ok nmX7 hown hK hP hD hS 0 rfl rfl 3 (by decide) (hts _ gm_56) (fun _ h9 => h9) rfl (by decide +kernel) rfl rfl (Nat.le_of_ble_eq_true rfl) dX7_init_16 (fun H locs hP hD hS => ?_)
  have hP : va_P G vwCl [(h0, .inr (7, [.null, .int 0, .int 0, .int 0, .int 0, .int 0]))] H := hP
  have hD : va_D A [(h0, .inr (7, [.null, .int 0, .int 0, .int 0, .int 0, .int 0]))] := hD
  refine lv_aload_n hx hb dX7_init_19 rfl (lv_at hl 0 rfl) ?_
  refine lv_iconst (v := 0) hx hb dX7_init_20 (by decide) ?_
  refine va_put (ci := 7) (v := .int 0) (ty := .int) (C := RX7) (T := TX7) (N := 6) hx hb hts inX7 tyX7 tyX7_ok nmX7 hown hK hP hD hS 0 rfl rfl 4 (by decide) (hts _ gm_57) (fun _ h9 => h9) rfl (by decide +kernel) rfl rfl (Nat.le_of_ble_eq_true rfl) dX7_init_21 (fun H locs hP hD hS => ?_)
  have hP : va_P G vwCl [(h0, .inr (7, [.null, .int 0, .int 0, .int 0, .int 0, .int 0]))] H := hP
  have hD : va_D A [(h0, .inr (7, [.null, .int 0, .int 0, .int 0, .int 0, .int 0]))] := hD
  refine lv_aload_n hx hb dX7_init_24 rfl (lv_at hl 0 rfl) ?_
  refine lv_iconst (v := 0) hx hb dX7_init_25 (by decide) ?_
  refine va_put (ci := 7) (v := .int 0) (ty := .int) (C := RX7) (T := TX7) (N := 6) hx hb hts inX7 tyX7 tyX7_ok nmX7 hown hK hP hD hS 0 rfl rfl 5 (by decide) (hts _ gm_59) (fun _ h9 => h9) rfl (by decide +kernel) rfl rfl (Nat.le_of_ble_eq_true rfl) dX7_init_26 (fun H locs hP hD hS => ?_)
  have hP : va_P G vwCl [(h0, .inr (7, [.null, .int 0, .int 0, .int 0, .int 0, .int 0]))] H := hP
  have hD : va_D A [(h0, .inr (7, [.null, .int 0, .int 0, .int 0, .int 0, .int 0]))] := hD
  refine lv_aload_n hx hb dX7_init_29 rfl (lv_at hl 0 rfl) ?_
  refine lv_aload_n hx hb dX7_init_30 rfl (lv_at hl 1 rfl) ?_
  refine va_putF (ci := 7) (v := .ref h1) (ty := .object "WellCourt$Tape") (C := RX7) (T := TX7) (N := 6) hx hb hts inX7 tyX7 tyX7_ok nmX7 hown hK hP hD hS 0 rfl rfl 0 (by decide) (hts _ gm_53) (fun _ h9 => h9) rfl hin rfl (by decide +kernel) rfl rfl (Nat.le_of_ble_eq_true rfl) dX7_init_31 (fun H locs hP hD hS => ?_)
  have hP : va_P G vwCl [(h0, .inr (7, [.ref h1, .int 0, .int 0, .int 0, .int 0, .int 0]))] H := hP
  have hD : va_D A [(h0, .inr (7, [.ref h1, .int 0, .int 0, .int 0, .int 0, .int 0]))] := hD
  exact gz_vret (p := p) (l := l) (e := e) (s := s) (m := m) (below := below) (meth := meth) (c := c) (H := H) (cells := 0) (slots := 0) (mc := 0) (ms := 0) (cf := (fun (u : Nat → Nat → Nat) => [(h0, .inr (7, [.ref h1, .int 0, .int 0, .int 0, .int 0, .int 0]))])) (post := (fun (u : Nat → Nat → Nat) => True)) hx hb hr hlocks hK hP hD hS (fun _ _ => 0) [0] trivial (by decide) rfl (by exact Nat.le_of_ble_eq_true rfl) (by exact Nat.le_of_ble_eq_true rfl) dX7_init_34

set_option maxHeartbeats 4000000 in
set_option maxRecDepth 100000 in
/-- WellCourt$Land.<init> -/
theorem c_Land_init (l : Launch) (G : va_G) (cy : Nat → ClassId) (sz : Nat) (h0 : Nat)  : gMv l yX3_init cX3_init 1 ({ frames := 1, cells := 9, slots := 54, locals := 20 }) G cy sz [.ref h0] [(h0, .inr (3, [.null, .null, .null]))] (fun (u : Nat → Nat → Nat) => True) (fun (u : Nat → Nat → Nat) => [(h0, .inr (3, [.ref (u 0 0), .ref (u 0 1), .ref (u 0 2)])), ((u 0 0), .inl (cy 0, 6, .inl (fun _ => 0))), ((u 0 1), .inl (cy 0, 6, .inl (fun _ => 0))), ((u 0 2), .inl (cy 3, 6, .inr (.inr (.inr (.inr (fun i => if i < 6 then some ((u 1) i) else none)))))), (((u 1) 0), .inl (cy 0, 6, .inl (fun _ => 0))), (((u 1) 1), .inl (cy 0, 6, .inl (fun _ => 0))), (((u 1) 2), .inl (cy 0, 6, .inl (fun _ => 0))), (((u 1) 3), .inl (cy 0, 6, .inl (fun _ => 0))), (((u 1) 4), .inl (cy 0, 6, .inl (fun _ => 0))), (((u 1) 5), .inl (cy 0, 6, .inl (fun _ => 0)))]) := by
  refine gz_start (fun A => gQv G cy _ _ A) (by decide) (Nat.le_of_ble_eq_true rfl) ?_
  intro p e s m below meth c A ls H hx hb hr hml hlocks hin hown hts hK hov hsz hP hD hS hA hl
  have hl : lv_has ls 1 [(0, .ref h0)] := hl
  refine lv_aload_n hx hb dX3_init_0 rfl (lv_at hl 0 rfl) ?_
  refine W.objInit hx hb hown (hts _ gm_79) (hts _ gm_30) (hts _ gm_31) rfl (by rw [hml]; exact hl.1) rfl dX3_init_1 (Nat.le_of_ble_eq_true rfl) (Nat.le_of_ble_eq_true rfl) ?_
  refine W.eq (g2 := F0 m 4 ls []) rfl ?_
  refine lv_aload_n hx hb dX3_init_4 rfl (lv_at hl 0 rfl) ?_
  refine lv_bipush (v := 6) hx hb dX3_init_5 (by decide) ?_
  refine gz_newa (atype := .int) (t0 := 0) (a0 := (6, .inl (fun _ => 0))) hx hb rfl (fun _ _ h9 => h9) (hts _ gm_98) rfl hK hP hD hS hA (fun _ => rfl) (by decide) (by decide) (Nat.le_of_ble_eq_true rfl) (Nat.le_of_ble_eq_true rfl) (Nat.le_of_ble_eq_true rfl) dX3_init_7 (fun q_1 H hP hD hS => ?_)
  have hP : va_P G vwCl [(h0, .inr (3, [.null, .null, .null])), (q_1, .inl (cy 0, 6, .inl (fun _ => 0)))] H := hP
  have hD : va_D A [(h0, .inr (3, [.null, .null, .null])), (q_1, .inl (cy 0, 6, .inl (fun _ => 0)))] := hD
  refine W.widen (k := 1) (n := 6) (Nat.le_of_ble_eq_true rfl) (Nat.le_of_ble_eq_true rfl) ?_
  refine va_putF (ci := 3) (v := .ref q_1) (ty := .array .int) (C := RX3) (T := TX3) (N := 3) hx hb hts inX3 tyX3 tyX3_ok nmX3 hown hK hP hD hS 0 rfl rfl 0 (by decide) (hts _ gm_82) (fun _ h9 => h9) rfl hin rfl (by decide +kernel) rfl rfl (Nat.le_of_ble_eq_true rfl) dX3_init_9 (fun H locs hP hD hS => ?_)
  have hP : va_P G vwCl [(h0, .inr (3, [.ref q_1, .null, .null])), (q_1, .inl (cy 0, 6, .inl (fun _ => 0)))] H := hP
  have hD : va_D A [(h0, .inr (3, [.ref q_1, .null, .null])), (q_1, .inl (cy 0, 6, .inl (fun _ => 0)))] := hD
  refine lv_aload_n hx hb dX3_init_12 rfl (lv_at hl 0 rfl) ?_
  refine lv_bipush (v := 6) hx hb dX3_init_13 (by decide) ?_
  refine gz_newa (atype := .int) (t0 := 0) (a0 := (6, .inl (fun _ => 0))) hx hb rfl (fun _ _ h9 => h9) (hts _ gm_98) rfl hK hP hD hS hA (fun _ => rfl) (by decide) (by decide) (Nat.le_of_ble_eq_true rfl) (Nat.le_of_ble_eq_true rfl) (Nat.le_of_ble_eq_true rfl) dX3_init_15 (fun q_2 H hP hD hS => ?_)
  have hP : va_P G vwCl [(h0, .inr (3, [.ref q_1, .null, .null])), (q_1, .inl (cy 0, 6, .inl (fun _ => 0))), (q_2, .inl (cy 0, 6, .inl (fun _ => 0)))] H := hP
  have hD : va_D A [(h0, .inr (3, [.ref q_1, .null, .null])), (q_1, .inl (cy 0, 6, .inl (fun _ => 0))), (q_2, .inl (cy 0, 6, .inl (fun _ => 0)))] := hD
  refine W.widen (k := 2) (n := 12) (Nat.le_of_ble_eq_true rfl) (Nat.le_of_ble_eq_true rfl) ?_
  refine va_putF (ci := 3) (v := .ref q_2) (ty := .array .int) (C := RX3) (T := TX3) (N := 3) hx hb hts inX3 tyX3 tyX3_ok nmX3 hown hK hP hD hS 0 rfl rfl 1 (by decide) (hts _ gm_85) (fun _ h9 => h9) rfl hin rfl (by decide +kernel) rfl rfl (Nat.le_of_ble_eq_true rfl) dX3_init_17 (fun H locs hP hD hS => ?_)
  have hP : va_P G vwCl [(h0, .inr (3, [.ref q_1, .ref q_2, .null])), (q_1, .inl (cy 0, 6, .inl (fun _ => 0))), (q_2, .inl (cy 0, 6, .inl (fun _ => 0)))] H := hP
  have hD : va_D A [(h0, .inr (3, [.ref q_1, .ref q_2, .null])), (q_1, .inl (cy 0, 6, .inl (fun _ => 0))), (q_2, .inl (cy 0, 6, .inl (fun _ => 0)))] := hD
  refine lv_aload_n hx hb dX3_init_20 rfl (lv_at hl 0 rfl) ?_
  refine lv_bipush (v := 6) hx hb dX3_init_21 (by decide) ?_
  refine lv_bipush (v := 6) hx hb dX3_init_23 (by decide) ?_
  refine gz_mna (N' := 6) (K' := 6) hx hb hown (hts _ gm_80) hov.1 (hts _ gm_98) hK hP hD hS hA (by decide) (by decide) (by decide) (by decide) (Nat.le_of_ble_eq_true rfl) (Nat.le_of_ble_eq_true rfl) (Nat.le_of_ble_eq_true rfl) (Nat.le_of_ble_eq_true rfl) (Nat.le_of_ble_eq_true rfl) dX3_init_25 (fun q_3 r_4 H hP hD hS => ?_)
  have hP : va_P G vwCl [(h0, .inr (3, [.ref q_1, .ref q_2, .null])), (q_1, .inl (cy 0, 6, .inl (fun _ => 0))), (q_2, .inl (cy 0, 6, .inl (fun _ => 0))), (q_3, .inl (cy 3, 6, .inr (.inr (.inr (.inr (fun i => if i < 6 then some (r_4 i) else none)))))), ((r_4 0), .inl (cy 0, 6, .inl (fun _ => 0))), ((r_4 1), .inl (cy 0, 6, .inl (fun _ => 0))), ((r_4 2), .inl (cy 0, 6, .inl (fun _ => 0))), ((r_4 3), .inl (cy 0, 6, .inl (fun _ => 0))), ((r_4 4), .inl (cy 0, 6, .inl (fun _ => 0))), ((r_4 5), .inl (cy 0, 6, .inl (fun _ => 0)))] H := hP
  have hD : va_D A [(h0, .inr (3, [.ref q_1, .ref q_2, .null])), (q_1, .inl (cy 0, 6, .inl (fun _ => 0))), (q_2, .inl (cy 0, 6, .inl (fun _ => 0))), (q_3, .inl (cy 3, 6, .inr (.inr (.inr (.inr (fun i => if i < 6 then some (r_4 i) else none)))))), ((r_4 0), .inl (cy 0, 6, .inl (fun _ => 0))), ((r_4 1), .inl (cy 0, 6, .inl (fun _ => 0))), ((r_4 2), .inl (cy 0, 6, .inl (fun _ => 0))), ((r_4 3), .inl (cy 0, 6, .inl (fun _ => 0))), ((r_4 4), .inl (cy 0, 6, .inl (fun _ => 0))), ((r_4 5), .inl (cy 0, 6, .inl (fun _ => 0)))] := hD
  refine W.widen (k := 9) (n := 54) (Nat.le_of_ble_eq_true rfl) (Nat.le_of_ble_eq_true rfl) ?_
  refine va_putF (ci := 3) (v := .ref q_3) (ty := .array (.array .int)) (C := RX3) (T := TX3) (N := 3) hx hb hts inX3 tyX3 tyX3_ok nmX3 hown hK hP hD hS 0 rfl rfl 2 (by decide) (hts _ gm_88) (fun _ h9 => h9) rfl hin rfl (by decide +kernel) rfl rfl (Nat.le_of_ble_eq_true rfl) dX3_init_29 (fun H locs hP hD hS => ?_)
  have hP : va_P G vwCl [(h0, .inr (3, [.ref q_1, .ref q_2, .ref q_3])), (q_1, .inl (cy 0, 6, .inl (fun _ => 0))), (q_2, .inl (cy 0, 6, .inl (fun _ => 0))), (q_3, .inl (cy 3, 6, .inr (.inr (.inr (.inr (fun i => if i < 6 then some (r_4 i) else none)))))), ((r_4 0), .inl (cy 0, 6, .inl (fun _ => 0))), ((r_4 1), .inl (cy 0, 6, .inl (fun _ => 0))), ((r_4 2), .inl (cy 0, 6, .inl (fun _ => 0))), ((r_4 3), .inl (cy 0, 6, .inl (fun _ => 0))), ((r_4 4), .inl (cy 0, 6, .inl (fun _ => 0))), ((r_4 5), .inl (cy 0, 6, .inl (fun _ => 0)))] H := hP
  have hD : va_D A [(h0, .inr (3, [.ref q_1, .ref q_2, .ref q_3])), (q_1, .inl (cy 0, 6, .inl (fun _ => 0))), (q_2, .inl (cy 0, 6, .inl (fun _ => 0))), (q_3, .inl (cy 3, 6, .inr (.inr (.inr (.inr (fun i => if i < 6 then some (r_4 i) else none)))))), ((r_4 0), .inl (cy 0, 6, .inl (fun _ => 0))), ((r_4 1), .inl (cy 0, 6, .inl (fun _ => 0))), ((r_4 2), .inl (cy 0, 6, .inl (fun _ => 0))), ((r_4 3), .inl (cy 0, 6, .inl (fun _ => 0))), ((r_4 4), .inl (cy 0, 6, .inl (fun _ => 0))), ((r_4 5), .inl (cy 0, 6, .inl (fun _ => 0)))] := hD
  exact gz_vret (p := p) (l := l) (e := e) (s := s) (m := m) (below := below) (meth := meth) (c := c) (H := H) (cells := 9) (slots := 54) (mc := 9) (ms := 54) (cf := (fun (u : Nat → Nat → Nat) => [(h0, .inr (3, [.ref (u 0 0), .ref (u 0 1), .ref (u 0 2)])), ((u 0 0), .inl (cy 0, 6, .inl (fun _ => 0))), ((u 0 1), .inl (cy 0, 6, .inl (fun _ => 0))), ((u 0 2), .inl (cy 3, 6, .inr (.inr (.inr (.inr (fun i => if i < 6 then some ((u 1) i) else none)))))), (((u 1) 0), .inl (cy 0, 6, .inl (fun _ => 0))), (((u 1) 1), .inl (cy 0, 6, .inl (fun _ => 0))), (((u 1) 2), .inl (cy 0, 6, .inl (fun _ => 0))), (((u 1) 3), .inl (cy 0, 6, .inl (fun _ => 0))), (((u 1) 4), .inl (cy 0, 6, .inl (fun _ => 0))), (((u 1) 5), .inl (cy 0, 6, .inl (fun _ => 0)))])) (post := (fun (u : Nat → Nat → Nat) => True)) hx hb hr hlocks hK hP hD hS (fun a => match a with | 0 => (fun k => match k with | 0 => q_1 | 1 => q_2 | 2 => q_3 | _ => 0) | 1 => r_4 | _ => fun _ => 0) [0, 1, 2, 3, 4, 5, 6, 7, 8, 9] trivial (by decide) rfl (by exact Nat.le_of_ble_eq_true rfl) (by exact Nat.le_of_ble_eq_true rfl) dX3_init_32

set_option maxHeartbeats 4000000 in
set_option maxRecDepth 100000 in
/-- WellCourt$Calendar.<init> -/
theorem c_Calendar_init (l : Launch) (G : va_G) (cy : Nat → ClassId) (sz : Nat) (h0 : Nat)  : gMv l yX0_init cX0_init 2 ({ frames := 1, cells := 7, slots := 1206, locals := 23 }) G cy sz [.ref h0] [(h0, .inr (0, [.null]))] (fun (u : Nat → Nat → Nat) => True) (fun (u : Nat → Nat → Nat) => [(h0, .inr (0, [.ref (u 0 0)])), ((u 0 0), .inl (cy 3, 6, .inr (.inr (.inr (.inr (fun i => if i < 6 then some ((u 1) i) else none)))))), (((u 1) 0), .inl (cy 0, 200, .inl (fun _ => (-1)))), (((u 1) 1), .inl (cy 0, 200, .inl (fun _ => (-1)))), (((u 1) 2), .inl (cy 0, 200, .inl (fun _ => (-1)))), (((u 1) 3), .inl (cy 0, 200, .inl (fun _ => (-1)))), (((u 1) 4), .inl (cy 0, 200, .inl (fun _ => (-1)))), (((u 1) 5), .inl (cy 0, 200, .inl (fun _ => (-1))))]) := by
  refine gz_start (fun A => gQv G cy _ _ A) (by decide) (Nat.le_of_ble_eq_true rfl) ?_
  intro p e s m below meth c A ls H hx hb hr hml hlocks hin hown hts hK hov hsz hP hD hS hA hl
  have hl : lv_has ls 2 [(0, .ref h0)] := hl
  refine lv_aload_n hx hb dX0_init_0 rfl (lv_at hl 0 rfl) ?_
  refine W.objInit hx hb hown (hts _ gm_104) (hts _ gm_30) (hts _ gm_31) rfl (by rw [hml]; exact hl.1) rfl dX0_init_1 (Nat.le_of_ble_eq_true rfl) (Nat.le_of_ble_eq_true rfl) ?_
  refine W.eq (g2 := F0 m 4 ls []) rfl ?_
  refine lv_aload_n hx hb dX0_init_4 rfl (lv_at hl 0 rfl) ?_
  refine lv_bipush (v := 6) hx hb dX0_init_5 (by decide) ?_
  refine lv_sipush (v := 200) hx hb dX0_init_7 (by decide) ?_
  refine gz_mna (N' := 6) (K' := 200) hx hb hown (hts _ gm_105) hov.1 (hts _ gm_98) hK hP hD hS hA (by decide) (by decide) (by decide) (by decide) (Nat.le_of_ble_eq_true rfl) (Nat.le_of_ble_eq_true rfl) (Nat.le_of_ble_eq_true rfl) (Nat.le_of_ble_eq_true rfl) (Nat.le_of_ble_eq_true rfl) dX0_init_10 (fun q_1 r_2 H hP hD hS => ?_)
  have hP : va_P G vwCl [(h0, .inr (0, [.null])), (q_1, .inl (cy 3, 6, .inr (.inr (.inr (.inr (fun i => if i < 6 then some (r_2 i) else none)))))), ((r_2 0), .inl (cy 0, 200, .inl (fun _ => 0))), ((r_2 1), .inl (cy 0, 200, .inl (fun _ => 0))), ((r_2 2), .inl (cy 0, 200, .inl (fun _ => 0))), ((r_2 3), .inl (cy 0, 200, .inl (fun _ => 0))), ((r_2 4), .inl (cy 0, 200, .inl (fun _ => 0))), ((r_2 5), .inl (cy 0, 200, .inl (fun _ => 0)))] H := hP
  have hD : va_D A [(h0, .inr (0, [.null])), (q_1, .inl (cy 3, 6, .inr (.inr (.inr (.inr (fun i => if i < 6 then some (r_2 i) else none)))))), ((r_2 0), .inl (cy 0, 200, .inl (fun _ => 0))), ((r_2 1), .inl (cy 0, 200, .inl (fun _ => 0))), ((r_2 2), .inl (cy 0, 200, .inl (fun _ => 0))), ((r_2 3), .inl (cy 0, 200, .inl (fun _ => 0))), ((r_2 4), .inl (cy 0, 200, .inl (fun _ => 0))), ((r_2 5), .inl (cy 0, 200, .inl (fun _ => 0)))] := hD
  refine W.widen (k := 7) (n := 1206) (Nat.le_of_ble_eq_true rfl) (Nat.le_of_ble_eq_true rfl) ?_
  refine va_putF (ci := 0) (v := .ref q_1) (ty := .array (.array .int)) (C := RX0) (T := TX0) (N := 1) hx hb hts inX0 tyX0 tyX0_ok nmX0 hown hK hP hD hS 0 rfl rfl 0 (by decide) (hts _ gm_109) (fun _ h9 => h9) rfl hin rfl (by decide +kernel) rfl rfl (Nat.le_of_ble_eq_true rfl) dX0_init_14 (fun H locs hP hD hS => ?_)
  have hP : va_P G vwCl [(h0, .inr (0, [.ref q_1])), (q_1, .inl (cy 3, 6, .inr (.inr (.inr (.inr (fun i => if i < 6 then some (r_2 i) else none)))))), ((r_2 0), .inl (cy 0, 200, .inl (fun _ => 0))), ((r_2 1), .inl (cy 0, 200, .inl (fun _ => 0))), ((r_2 2), .inl (cy 0, 200, .inl (fun _ => 0))), ((r_2 3), .inl (cy 0, 200, .inl (fun _ => 0))), ((r_2 4), .inl (cy 0, 200, .inl (fun _ => 0))), ((r_2 5), .inl (cy 0, 200, .inl (fun _ => 0)))] H := hP
  have hD : va_D A [(h0, .inr (0, [.ref q_1])), (q_1, .inl (cy 3, 6, .inr (.inr (.inr (.inr (fun i => if i < 6 then some (r_2 i) else none)))))), ((r_2 0), .inl (cy 0, 200, .inl (fun _ => 0))), ((r_2 1), .inl (cy 0, 200, .inl (fun _ => 0))), ((r_2 2), .inl (cy 0, 200, .inl (fun _ => 0))), ((r_2 3), .inl (cy 0, 200, .inl (fun _ => 0))), ((r_2 4), .inl (cy 0, 200, .inl (fun _ => 0))), ((r_2 5), .inl (cy 0, 200, .inl (fun _ => 0)))] := hD
  refine lv_iconst (v := 0) hx hb dX0_init_17 (by decide) ?_
  refine lv_istore_n (lv' := [(1, .int 0), (0, .ref h0)]) hx hb dX0_init_18 rfl hl (by decide) rfl (fun ls hl => ?_)
  refine lv_iload_n hx hb dX0_init_19 rfl (lv_at hl 0 rfl) ?_
  refine lv_bipush (v := 6) hx hb dX0_init_20 (by decide) ?_
  refine lv_icmp_ge (tgt := 41) hx hb dX0_init_22 (by decide) (fun h9 => absurd h9 (by decide)) (fun _ => ?_)
  refine lv_aload_n hx hb dX0_init_25 rfl (lv_at hl 1 rfl) ?_
  refine va_get (ci := 0) (v := .ref q_1) (C := RX0) (T := TX0) (N := 1) hx hb hts inX0 hown hK hP 0 rfl rfl 0 (by decide) (hts _ gm_109) (fun _ h9 => h9) rfl dX0_init_26 ?_
  refine lv_iload_n hx hb dX0_init_29 rfl (lv_at hl 0 rfl) ?_
  refine gz_alda hx hb hK hP 1 rfl (vp_in_iff.mpr (by decide)) dX0_init_30 (v := .ref (r_2 0)) rfl ?_
  refine lv_iconst (v := (-1)) hx hb dX0_init_31 (by decide) ?_
  refine gz_aftv (va_runS (As := [.ref (r_2 0), .int (-1)]) (rest := []) ⟨hx, hb, hml, hown, hts⟩ (c_fill l G cy H.size (r_2 0) 200 (fun _ => 0) (-1) (by decide)) ⟨(gz_cb (n := 2) hts gm_106 gm_6 gm_108 ⟨by decide +kernel, by decide +kernel, by decide +kernel⟩ ⟨Nat.le_of_ble_eq_true rfl, Nat.le_of_ble_eq_true rfl⟩), hts _ gm_107⟩ (gz_preS hK hov hP hD [2] (by decide) rfl) rfl rfl hl.1 rfl (lv_room (Nat.le_of_ble_eq_true rfl)) dX0_init_32 ⟨Nat.le_of_ble_eq_true rfl, Nat.le_of_ble_eq_true rfl⟩) hP hD hS hA [2] [0, 1, 3, 4, 5, 6, 7] rfl rfl (by decide) (by decide) (fun u_3 H locs hw_3 hP hD hS => ?_)
  have hP : va_P G vwCl [(h0, .inr (0, [.ref q_1])), (q_1, .inl (cy 3, 6, .inr (.inr (.inr (.inr (fun i => if i < 6 then some (r_2 i) else none)))))), ((r_2 1), .inl (cy 0, 200, .inl (fun _ => 0))), ((r_2 2), .inl (cy 0, 200, .inl (fun _ => 0))), ((r_2 3), .inl (cy 0, 200, .inl (fun _ => 0))), ((r_2 4), .inl (cy 0, 200, .inl (fun _ => 0))), ((r_2 5), .inl (cy 0, 200, .inl (fun _ => 0))), ((r_2 0), .inl (cy 0, 200, .inl (fun _ => (-1))))] H := hP
  have hD : va_D A [(h0, .inr (0, [.ref q_1])), (q_1, .inl (cy 3, 6, .inr (.inr (.inr (.inr (fun i => if i < 6 then some (r_2 i) else none)))))), ((r_2 1), .inl (cy 0, 200, .inl (fun _ => 0))), ((r_2 2), .inl (cy 0, 200, .inl (fun _ => 0))), ((r_2 3), .inl (cy 0, 200, .inl (fun _ => 0))), ((r_2 4), .inl (cy 0, 200, .inl (fun _ => 0))), ((r_2 5), .inl (cy 0, 200, .inl (fun _ => 0))), ((r_2 0), .inl (cy 0, 200, .inl (fun _ => (-1))))] := hD
  refine lv_iinc (v := (1)) (lv' := [(1, .int 1), (0, .ref h0)]) hx hb dX0_init_35 hl (k := 0) rfl (by decide) (by decide) rfl (fun ls hl => ?_)
  refine lv_goto (tgt := 19) hx hb dX0_init_38 (by decide) ?_
  refine lv_iload_n hx hb dX0_init_19 rfl (lv_at hl 0 rfl) ?_
  refine lv_bipush (v := 6) hx hb dX0_init_20 (by decide) ?_
  refine lv_icmp_ge (tgt := 41) hx hb dX0_init_22 (by decide) (fun h9 => absurd h9 (by decide)) (fun _ => ?_)
  refine lv_aload_n hx hb dX0_init_25 rfl (lv_at hl 1 rfl) ?_
  refine va_get (ci := 0) (v := .ref q_1) (C := RX0) (T := TX0) (N := 1) hx hb hts inX0 hown hK hP 0 rfl rfl 0 (by decide) (hts _ gm_109) (fun _ h9 => h9) rfl dX0_init_26 ?_
  refine lv_iload_n hx hb dX0_init_29 rfl (lv_at hl 0 rfl) ?_
  refine gz_alda hx hb hK hP 1 rfl (vp_in_iff.mpr (by decide)) dX0_init_30 (v := .ref (r_2 1)) rfl ?_
  refine lv_iconst (v := (-1)) hx hb dX0_init_31 (by decide) ?_
  refine gz_aftv (va_runS (As := [.ref (r_2 1), .int (-1)]) (rest := []) ⟨hx, hb, hml, hown, hts⟩ (c_fill l G cy H.size (r_2 1) 200 (fun _ => 0) (-1) (by decide)) ⟨(gz_cb (n := 2) hts gm_106 gm_6 gm_108 ⟨by decide +kernel, by decide +kernel, by decide +kernel⟩ ⟨Nat.le_of_ble_eq_true rfl, Nat.le_of_ble_eq_true rfl⟩), hts _ gm_107⟩ (gz_preS hK hov hP hD [2] (by decide) rfl) rfl rfl hl.1 rfl (lv_room (Nat.le_of_ble_eq_true rfl)) dX0_init_32 ⟨Nat.le_of_ble_eq_true rfl, Nat.le_of_ble_eq_true rfl⟩) hP hD hS hA [2] [0, 1, 3, 4, 5, 6, 7] rfl rfl (by decide) (by decide) (fun u_4 H locs hw_4 hP hD hS => ?_)
  have hP : va_P G vwCl [(h0, .inr (0, [.ref q_1])), (q_1, .inl (cy 3, 6, .inr (.inr (.inr (.inr (fun i => if i < 6 then some (r_2 i) else none)))))), ((r_2 2), .inl (cy 0, 200, .inl (fun _ => 0))), ((r_2 3), .inl (cy 0, 200, .inl (fun _ => 0))), ((r_2 4), .inl (cy 0, 200, .inl (fun _ => 0))), ((r_2 5), .inl (cy 0, 200, .inl (fun _ => 0))), ((r_2 0), .inl (cy 0, 200, .inl (fun _ => (-1)))), ((r_2 1), .inl (cy 0, 200, .inl (fun _ => (-1))))] H := hP
  have hD : va_D A [(h0, .inr (0, [.ref q_1])), (q_1, .inl (cy 3, 6, .inr (.inr (.inr (.inr (fun i => if i < 6 then some (r_2 i) else none)))))), ((r_2 2), .inl (cy 0, 200, .inl (fun _ => 0))), ((r_2 3), .inl (cy 0, 200, .inl (fun _ => 0))), ((r_2 4), .inl (cy 0, 200, .inl (fun _ => 0))), ((r_2 5), .inl (cy 0, 200, .inl (fun _ => 0))), ((r_2 0), .inl (cy 0, 200, .inl (fun _ => (-1)))), ((r_2 1), .inl (cy 0, 200, .inl (fun _ => (-1))))] := hD
  refine lv_iinc (v := (2)) (lv' := [(1, .int 2), (0, .ref h0)]) hx hb dX0_init_35 hl (k := 0) rfl (by decide) (by decide) rfl (fun ls hl => ?_)
  refine lv_goto (tgt := 19) hx hb dX0_init_38 (by decide) ?_
  refine lv_iload_n hx hb dX0_init_19 rfl (lv_at hl 0 rfl) ?_
  refine lv_bipush (v := 6) hx hb dX0_init_20 (by decide) ?_
  refine lv_icmp_ge (tgt := 41) hx hb dX0_init_22 (by decide) (fun h9 => absurd h9 (by decide)) (fun _ => ?_)
  refine lv_aload_n hx hb dX0_init_25 rfl (lv_at hl 1 rfl) ?_
  refine va_get (ci := 0) (v := .ref q_1) (C := RX0) (T := TX0) (N := 1) hx hb hts inX0 hown hK hP 0 rfl rfl 0 (by decide) (hts _ gm_109) (fun _ h9 => h9) rfl dX0_init_26 ?_
  refine lv_iload_n hx hb dX0_init_29 rfl (lv_at hl 0 rfl) ?_
  refine gz_alda hx hb hK hP 1 rfl (vp_in_iff.mpr (by decide)) dX0_init_30 (v := .ref (r_2 2)) rfl ?_
  refine lv_iconst (v := (-1)) hx hb dX0_init_31 (by decide) ?_
  refine gz_aftv (va_runS (As := [.ref (r_2 2), .int (-1)]) (rest := []) ⟨hx, hb, hml, hown, hts⟩ (c_fill l G cy H.size (r_2 2) 200 (fun _ => 0) (-1) (by decide)) ⟨(gz_cb (n := 2) hts gm_106 gm_6 gm_108 ⟨by decide +kernel, by decide +kernel, by decide +kernel⟩ ⟨Nat.le_of_ble_eq_true rfl, Nat.le_of_ble_eq_true rfl⟩), hts _ gm_107⟩ (gz_preS hK hov hP hD [2] (by decide) rfl) rfl rfl hl.1 rfl (lv_room (Nat.le_of_ble_eq_true rfl)) dX0_init_32 ⟨Nat.le_of_ble_eq_true rfl, Nat.le_of_ble_eq_true rfl⟩) hP hD hS hA [2] [0, 1, 3, 4, 5, 6, 7] rfl rfl (by decide) (by decide) (fun u_5 H locs hw_5 hP hD hS => ?_)
  have hP : va_P G vwCl [(h0, .inr (0, [.ref q_1])), (q_1, .inl (cy 3, 6, .inr (.inr (.inr (.inr (fun i => if i < 6 then some (r_2 i) else none)))))), ((r_2 3), .inl (cy 0, 200, .inl (fun _ => 0))), ((r_2 4), .inl (cy 0, 200, .inl (fun _ => 0))), ((r_2 5), .inl (cy 0, 200, .inl (fun _ => 0))), ((r_2 0), .inl (cy 0, 200, .inl (fun _ => (-1)))), ((r_2 1), .inl (cy 0, 200, .inl (fun _ => (-1)))), ((r_2 2), .inl (cy 0, 200, .inl (fun _ => (-1))))] H := hP
  have hD : va_D A [(h0, .inr (0, [.ref q_1])), (q_1, .inl (cy 3, 6, .inr (.inr (.inr (.inr (fun i => if i < 6 then some (r_2 i) else none)))))), ((r_2 3), .inl (cy 0, 200, .inl (fun _ => 0))), ((r_2 4), .inl (cy 0, 200, .inl (fun _ => 0))), ((r_2 5), .inl (cy 0, 200, .inl (fun _ => 0))), ((r_2 0), .inl (cy 0, 200, .inl (fun _ => (-1)))), ((r_2 1), .inl (cy 0, 200, .inl (fun _ => (-1)))), ((r_2 2), .inl (cy 0, 200, .inl (fun _ => (-1))))] := hD
  refine lv_iinc (v := (3)) (lv' := [(1, .int 3), (0, .ref h0)]) hx hb dX0_init_35 hl (k := 0) rfl (by decide) (by decide) rfl (fun ls hl => ?_)
  refine lv_goto (tgt := 19) hx hb dX0_init_38 (by decide) ?_
  refine lv_iload_n hx hb dX0_init_19 rfl (lv_at hl 0 rfl) ?_
  refine lv_bipush (v := 6) hx hb dX0_init_20 (by decide) ?_
  refine lv_icmp_ge (tgt := 41) hx hb dX0_init_22 (by decide) (fun h9 => absurd h9 (by decide)) (fun _ => ?_)
  refine lv_aload_n hx hb dX0_init_25 rfl (lv_at hl 1 rfl) ?_
  refine va_get (ci := 0) (v := .ref q_1) (C := RX0) (T := TX0) (N := 1) hx hb hts inX0 hown hK hP 0 rfl rfl 0 (by decide) (hts _ gm_109) (fun _ h9 => h9) rfl dX0_init_26 ?_
  refine lv_iload_n hx hb dX0_init_29 rfl (lv_at hl 0 rfl) ?_
  refine gz_alda hx hb hK hP 1 rfl (vp_in_iff.mpr (by decide)) dX0_init_30 (v := .ref (r_2 3)) rfl ?_
  refine lv_iconst (v := (-1)) hx hb dX0_init_31 (by decide) ?_
  refine gz_aftv (va_runS (As := [.ref (r_2 3), .int (-1)]) (rest := []) ⟨hx, hb, hml, hown, hts⟩ (c_fill l G cy H.size (r_2 3) 200 (fun _ => 0) (-1) (by decide)) ⟨(gz_cb (n := 2) hts gm_106 gm_6 gm_108 ⟨by decide +kernel, by decide +kernel, by decide +kernel⟩ ⟨Nat.le_of_ble_eq_true rfl, Nat.le_of_ble_eq_true rfl⟩), hts _ gm_107⟩ (gz_preS hK hov hP hD [2] (by decide) rfl) rfl rfl hl.1 rfl (lv_room (Nat.le_of_ble_eq_true rfl)) dX0_init_32 ⟨Nat.le_of_ble_eq_true rfl, Nat.le_of_ble_eq_true rfl⟩) hP hD hS hA [2] [0, 1, 3, 4, 5, 6, 7] rfl rfl (by decide) (by decide) (fun u_6 H locs hw_6 hP hD hS => ?_)
  have hP : va_P G vwCl [(h0, .inr (0, [.ref q_1])), (q_1, .inl (cy 3, 6, .inr (.inr (.inr (.inr (fun i => if i < 6 then some (r_2 i) else none)))))), ((r_2 4), .inl (cy 0, 200, .inl (fun _ => 0))), ((r_2 5), .inl (cy 0, 200, .inl (fun _ => 0))), ((r_2 0), .inl (cy 0, 200, .inl (fun _ => (-1)))), ((r_2 1), .inl (cy 0, 200, .inl (fun _ => (-1)))), ((r_2 2), .inl (cy 0, 200, .inl (fun _ => (-1)))), ((r_2 3), .inl (cy 0, 200, .inl (fun _ => (-1))))] H := hP
  have hD : va_D A [(h0, .inr (0, [.ref q_1])), (q_1, .inl (cy 3, 6, .inr (.inr (.inr (.inr (fun i => if i < 6 then some (r_2 i) else none)))))), ((r_2 4), .inl (cy 0, 200, .inl (fun _ => 0))), ((r_2 5), .inl (cy 0, 200, .inl (fun _ => 0))), ((r_2 0), .inl (cy 0, 200, .inl (fun _ => (-1)))), ((r_2 1), .inl (cy 0, 200, .inl (fun _ => (-1)))), ((r_2 2), .inl (cy 0, 200, .inl (fun _ => (-1)))), ((r_2 3), .inl (cy 0, 200, .inl (fun _ => (-1))))] := hD
  refine lv_iinc (v := (4)) (lv' := [(1, .int 4), (0, .ref h0)]) hx hb dX0_init_35 hl (k := 0) rfl (by decide) (by decide) rfl (fun ls hl => ?_)
  refine lv_goto (tgt := 19) hx hb dX0_init_38 (by decide) ?_
  refine lv_iload_n hx hb dX0_init_19 rfl (lv_at hl 0 rfl) ?_
  refine lv_bipush (v := 6) hx hb dX0_init_20 (by decide) ?_
  refine lv_icmp_ge (tgt := 41) hx hb dX0_init_22 (by decide) (fun h9 => absurd h9 (by decide)) (fun _ => ?_)
  refine lv_aload_n hx hb dX0_init_25 rfl (lv_at hl 1 rfl) ?_
  refine va_get (ci := 0) (v := .ref q_1) (C := RX0) (T := TX0) (N := 1) hx hb hts inX0 hown hK hP 0 rfl rfl 0 (by decide) (hts _ gm_109) (fun _ h9 => h9) rfl dX0_init_26 ?_
  refine lv_iload_n hx hb dX0_init_29 rfl (lv_at hl 0 rfl) ?_
  refine gz_alda hx hb hK hP 1 rfl (vp_in_iff.mpr (by decide)) dX0_init_30 (v := .ref (r_2 4)) rfl ?_
  refine lv_iconst (v := (-1)) hx hb dX0_init_31 (by decide) ?_
  refine gz_aftv (va_runS (As := [.ref (r_2 4), .int (-1)]) (rest := []) ⟨hx, hb, hml, hown, hts⟩ (c_fill l G cy H.size (r_2 4) 200 (fun _ => 0) (-1) (by decide)) ⟨(gz_cb (n := 2) hts gm_106 gm_6 gm_108 ⟨by decide +kernel, by decide +kernel, by decide +kernel⟩ ⟨Nat.le_of_ble_eq_true rfl, Nat.le_of_ble_eq_true rfl⟩), hts _ gm_107⟩ (gz_preS hK hov hP hD [2] (by decide) rfl) rfl rfl hl.1 rfl (lv_room (Nat.le_of_ble_eq_true rfl)) dX0_init_32 ⟨Nat.le_of_ble_eq_true rfl, Nat.le_of_ble_eq_true rfl⟩) hP hD hS hA [2] [0, 1, 3, 4, 5, 6, 7] rfl rfl (by decide) (by decide) (fun u_7 H locs hw_7 hP hD hS => ?_)
  have hP : va_P G vwCl [(h0, .inr (0, [.ref q_1])), (q_1, .inl (cy 3, 6, .inr (.inr (.inr (.inr (fun i => if i < 6 then some (r_2 i) else none)))))), ((r_2 5), .inl (cy 0, 200, .inl (fun _ => 0))), ((r_2 0), .inl (cy 0, 200, .inl (fun _ => (-1)))), ((r_2 1), .inl (cy 0, 200, .inl (fun _ => (-1)))), ((r_2 2), .inl (cy 0, 200, .inl (fun _ => (-1)))), ((r_2 3), .inl (cy 0, 200, .inl (fun _ => (-1)))), ((r_2 4), .inl (cy 0, 200, .inl (fun _ => (-1))))] H := hP
  have hD : va_D A [(h0, .inr (0, [.ref q_1])), (q_1, .inl (cy 3, 6, .inr (.inr (.inr (.inr (fun i => if i < 6 then some (r_2 i) else none)))))), ((r_2 5), .inl (cy 0, 200, .inl (fun _ => 0))), ((r_2 0), .inl (cy 0, 200, .inl (fun _ => (-1)))), ((r_2 1), .inl (cy 0, 200, .inl (fun _ => (-1)))), ((r_2 2), .inl (cy 0, 200, .inl (fun _ => (-1)))), ((r_2 3), .inl (cy 0, 200, .inl (fun _ => (-1)))), ((r_2 4), .inl (cy 0, 200, .inl (fun _ => (-1))))] := hD
  refine lv_iinc (v := (5)) (lv' := [(1, .int 5), (0, .ref h0)]) hx hb dX0_init_35 hl (k := 0) rfl (by decide) (by decide) rfl (fun ls hl => ?_)
  refine lv_goto (tgt := 19) hx hb dX0_init_38 (by decide) ?_
  refine lv_iload_n hx hb dX0_init_19 rfl (lv_at hl 0 rfl) ?_
  refine lv_bipush (v := 6) hx hb dX0_init_20 (by decide) ?_
  refine lv_icmp_ge (tgt := 41) hx hb dX0_init_22 (by decide) (fun h9 => absurd h9 (by decide)) (fun _ => ?_)
  refine lv_aload_n hx hb dX0_init_25 rfl (lv_at hl 1 rfl) ?_
  refine va_get (ci := 0) (v := .ref q_1) (C := RX0) (T := TX0) (N := 1) hx hb hts inX0 hown hK hP 0 rfl rfl 0 (by decide) (hts _ gm_109) (fun _ h9 => h9) rfl dX0_init_26 ?_
  refine lv_iload_n hx hb dX0_init_29 rfl (lv_at hl 0 rfl) ?_
  refine gz_alda hx hb hK hP 1 rfl (vp_in_iff.mpr (by decide)) dX0_init_30 (v := .ref (r_2 5)) rfl ?_
  refine lv_iconst (v := (-1)) hx hb dX0_init_31 (by decide) ?_
  refine gz_aftv (va_runS (As := [.ref (r_2 5), .int (-1)]) (rest := []) ⟨hx, hb, hml, hown, hts⟩ (c_fill l G cy H.size (r_2 5) 200 (fun _ => 0) (-1) (by decide)) ⟨(gz_cb (n := 2) hts gm_106 gm_6 gm_108 ⟨by decide +kernel, by decide +kernel, by decide +kernel⟩ ⟨Nat.le_of_ble_eq_true rfl, Nat.le_of_ble_eq_true rfl⟩), hts _ gm_107⟩ (gz_preS hK hov hP hD [2] (by decide) rfl) rfl rfl hl.1 rfl (lv_room (Nat.le_of_ble_eq_true rfl)) dX0_init_32 ⟨Nat.le_of_ble_eq_true rfl, Nat.le_of_ble_eq_true rfl⟩) hP hD hS hA [2] [0, 1, 3, 4, 5, 6, 7] rfl rfl (by decide) (by decide) (fun u_8 H locs hw_8 hP hD hS => ?_)
  have hP : va_P G vwCl [(h0, .inr (0, [.ref q_1])), (q_1, .inl (cy 3, 6, .inr (.inr (.inr (.inr (fun i => if i < 6 then some (r_2 i) else none)))))), ((r_2 0), .inl (cy 0, 200, .inl (fun _ => (-1)))), ((r_2 1), .inl (cy 0, 200, .inl (fun _ => (-1)))), ((r_2 2), .inl (cy 0, 200, .inl (fun _ => (-1)))), ((r_2 3), .inl (cy 0, 200, .inl (fun _ => (-1)))), ((r_2 4), .inl (cy 0, 200, .inl (fun _ => (-1)))), ((r_2 5), .inl (cy 0, 200, .inl (fun _ => (-1))))] H := hP
  have hD : va_D A [(h0, .inr (0, [.ref q_1])), (q_1, .inl (cy 3, 6, .inr (.inr (.inr (.inr (fun i => if i < 6 then some (r_2 i) else none)))))), ((r_2 0), .inl (cy 0, 200, .inl (fun _ => (-1)))), ((r_2 1), .inl (cy 0, 200, .inl (fun _ => (-1)))), ((r_2 2), .inl (cy 0, 200, .inl (fun _ => (-1)))), ((r_2 3), .inl (cy 0, 200, .inl (fun _ => (-1)))), ((r_2 4), .inl (cy 0, 200, .inl (fun _ => (-1)))), ((r_2 5), .inl (cy 0, 200, .inl (fun _ => (-1))))] := hD
  refine lv_iinc (v := (6)) (lv' := [(1, .int 6), (0, .ref h0)]) hx hb dX0_init_35 hl (k := 0) rfl (by decide) (by decide) rfl (fun ls hl => ?_)
  refine lv_goto (tgt := 19) hx hb dX0_init_38 (by decide) ?_
  refine lv_iload_n hx hb dX0_init_19 rfl (lv_at hl 0 rfl) ?_
  refine lv_bipush (v := 6) hx hb dX0_init_20 (by decide) ?_
  refine lv_icmp_ge (tgt := 41) hx hb dX0_init_22 (by decide) (fun _ => ?_) (fun h9 => absurd (by decide) h9)
  exact gz_vret (p := p) (l := l) (e := e) (s := s) (m := m) (below := below) (meth := meth) (c := c) (H := H) (cells := 7) (slots := 1206) (mc := 7) (ms := 1206) (cf := (fun (u : Nat → Nat → Nat) => [(h0, .inr (0, [.ref (u 0 0)])), ((u 0 0), .inl (cy 3, 6, .inr (.inr (.inr (.inr (fun i => if i < 6 then some ((u 1) i) else none)))))), (((u 1) 0), .inl (cy 0, 200, .inl (fun _ => (-1)))), (((u 1) 1), .inl (cy 0, 200, .inl (fun _ => (-1)))), (((u 1) 2), .inl (cy 0, 200, .inl (fun _ => (-1)))), (((u 1) 3), .inl (cy 0, 200, .inl (fun _ => (-1)))), (((u 1) 4), .inl (cy 0, 200, .inl (fun _ => (-1)))), (((u 1) 5), .inl (cy 0, 200, .inl (fun _ => (-1))))])) (post := (fun (u : Nat → Nat → Nat) => True)) hx hb hr hlocks hK hP hD hS (fun a => match a with | 0 => (fun k => match k with | 0 => q_1 | _ => 0) | 1 => r_2 | _ => fun _ => 0) [0, 1, 2, 3, 4, 5, 6, 7] trivial (by decide) rfl (by exact Nat.le_of_ble_eq_true rfl) (by exact Nat.le_of_ble_eq_true rfl) dX0_init_41

set_option maxHeartbeats 4000000 in
set_option maxRecDepth 100000 in
/-- WellCourt$Day.<init> -/
theorem c_Day_init (l : Launch) (G : va_G) (cy : Nat → ClassId) (sz : Nat) (h0 : Nat)  : gMv l yX1_init cX1_init 1 ({ frames := 1, cells := 3, slots := 18, locals := 23 }) G cy sz [.ref h0] [(h0, .inr (1, [.null, .null, .null]))] (fun (u : Nat → Nat → Nat) => True) (fun (u : Nat → Nat → Nat) => [(h0, .inr (1, [.ref (u 0 0), .ref (u 0 1), .ref (u 0 2)])), ((u 0 0), .inl (cy 0, 6, .inl (fun _ => 0))), ((u 0 1), .inl (cy 0, 6, .inl (fun _ => (-1)))), ((u 0 2), .inl (cy 0, 6, .inl (fun _ => (-1))))]) := by
  refine gz_start (fun A => gQv G cy _ _ A) (by decide) (Nat.le_of_ble_eq_true rfl) ?_
  intro p e s m below meth c A ls H hx hb hr hml hlocks hin hown hts hK hov hsz hP hD hS hA hl
  have hl : lv_has ls 1 [(0, .ref h0)] := hl
  refine lv_aload_n hx hb dX1_init_0 rfl (lv_at hl 0 rfl) ?_
  refine W.objInit hx hb hown (hts _ gm_118) (hts _ gm_30) (hts _ gm_31) rfl (by rw [hml]; exact hl.1) rfl dX1_init_1 (Nat.le_of_ble_eq_true rfl) (Nat.le_of_ble_eq_true rfl) ?_
  refine W.eq (g2 := F0 m 4 ls []) rfl ?_
  refine lv_aload_n hx hb dX1_init_4 rfl (lv_at hl 0 rfl) ?_
  refine lv_bipush (v := 6) hx hb dX1_init_5 (by decide) ?_
  refine gz_newa (atype := .int) (t0 := 0) (a0 := (6, .inl (fun _ => 0))) hx hb rfl (fun _ _ h9 => h9) (hts _ gm_98) rfl hK hP hD hS hA (fun _ => rfl) (by decide) (by decide) (Nat.le_of_ble_eq_true rfl) (Nat.le_of_ble_eq_true rfl) (Nat.le_of_ble_eq_true rfl) dX1_init_7 (fun q_1 H hP hD hS => ?_)
  have hP : va_P G vwCl [(h0, .inr (1, [.null, .null, .null])), (q_1, .inl (cy 0, 6, .inl (fun _ => 0)))] H := hP
  have hD : va_D A [(h0, .inr (1, [.null, .null, .null])), (q_1, .inl (cy 0, 6, .inl (fun _ => 0)))] := hD
  refine W.widen (k := 1) (n := 6) (Nat.le_of_ble_eq_true rfl) (Nat.le_of_ble_eq_true rfl) ?_
  refine va_putF (ci := 1) (v := .ref q_1) (ty := .array .int) (C := RX1) (T := TX1) (N := 3) hx hb hts inX1 tyX1 tyX1_ok nmX1 hown hK hP hD hS 0 rfl rfl 0 (by decide) (hts _ gm_120) (fun _ h9 => h9) rfl hin rfl (by decide +kernel) rfl rfl (Nat.le_of_ble_eq_true rfl) dX1_init_9 (fun H locs hP hD hS => ?_)
  have hP : va_P G vwCl [(h0, .inr (1, [.ref q_1, .null, .null])), (q_1, .inl (cy 0, 6, .inl (fun _ => 0)))] H := hP
  have hD : va_D A [(h0, .inr (1, [.ref q_1, .null, .null])), (q_1, .inl (cy 0, 6, .inl (fun _ => 0)))] := hD
  refine lv_aload_n hx hb dX1_init_12 rfl (lv_at hl 0 rfl) ?_
  refine lv_bipush (v := 6) hx hb dX1_init_13 (by decide) ?_
  refine gz_newa (atype := .int) (t0 := 0) (a0 := (6, .inl (fun _ => 0))) hx hb rfl (fun _ _ h9 => h9) (hts _ gm_98) rfl hK hP hD hS hA (fun _ => rfl) (by decide) (by decide) (Nat.le_of_ble_eq_true rfl) (Nat.le_of_ble_eq_true rfl) (Nat.le_of_ble_eq_true rfl) dX1_init_15 (fun q_2 H hP hD hS => ?_)
  have hP : va_P G vwCl [(h0, .inr (1, [.ref q_1, .null, .null])), (q_1, .inl (cy 0, 6, .inl (fun _ => 0))), (q_2, .inl (cy 0, 6, .inl (fun _ => 0)))] H := hP
  have hD : va_D A [(h0, .inr (1, [.ref q_1, .null, .null])), (q_1, .inl (cy 0, 6, .inl (fun _ => 0))), (q_2, .inl (cy 0, 6, .inl (fun _ => 0)))] := hD
  refine W.widen (k := 2) (n := 12) (Nat.le_of_ble_eq_true rfl) (Nat.le_of_ble_eq_true rfl) ?_
  refine va_putF (ci := 1) (v := .ref q_2) (ty := .array .int) (C := RX1) (T := TX1) (N := 3) hx hb hts inX1 tyX1 tyX1_ok nmX1 hown hK hP hD hS 0 rfl rfl 1 (by decide) (hts _ gm_123) (fun _ h9 => h9) rfl hin rfl (by decide +kernel) rfl rfl (Nat.le_of_ble_eq_true rfl) dX1_init_17 (fun H locs hP hD hS => ?_)
  have hP : va_P G vwCl [(h0, .inr (1, [.ref q_1, .ref q_2, .null])), (q_1, .inl (cy 0, 6, .inl (fun _ => 0))), (q_2, .inl (cy 0, 6, .inl (fun _ => 0)))] H := hP
  have hD : va_D A [(h0, .inr (1, [.ref q_1, .ref q_2, .null])), (q_1, .inl (cy 0, 6, .inl (fun _ => 0))), (q_2, .inl (cy 0, 6, .inl (fun _ => 0)))] := hD
  refine lv_aload_n hx hb dX1_init_20 rfl (lv_at hl 0 rfl) ?_
  refine lv_bipush (v := 6) hx hb dX1_init_21 (by decide) ?_
  refine gz_newa (atype := .int) (t0 := 0) (a0 := (6, .inl (fun _ => 0))) hx hb rfl (fun _ _ h9 => h9) (hts _ gm_98) rfl hK hP hD hS hA (fun _ => rfl) (by decide) (by decide) (Nat.le_of_ble_eq_true rfl) (Nat.le_of_ble_eq_true rfl) (Nat.le_of_ble_eq_true rfl) dX1_init_23 (fun q_3 H hP hD hS => ?_)
  have hP : va_P G vwCl [(h0, .inr (1, [.ref q_1, .ref q_2, .null])), (q_1, .inl (cy 0, 6, .inl (fun _ => 0))), (q_2, .inl (cy 0, 6, .inl (fun _ => 0))), (q_3, .inl (cy 0, 6, .inl (fun _ => 0)))] H := hP
  have hD : va_D A [(h0, .inr (1, [.ref q_1, .ref q_2, .null])), (q_1, .inl (cy 0, 6, .inl (fun _ => 0))), (q_2, .inl (cy 0, 6, .inl (fun _ => 0))), (q_3, .inl (cy 0, 6, .inl (fun _ => 0)))] := hD
  refine W.widen (k := 3) (n := 18) (Nat.le_of_ble_eq_true rfl) (Nat.le_of_ble_eq_true rfl) ?_
  refine va_putF (ci := 1) (v := .ref q_3) (ty := .array .int) (C := RX1) (T := TX1) (N := 3) hx hb hts inX1 tyX1 tyX1_ok nmX1 hown hK hP hD hS 0 rfl rfl 2 (by decide) (hts _ gm_125) (fun _ h9 => h9) rfl hin rfl (by decide +kernel) rfl rfl (Nat.le_of_ble_eq_true rfl) dX1_init_25 (fun H locs hP hD hS => ?_)
  have hP : va_P G vwCl [(h0, .inr (1, [.ref q_1, .ref q_2, .ref q_3])), (q_1, .inl (cy 0, 6, .inl (fun _ => 0))), (q_2, .inl (cy 0, 6, .inl (fun _ => 0))), (q_3, .inl (cy 0, 6, .inl (fun _ => 0)))] H := hP
  have hD : va_D A [(h0, .inr (1, [.ref q_1, .ref q_2, .ref q_3])), (q_1, .inl (cy 0, 6, .inl (fun _ => 0))), (q_2, .inl (cy 0, 6, .inl (fun _ => 0))), (q_3, .inl (cy 0, 6, .inl (fun _ => 0)))] := hD
  refine lv_aload_n hx hb dX1_init_28 rfl (lv_at hl 0 rfl) ?_
  refine va_get (ci := 1) (v := .ref q_2) (C := RX1) (T := TX1) (N := 3) hx hb hts inX1 hown hK hP 0 rfl rfl 1 (by decide) (hts _ gm_123) (fun _ h9 => h9) rfl dX1_init_29 ?_
  refine lv_iconst (v := (-1)) hx hb dX1_init_32 (by decide) ?_
  refine gz_aftv (va_runS (As := [.ref q_2, .int (-1)]) (rest := []) ⟨hx, hb, hml, hown, hts⟩ (c_fill l G cy H.size q_2 6 (fun _ => 0) (-1) (by decide)) ⟨(gz_cb (n := 2) hts gm_119 gm_6 gm_108 ⟨by decide +kernel, by decide +kernel, by decide +kernel⟩ ⟨Nat.le_of_ble_eq_true rfl, Nat.le_of_ble_eq_true rfl⟩), hts _ gm_107⟩ (gz_preS hK hov hP hD [2] (by decide) rfl) rfl rfl hl.1 rfl (lv_room (Nat.le_of_ble_eq_true rfl)) dX1_init_33 ⟨Nat.le_of_ble_eq_true rfl, Nat.le_of_ble_eq_true rfl⟩) hP hD hS hA [2] [0, 1, 3] rfl rfl (by decide) (by decide) (fun u_4 H locs hw_4 hP hD hS => ?_)
  have hP : va_P G vwCl [(h0, .inr (1, [.ref q_1, .ref q_2, .ref q_3])), (q_1, .inl (cy 0, 6, .inl (fun _ => 0))), (q_3, .inl (cy 0, 6, .inl (fun _ => 0))), (q_2, .inl (cy 0, 6, .inl (fun _ => (-1))))] H := hP
  have hD : va_D A [(h0, .inr (1, [.ref q_1, .ref q_2, .ref q_3])), (q_1, .inl (cy 0, 6, .inl (fun _ => 0))), (q_3, .inl (cy 0, 6, .inl (fun _ => 0))), (q_2, .inl (cy 0, 6, .inl (fun _ => (-1))))] := hD
  refine lv_aload_n hx hb dX1_init_36 rfl (lv_at hl 0 rfl) ?_
  refine va_get (ci := 1) (v := .ref q_3) (C := RX1) (T := TX1) (N := 3) hx hb hts inX1 hown hK hP 0 rfl rfl 2 (by decide) (hts _ gm_125) (fun _ h9 => h9) rfl dX1_init_37 ?_
  refine lv_iconst (v := (-1)) hx hb dX1_init_40 (by decide) ?_
  refine gz_aftv (va_runS (As := [.ref q_3, .int (-1)]) (rest := []) ⟨hx, hb, hml, hown, hts⟩ (c_fill l G cy H.size q_3 6 (fun _ => 0) (-1) (by decide)) ⟨(gz_cb (n := 2) hts gm_119 gm_6 gm_108 ⟨by decide +kernel, by decide +kernel, by decide +kernel⟩ ⟨Nat.le_of_ble_eq_true rfl, Nat.le_of_ble_eq_true rfl⟩), hts _ gm_107⟩ (gz_preS hK hov hP hD [2] (by decide) rfl) rfl rfl hl.1 rfl (lv_room (Nat.le_of_ble_eq_true rfl)) dX1_init_41 ⟨Nat.le_of_ble_eq_true rfl, Nat.le_of_ble_eq_true rfl⟩) hP hD hS hA [2] [0, 1, 3] rfl rfl (by decide) (by decide) (fun u_5 H locs hw_5 hP hD hS => ?_)
  have hP : va_P G vwCl [(h0, .inr (1, [.ref q_1, .ref q_2, .ref q_3])), (q_1, .inl (cy 0, 6, .inl (fun _ => 0))), (q_2, .inl (cy 0, 6, .inl (fun _ => (-1)))), (q_3, .inl (cy 0, 6, .inl (fun _ => (-1))))] H := hP
  have hD : va_D A [(h0, .inr (1, [.ref q_1, .ref q_2, .ref q_3])), (q_1, .inl (cy 0, 6, .inl (fun _ => 0))), (q_2, .inl (cy 0, 6, .inl (fun _ => (-1)))), (q_3, .inl (cy 0, 6, .inl (fun _ => (-1))))] := hD
  exact gz_vret (p := p) (l := l) (e := e) (s := s) (m := m) (below := below) (meth := meth) (c := c) (H := H) (cells := 3) (slots := 18) (mc := 3) (ms := 18) (cf := (fun (u : Nat → Nat → Nat) => [(h0, .inr (1, [.ref (u 0 0), .ref (u 0 1), .ref (u 0 2)])), ((u 0 0), .inl (cy 0, 6, .inl (fun _ => 0))), ((u 0 1), .inl (cy 0, 6, .inl (fun _ => (-1)))), ((u 0 2), .inl (cy 0, 6, .inl (fun _ => (-1))))])) (post := (fun (u : Nat → Nat → Nat) => True)) hx hb hr hlocks hK hP hD hS (fun a => match a with | 0 => (fun k => match k with | 0 => q_1 | 1 => q_2 | 2 => q_3 | _ => 0)  | _ => fun _ => 0) [0, 1, 2, 3] trivial (by decide) rfl (by exact Nat.le_of_ble_eq_true rfl) (by exact Nat.le_of_ble_eq_true rfl) dX1_init_44

set_option maxHeartbeats 4000000 in
set_option maxRecDepth 100000 in
/-- WellCourt$Ledger.<init> -/
theorem c_Ledger_init (l : Launch) (G : va_G) (cy : Nat → ClassId) (sz : Nat) (h0 : Nat)  : gMv l yX5_init cX5_init 1 ({ frames := 1, cells := 7, slots := 1806, locals := 20 }) G cy sz [.ref h0] [(h0, .inr (5, [.null, .int 0]))] (fun (u : Nat → Nat → Nat) => True) (fun (u : Nat → Nat → Nat) => [(h0, .inr (5, [.ref (u 0 0), .int 0])), ((u 0 0), .inl (cy 3, 6, .inr (.inr (.inr (.inr (fun i => if i < 6 then some ((u 1) i) else none)))))), (((u 1) 0), .inl (cy 0, 300, .inl (fun _ => 0))), (((u 1) 1), .inl (cy 0, 300, .inl (fun _ => 0))), (((u 1) 2), .inl (cy 0, 300, .inl (fun _ => 0))), (((u 1) 3), .inl (cy 0, 300, .inl (fun _ => 0))), (((u 1) 4), .inl (cy 0, 300, .inl (fun _ => 0))), (((u 1) 5), .inl (cy 0, 300, .inl (fun _ => 0)))]) := by
  refine gz_start (fun A => gQv G cy _ _ A) (by decide) (Nat.le_of_ble_eq_true rfl) ?_
  intro p e s m below meth c A ls H hx hb hr hml hlocks hin hown hts hK hov hsz hP hD hS hA hl
  have hl : lv_has ls 1 [(0, .ref h0)] := hl
  refine lv_aload_n hx hb dX5_init_0 rfl (lv_at hl 0 rfl) ?_
  refine W.objInit hx hb hown (hts _ gm_139) (hts _ gm_30) (hts _ gm_31) rfl (by rw [hml]; exact hl.1) rfl dX5_init_1 (Nat.le_of_ble_eq_true rfl) (Nat.le_of_ble_eq_true rfl) ?_
  refine W.eq (g2 := F0 m 4 ls []) rfl ?_
  refine lv_aload_n hx hb dX5_init_4 rfl (lv_at hl 0 rfl) ?_
  refine lv_bipush (v := 6) hx hb dX5_init_5 (by decide) ?_
  refine lv_sipush (v := 300) hx hb dX5_init_7 (by decide) ?_
  refine gz_mna (N' := 6) (K' := 300) hx hb hown (hts _ gm_140) hov.1 (hts _ gm_98) hK hP hD hS hA (by decide) (by decide) (by decide) (by decide) (Nat.le_of_ble_eq_true rfl) (Nat.le_of_ble_eq_true rfl) (Nat.le_of_ble_eq_true rfl) (Nat.le_of_ble_eq_true rfl) (Nat.le_of_ble_eq_true rfl) dX5_init_10 (fun q_1 r_2 H hP hD hS => ?_)
  have hP : va_P G vwCl [(h0, .inr (5, [.null, .int 0])), (q_1, .inl (cy 3, 6, .inr (.inr (.inr (.inr (fun i => if i < 6 then some (r_2 i) else none)))))), ((r_2 0), .inl (cy 0, 300, .inl (fun _ => 0))), ((r_2 1), .inl (cy 0, 300, .inl (fun _ => 0))), ((r_2 2), .inl (cy 0, 300, .inl (fun _ => 0))), ((r_2 3), .inl (cy 0, 300, .inl (fun _ => 0))), ((r_2 4), .inl (cy 0, 300, .inl (fun _ => 0))), ((r_2 5), .inl (cy 0, 300, .inl (fun _ => 0)))] H := hP
  have hD : va_D A [(h0, .inr (5, [.null, .int 0])), (q_1, .inl (cy 3, 6, .inr (.inr (.inr (.inr (fun i => if i < 6 then some (r_2 i) else none)))))), ((r_2 0), .inl (cy 0, 300, .inl (fun _ => 0))), ((r_2 1), .inl (cy 0, 300, .inl (fun _ => 0))), ((r_2 2), .inl (cy 0, 300, .inl (fun _ => 0))), ((r_2 3), .inl (cy 0, 300, .inl (fun _ => 0))), ((r_2 4), .inl (cy 0, 300, .inl (fun _ => 0))), ((r_2 5), .inl (cy 0, 300, .inl (fun _ => 0)))] := hD
  refine W.widen (k := 7) (n := 1806) (Nat.le_of_ble_eq_true rfl) (Nat.le_of_ble_eq_true rfl) ?_
  refine va_putF (ci := 5) (v := .ref q_1) (ty := .array (.array .int)) (C := RX5) (T := TX5) (N := 2) hx hb hts inX5 tyX5 tyX5_ok nmX5 hown hK hP hD hS 0 rfl rfl 0 (by decide) (hts _ gm_141) (fun _ h9 => h9) rfl hin rfl (by decide +kernel) rfl rfl (Nat.le_of_ble_eq_true rfl) dX5_init_14 (fun H locs hP hD hS => ?_)
  have hP : va_P G vwCl [(h0, .inr (5, [.ref q_1, .int 0])), (q_1, .inl (cy 3, 6, .inr (.inr (.inr (.inr (fun i => if i < 6 then some (r_2 i) else none)))))), ((r_2 0), .inl (cy 0, 300, .inl (fun _ => 0))), ((r_2 1), .inl (cy 0, 300, .inl (fun _ => 0))), ((r_2 2), .inl (cy 0, 300, .inl (fun _ => 0))), ((r_2 3), .inl (cy 0, 300, .inl (fun _ => 0))), ((r_2 4), .inl (cy 0, 300, .inl (fun _ => 0))), ((r_2 5), .inl (cy 0, 300, .inl (fun _ => 0)))] H := hP
  have hD : va_D A [(h0, .inr (5, [.ref q_1, .int 0])), (q_1, .inl (cy 3, 6, .inr (.inr (.inr (.inr (fun i => if i < 6 then some (r_2 i) else none)))))), ((r_2 0), .inl (cy 0, 300, .inl (fun _ => 0))), ((r_2 1), .inl (cy 0, 300, .inl (fun _ => 0))), ((r_2 2), .inl (cy 0, 300, .inl (fun _ => 0))), ((r_2 3), .inl (cy 0, 300, .inl (fun _ => 0))), ((r_2 4), .inl (cy 0, 300, .inl (fun _ => 0))), ((r_2 5), .inl (cy 0, 300, .inl (fun _ => 0)))] := hD
  refine lv_aload_n hx hb dX5_init_17 rfl (lv_at hl 0 rfl) ?_
  refine lv_iconst (v := 0) hx hb dX5_init_18 (by decide) ?_
  refine va_put (ci := 5) (v := .int 0) (ty := .int) (C := RX5) (T := TX5) (N := 2) hx hb hts inX5 tyX5 tyX5_ok nmX5 hown hK hP hD hS 0 rfl rfl 1 (by decide) (hts _ gm_143) (fun _ h9 => h9) rfl (by decide +kernel) rfl rfl (Nat.le_of_ble_eq_true rfl) dX5_init_19 (fun H locs hP hD hS => ?_)
  have hP : va_P G vwCl [(h0, .inr (5, [.ref q_1, .int 0])), (q_1, .inl (cy 3, 6, .inr (.inr (.inr (.inr (fun i => if i < 6 then some (r_2 i) else none)))))), ((r_2 0), .inl (cy 0, 300, .inl (fun _ => 0))), ((r_2 1), .inl (cy 0, 300, .inl (fun _ => 0))), ((r_2 2), .inl (cy 0, 300, .inl (fun _ => 0))), ((r_2 3), .inl (cy 0, 300, .inl (fun _ => 0))), ((r_2 4), .inl (cy 0, 300, .inl (fun _ => 0))), ((r_2 5), .inl (cy 0, 300, .inl (fun _ => 0)))] H := hP
  have hD : va_D A [(h0, .inr (5, [.ref q_1, .int 0])), (q_1, .inl (cy 3, 6, .inr (.inr (.inr (.inr (fun i => if i < 6 then some (r_2 i) else none)))))), ((r_2 0), .inl (cy 0, 300, .inl (fun _ => 0))), ((r_2 1), .inl (cy 0, 300, .inl (fun _ => 0))), ((r_2 2), .inl (cy 0, 300, .inl (fun _ => 0))), ((r_2 3), .inl (cy 0, 300, .inl (fun _ => 0))), ((r_2 4), .inl (cy 0, 300, .inl (fun _ => 0))), ((r_2 5), .inl (cy 0, 300, .inl (fun _ => 0)))] := hD
  exact gz_vret (p := p) (l := l) (e := e) (s := s) (m := m) (below := below) (meth := meth) (c := c) (H := H) (cells := 7) (slots := 1806) (mc := 7) (ms := 1806) (cf := (fun (u : Nat → Nat → Nat) => [(h0, .inr (5, [.ref (u 0 0), .int 0])), ((u 0 0), .inl (cy 3, 6, .inr (.inr (.inr (.inr (fun i => if i < 6 then some ((u 1) i) else none)))))), (((u 1) 0), .inl (cy 0, 300, .inl (fun _ => 0))), (((u 1) 1), .inl (cy 0, 300, .inl (fun _ => 0))), (((u 1) 2), .inl (cy 0, 300, .inl (fun _ => 0))), (((u 1) 3), .inl (cy 0, 300, .inl (fun _ => 0))), (((u 1) 4), .inl (cy 0, 300, .inl (fun _ => 0))), (((u 1) 5), .inl (cy 0, 300, .inl (fun _ => 0)))])) (post := (fun (u : Nat → Nat → Nat) => True)) hx hb hr hlocks hK hP hD hS (fun a => match a with | 0 => (fun k => match k with | 0 => q_1 | _ => 0) | 1 => r_2 | _ => fun _ => 0) [0, 1, 2, 3, 4, 5, 6, 7] trivial (by decide) rfl (by exact Nat.le_of_ble_eq_true rfl) (by exact Nat.le_of_ble_eq_true rfl) dX5_init_22

set_option maxHeartbeats 4000000 in
set_option maxRecDepth 100000 in
/-- WellCourt$Flock.<init> -/
theorem c_Flock_init (l : Launch) (G : va_G) (cy : Nat → ClassId) (sz : Nat) (h0 : Nat)  : gMv l yX2_init cX2_init 1 ({ frames := 1, cells := 5, slots := 20, locals := 23 }) G cy sz [.ref h0] [(h0, .inr (2, [.null, .null, .null, .null, .null]))] (fun (u : Nat → Nat → Nat) => True) (fun (u : Nat → Nat → Nat) => [(h0, .inr (2, [.ref (u 0 0), .ref (u 0 1), .ref (u 0 2), .ref (u 0 3), .ref (u 0 4)])), ((u 0 0), .inl (cy 0, 4, .inl (fun _ => (-1)))), ((u 0 1), .inl (cy 0, 4, .inl (fun _ => 0))), ((u 0 2), .inl (cy 0, 4, .inl (fun _ => 0))), ((u 0 3), .inl (cy 0, 4, .inl (fun _ => 0))), ((u 0 4), .inl (cy 0, 4, .inl (fun _ => 0)))]) := by
  refine gz_start (fun A => gQv G cy _ _ A) (by decide) (Nat.le_of_ble_eq_true rfl) ?_
  intro p e s m below meth c A ls H hx hb hr hml hlocks hin hown hts hK hov hsz hP hD hS hA hl
  have hl : lv_has ls 1 [(0, .ref h0)] := hl
  refine lv_aload_n hx hb dX2_init_0 rfl (lv_at hl 0 rfl) ?_
  refine W.objInit hx hb hown (hts _ gm_155) (hts _ gm_30) (hts _ gm_31) rfl (by rw [hml]; exact hl.1) rfl dX2_init_1 (Nat.le_of_ble_eq_true rfl) (Nat.le_of_ble_eq_true rfl) ?_
  refine W.eq (g2 := F0 m 4 ls []) rfl ?_
  refine lv_aload_n hx hb dX2_init_4 rfl (lv_at hl 0 rfl) ?_
  refine lv_iconst (v := 4) hx hb dX2_init_5 (by decide) ?_
  refine gz_newa (atype := .int) (t0 := 0) (a0 := (4, .inl (fun _ => 0))) hx hb rfl (fun _ _ h9 => h9) (hts _ gm_98) rfl hK hP hD hS hA (fun _ => rfl) (by decide) (by decide) (Nat.le_of_ble_eq_true rfl) (Nat.le_of_ble_eq_true rfl) (Nat.le_of_ble_eq_true rfl) dX2_init_6 (fun q_1 H hP hD hS => ?_)
  have hP : va_P G vwCl [(h0, .inr (2, [.null, .null, .null, .null, .null])), (q_1, .inl (cy 0, 4, .inl (fun _ => 0)))] H := hP
  have hD : va_D A [(h0, .inr (2, [.null, .null, .null, .null, .null])), (q_1, .inl (cy 0, 4, .inl (fun _ => 0)))] := hD
  refine W.widen (k := 1) (n := 4) (Nat.le_of_ble_eq_true rfl) (Nat.le_of_ble_eq_true rfl) ?_
  refine va_putF (ci := 2) (v := .ref q_1) (ty := .array .int) (C := RX2) (T := TX2) (N := 5) hx hb hts inX2 tyX2 tyX2_ok nmX2 hown hK hP hD hS 0 rfl rfl 0 (by decide) (hts _ gm_157) (fun _ h9 => h9) rfl hin rfl (by decide +kernel) rfl rfl (Nat.le_of_ble_eq_true rfl) dX2_init_8 (fun H locs hP hD hS => ?_)
  have hP : va_P G vwCl [(h0, .inr (2, [.ref q_1, .null, .null, .null, .null])), (q_1, .inl (cy 0, 4, .inl (fun _ => 0)))] H := hP
  have hD : va_D A [(h0, .inr (2, [.ref q_1, .null, .null, .null, .null])), (q_1, .inl (cy 0, 4, .inl (fun _ => 0)))] := hD
  refine lv_aload_n hx hb dX2_init_11 rfl (lv_at hl 0 rfl) ?_
  refine lv_iconst (v := 4) hx hb dX2_init_12 (by decide) ?_
  refine gz_newa (atype := .int) (t0 := 0) (a0 := (4, .inl (fun _ => 0))) hx hb rfl (fun _ _ h9 => h9) (hts _ gm_98) rfl hK hP hD hS hA (fun _ => rfl) (by decide) (by decide) (Nat.le_of_ble_eq_true rfl) (Nat.le_of_ble_eq_true rfl) (Nat.le_of_ble_eq_true rfl) dX2_init_13 (fun q_2 H hP hD hS => ?_)
  have hP : va_P G vwCl [(h0, .inr (2, [.ref q_1, .null, .null, .null, .null])), (q_1, .inl (cy 0, 4, .inl (fun _ => 0))), (q_2, .inl (cy 0, 4, .inl (fun _ => 0)))] H := hP
  have hD : va_D A [(h0, .inr (2, [.ref q_1, .null, .null, .null, .null])), (q_1, .inl (cy 0, 4, .inl (fun _ => 0))), (q_2, .inl (cy 0, 4, .inl (fun _ => 0)))] := hD
  refine W.widen (k := 2) (n := 8) (Nat.le_of_ble_eq_true rfl) (Nat.le_of_ble_eq_true rfl) ?_
  refine va_putF (ci := 2) (v := .ref q_2) (ty := .array .int) (C := RX2) (T := TX2) (N := 5) hx hb hts inX2 tyX2 tyX2_ok nmX2 hown hK hP hD hS 0 rfl rfl 1 (by decide) (hts _ gm_160) (fun _ h9 => h9) rfl hin rfl (by decide +kernel) rfl rfl (Nat.le_of_ble_eq_true rfl) dX2_init_15 (fun H locs hP hD hS => ?_)
  have hP : va_P G vwCl [(h0, .inr (2, [.ref q_1, .ref q_2, .null, .null, .null])), (q_1, .inl (cy 0, 4, .inl (fun _ => 0))), (q_2, .inl (cy 0, 4, .inl (fun _ => 0)))] H := hP
  have hD : va_D A [(h0, .inr (2, [.ref q_1, .ref q_2, .null, .null, .null])), (q_1, .inl (cy 0, 4, .inl (fun _ => 0))), (q_2, .inl (cy 0, 4, .inl (fun _ => 0)))] := hD
  refine lv_aload_n hx hb dX2_init_18 rfl (lv_at hl 0 rfl) ?_
  refine lv_iconst (v := 4) hx hb dX2_init_19 (by decide) ?_
  refine gz_newa (atype := .int) (t0 := 0) (a0 := (4, .inl (fun _ => 0))) hx hb rfl (fun _ _ h9 => h9) (hts _ gm_98) rfl hK hP hD hS hA (fun _ => rfl) (by decide) (by decide) (Nat.le_of_ble_eq_true rfl) (Nat.le_of_ble_eq_true rfl) (Nat.le_of_ble_eq_true rfl) dX2_init_20 (fun q_3 H hP hD hS => ?_)
  have hP : va_P G vwCl [(h0, .inr (2, [.ref q_1, .ref q_2, .null, .null, .null])), (q_1, .inl (cy 0, 4, .inl (fun _ => 0))), (q_2, .inl (cy 0, 4, .inl (fun _ => 0))), (q_3, .inl (cy 0, 4, .inl (fun _ => 0)))] H := hP
  have hD : va_D A [(h0, .inr (2, [.ref q_1, .ref q_2, .null, .null, .null])), (q_1, .inl (cy 0, 4, .inl (fun _ => 0))), (q_2, .inl (cy 0, 4, .inl (fun _ => 0))), (q_3, .inl (cy 0, 4, .inl (fun _ => 0)))] := hD
  refine W.widen (k := 3) (n := 12) (Nat.le_of_ble_eq_true rfl) (Nat.le_of_ble_eq_true rfl) ?_
  refine va_putF (ci := 2) (v := .ref q_3) (ty := .array .int) (C := RX2) (T := TX2) (N := 5) hx hb hts inX2 tyX2 tyX2_ok nmX2 hown hK hP hD hS 0 rfl rfl 2 (by decide) (hts _ gm_162) (fun _ h9 => h9) rfl hin rfl (by decide +kernel) rfl rfl (Nat.le_of_ble_eq_true rfl) dX2_init_22 (fun H locs hP hD hS => ?_)
  have hP : va_P G vwCl [(h0, .inr (2, [.ref q_1, .ref q_2, .ref q_3, .null, .null])), (q_1, .inl (cy 0, 4, .inl (fun _ => 0))), (q_2, .inl (cy 0, 4, .inl (fun _ => 0))), (q_3, .inl (cy 0, 4, .inl (fun _ => 0)))] H := hP
  have hD : va_D A [(h0, .inr (2, [.ref q_1, .ref q_2, .ref q_3, .null, .null])), (q_1, .inl (cy 0, 4, .inl (fun _ => 0))), (q_2, .inl (cy 0, 4, .inl (fun _ => 0))), (q_3, .inl (cy 0, 4, .inl (fun _ => 0)))] := hD
  refine lv_aload_n hx hb dX2_init_25 rfl (lv_at hl 0 rfl) ?_
  refine lv_iconst (v := 4) hx hb dX2_init_26 (by decide) ?_
  refine gz_newa (atype := .int) (t0 := 0) (a0 := (4, .inl (fun _ => 0))) hx hb rfl (fun _ _ h9 => h9) (hts _ gm_98) rfl hK hP hD hS hA (fun _ => rfl) (by decide) (by decide) (Nat.le_of_ble_eq_true rfl) (Nat.le_of_ble_eq_true rfl) (Nat.le_of_ble_eq_true rfl) dX2_init_27 (fun q_4 H hP hD hS => ?_)
  have hP : va_P G vwCl [(h0, .inr (2, [.ref q_1, .ref q_2, .ref q_3, .null, .null])), (q_1, .inl (cy 0, 4, .inl (fun _ => 0))), (q_2, .inl (cy 0, 4, .inl (fun _ => 0))), (q_3, .inl (cy 0, 4, .inl (fun _ => 0))), (q_4, .inl (cy 0, 4, .inl (fun _ => 0)))] H := hP
  have hD : va_D A [(h0, .inr (2, [.ref q_1, .ref q_2, .ref q_3, .null, .null])), (q_1, .inl (cy 0, 4, .inl (fun _ => 0))), (q_2, .inl (cy 0, 4, .inl (fun _ => 0))), (q_3, .inl (cy 0, 4, .inl (fun _ => 0))), (q_4, .inl (cy 0, 4, .inl (fun _ => 0)))] := hD
  refine W.widen (k := 4) (n := 16) (Nat.le_of_ble_eq_true rfl) (Nat.le_of_ble_eq_true rfl) ?_
  refine va_putF (ci := 2) (v := .ref q_4) (ty := .array .int) (C := RX2) (T := TX2) (N := 5) hx hb hts inX2 tyX2 tyX2_ok nmX2 hown hK hP hD hS 0 rfl rfl 3 (by decide) (hts _ gm_164) (fun _ h9 => h9) rfl hin rfl (by decide +kernel) rfl rfl (Nat.le_of_ble_eq_true rfl) dX2_init_29 (fun H locs hP hD hS => ?_)
  have hP : va_P G vwCl [(h0, .inr (2, [.ref q_1, .ref q_2, .ref q_3, .ref q_4, .null])), (q_1, .inl (cy 0, 4, .inl (fun _ => 0))), (q_2, .inl (cy 0, 4, .inl (fun _ => 0))), (q_3, .inl (cy 0, 4, .inl (fun _ => 0))), (q_4, .inl (cy 0, 4, .inl (fun _ => 0)))] H := hP
  have hD : va_D A [(h0, .inr (2, [.ref q_1, .ref q_2, .ref q_3, .ref q_4, .null])), (q_1, .inl (cy 0, 4, .inl (fun _ => 0))), (q_2, .inl (cy 0, 4, .inl (fun _ => 0))), (q_3, .inl (cy 0, 4, .inl (fun _ => 0))), (q_4, .inl (cy 0, 4, .inl (fun _ => 0)))] := hD
  refine lv_aload_n hx hb dX2_init_32 rfl (lv_at hl 0 rfl) ?_
  refine lv_iconst (v := 4) hx hb dX2_init_33 (by decide) ?_
  refine gz_newa (atype := .int) (t0 := 0) (a0 := (4, .inl (fun _ => 0))) hx hb rfl (fun _ _ h9 => h9) (hts _ gm_98) rfl hK hP hD hS hA (fun _ => rfl) (by decide) (by decide) (Nat.le_of_ble_eq_true rfl) (Nat.le_of_ble_eq_true rfl) (Nat.le_of_ble_eq_true rfl) dX2_init_34 (fun q_5 H hP hD hS => ?_)
  have hP : va_P G vwCl [(h0, .inr (2, [.ref q_1, .ref q_2, .ref q_3, .ref q_4, .null])), (q_1, .inl (cy 0, 4, .inl (fun _ => 0))), (q_2, .inl (cy 0, 4, .inl (fun _ => 0))), (q_3, .inl (cy 0, 4, .inl (fun _ => 0))), (q_4, .inl (cy 0, 4, .inl (fun _ => 0))), (q_5, .inl (cy 0, 4, .inl (fun _ => 0)))] H := hP
  have hD : va_D A [(h0, .inr (2, [.ref q_1, .ref q_2, .ref q_3, .ref q_4, .null])), (q_1, .inl (cy 0, 4, .inl (fun _ => 0))), (q_2, .inl (cy 0, 4, .inl (fun _ => 0))), (q_3, .inl (cy 0, 4, .inl (fun _ => 0))), (q_4, .inl (cy 0, 4, .inl (fun _ => 0))), (q_5, .inl (cy 0, 4, .inl (fun _ => 0)))] := hD
  refine W.widen (k := 5) (n := 20) (Nat.le_of_ble_eq_true rfl) (Nat.le_of_ble_eq_true rfl) ?_
  refine va_putF (ci := 2) (v := .ref q_5) (ty := .array .int) (C := RX2) (T := TX2) (N := 5) hx hb hts inX2 tyX2 tyX2_ok nmX2 hown hK hP hD hS 0 rfl rfl 4 (by decide) (hts _ gm_167) (fun _ h9 => h9) rfl hin rfl (by decide +kernel) rfl rfl (Nat.le_of_ble_eq_true rfl) dX2_init_36 (fun H locs hP hD hS => ?_)
  have hP : va_P G vwCl [(h0, .inr (2, [.ref q_1, .ref q_2, .ref q_3, .ref q_4, .ref q_5])), (q_1, .inl (cy 0, 4, .inl (fun _ => 0))), (q_2, .inl (cy 0, 4, .inl (fun _ => 0))), (q_3, .inl (cy 0, 4, .inl (fun _ => 0))), (q_4, .inl (cy 0, 4, .inl (fun _ => 0))), (q_5, .inl (cy 0, 4, .inl (fun _ => 0)))] H := hP
  have hD : va_D A [(h0, .inr (2, [.ref q_1, .ref q_2, .ref q_3, .ref q_4, .ref q_5])), (q_1, .inl (cy 0, 4, .inl (fun _ => 0))), (q_2, .inl (cy 0, 4, .inl (fun _ => 0))), (q_3, .inl (cy 0, 4, .inl (fun _ => 0))), (q_4, .inl (cy 0, 4, .inl (fun _ => 0))), (q_5, .inl (cy 0, 4, .inl (fun _ => 0)))] := hD
  refine lv_aload_n hx hb dX2_init_39 rfl (lv_at hl 0 rfl) ?_
  refine va_get (ci := 2) (v := .ref q_1) (C := RX2) (T := TX2) (N := 5) hx hb hts inX2 hown hK hP 0 rfl rfl 0 (by decide) (hts _ gm_157) (fun _ h9 => h9) rfl dX2_init_40 ?_
  refine lv_iconst (v := (-1)) hx hb dX2_init_43 (by decide) ?_
  refine gz_aftv (va_runS (As := [.ref q_1, .int (-1)]) (rest := []) ⟨hx, hb, hml, hown, hts⟩ (c_fill l G cy H.size q_1 4 (fun _ => 0) (-1) (by decide)) ⟨(gz_cb (n := 2) hts gm_156 gm_6 gm_108 ⟨by decide +kernel, by decide +kernel, by decide +kernel⟩ ⟨Nat.le_of_ble_eq_true rfl, Nat.le_of_ble_eq_true rfl⟩), hts _ gm_107⟩ (gz_preS hK hov hP hD [1] (by decide) rfl) rfl rfl hl.1 rfl (lv_room (Nat.le_of_ble_eq_true rfl)) dX2_init_44 ⟨Nat.le_of_ble_eq_true rfl, Nat.le_of_ble_eq_true rfl⟩) hP hD hS hA [1] [0, 2, 3, 4, 5] rfl rfl (by decide) (by decide) (fun u_6 H locs hw_6 hP hD hS => ?_)
  have hP : va_P G vwCl [(h0, .inr (2, [.ref q_1, .ref q_2, .ref q_3, .ref q_4, .ref q_5])), (q_2, .inl (cy 0, 4, .inl (fun _ => 0))), (q_3, .inl (cy 0, 4, .inl (fun _ => 0))), (q_4, .inl (cy 0, 4, .inl (fun _ => 0))), (q_5, .inl (cy 0, 4, .inl (fun _ => 0))), (q_1, .inl (cy 0, 4, .inl (fun _ => (-1))))] H := hP
  have hD : va_D A [(h0, .inr (2, [.ref q_1, .ref q_2, .ref q_3, .ref q_4, .ref q_5])), (q_2, .inl (cy 0, 4, .inl (fun _ => 0))), (q_3, .inl (cy 0, 4, .inl (fun _ => 0))), (q_4, .inl (cy 0, 4, .inl (fun _ => 0))), (q_5, .inl (cy 0, 4, .inl (fun _ => 0))), (q_1, .inl (cy 0, 4, .inl (fun _ => (-1))))] := hD
  exact gz_vret (p := p) (l := l) (e := e) (s := s) (m := m) (below := below) (meth := meth) (c := c) (H := H) (cells := 5) (slots := 20) (mc := 5) (ms := 20) (cf := (fun (u : Nat → Nat → Nat) => [(h0, .inr (2, [.ref (u 0 0), .ref (u 0 1), .ref (u 0 2), .ref (u 0 3), .ref (u 0 4)])), ((u 0 0), .inl (cy 0, 4, .inl (fun _ => (-1)))), ((u 0 1), .inl (cy 0, 4, .inl (fun _ => 0))), ((u 0 2), .inl (cy 0, 4, .inl (fun _ => 0))), ((u 0 3), .inl (cy 0, 4, .inl (fun _ => 0))), ((u 0 4), .inl (cy 0, 4, .inl (fun _ => 0)))])) (post := (fun (u : Nat → Nat → Nat) => True)) hx hb hr hlocks hK hP hD hS (fun a => match a with | 0 => (fun k => match k with | 0 => q_1 | 1 => q_2 | 2 => q_3 | 3 => q_4 | 4 => q_5 | _ => 0)  | _ => fun _ => 0) [0, 5, 1, 2, 3, 4] trivial (by decide) rfl (by exact Nat.le_of_ble_eq_true rfl) (by exact Nat.le_of_ble_eq_true rfl) dX2_init_47

set_option maxHeartbeats 4000000 in
set_option maxRecDepth 100000 in
/-- WellCourt$Law.<init> -/
theorem c_Law_init (l : Launch) (G : va_G) (cy : Nat → ClassId) (sz : Nat) (h0 : Nat)  : gMv l yX4_init cX4_init 1 ({ frames := 1, cells := 17, slots := 596, locals := 20 }) G cy sz [.ref h0] [(h0, .inr (4, [.int 0, .null, .null, .null, .null, .int 0, .null, .null, .null, .int 0, .null, .null, .null, .null]))] (fun (u : Nat → Nat → Nat) => True) (fun (u : Nat → Nat → Nat) => [(h0, .inr (4, [.int 0, .ref (u 0 0), .ref (u 0 1), .ref (u 0 2), .ref (u 0 3), .int 0, .ref (u 0 4), .ref (u 0 5), .ref (u 0 6), .int 0, .ref (u 0 7), .ref (u 0 8), .ref (u 0 9), .ref (u 0 10)])), ((u 0 0), .inl (cy 3, 6, .inr (.inr (.inr (.inr (fun i => if i < 6 then some ((u 1) i) else none)))))), (((u 1) 0), .inl (cy 0, 72, .inl (fun _ => 0))), (((u 1) 1), .inl (cy 0, 72, .inl (fun _ => 0))), (((u 1) 2), .inl (cy 0, 72, .inl (fun _ => 0))), (((u 1) 3), .inl (cy 0, 72, .inl (fun _ => 0))), (((u 1) 4), .inl (cy 0, 72, .inl (fun _ => 0))), (((u 1) 5), .inl (cy 0, 72, .inl (fun _ => 0))), ((u 0 1), .inl (cy 0, 6, .inl (fun _ => 0))), ((u 0 2), .inl (cy 0, 6, .inl (fun _ => 0))), ((u 0 3), .inl (cy 0, 6, .inl (fun _ => 0))), ((u 0 4), .inl (cy 0, 20, .inl (fun _ => 0))), ((u 0 5), .inl (cy 0, 20, .inl (fun _ => 0))), ((u 0 6), .inl (cy 0, 20, .inl (fun _ => 0))), ((u 0 7), .inl (cy 0, 20, .inl (fun _ => 0))), ((u 0 8), .inl (cy 0, 20, .inl (fun _ => 0))), ((u 0 9), .inl (cy 0, 20, .inl (fun _ => 0))), ((u 0 10), .inl (cy 0, 20, .inl (fun _ => 0)))]) := by
  refine gz_start (fun A => gQv G cy _ _ A) (by decide) (Nat.le_of_ble_eq_true rfl) ?_
  intro p e s m below meth c A ls H hx hb hr hml hlocks hin hown hts hK hov hsz hP hD hS hA hl
  have hl : lv_has ls 1 [(0, .ref h0)] := hl
  refine lv_aload_n hx hb dX4_init_0 rfl (lv_at hl 0 rfl) ?_
  refine W.objInit hx hb hown (hts _ gm_186) (hts _ gm_30) (hts _ gm_31) rfl (by rw [hml]; exact hl.1) rfl dX4_init_1 (Nat.le_of_ble_eq_true rfl) (Nat.le_of_ble_eq_true rfl) ?_
  refine W.eq (g2 := F0 m 4 ls []) rfl ?_
  refine lv_aload_n hx hb dX4_init_4 rfl (lv_at hl 0 rfl) ?_
  refine lv_iconst (v := 0) hx hb dX4_init_5 (by decide) ?_
  refine va_put (ci := 4) (v := .int 0) (ty := .int) (C := RX4) (T := TX4) (N := 14) hx hb hts inX4 tyX4 tyX4_ok nmX4 hown hK hP hD hS 0 rfl rfl 0 (by decide) (hts _ gm_188) (fun _ h9 => h9) rfl (by decide +kernel) rfl rfl (Nat.le_of_ble_eq_true rfl) dX4_init_6 (fun H locs hP hD hS => ?_)
  have hP : va_P G vwCl [(h0, .inr (4, [.int 0, .null, .null, .null, .null, .int 0, .null, .null, .null, .int 0, .null, .null, .null, .null]))] H := hP
  have hD : va_D A [(h0, .inr (4, [.int 0, .null, .null, .null, .null, .int 0, .null, .null, .null, .int 0, .null, .null, .null, .null]))] := hD
  refine lv_aload_n hx hb dX4_init_9 rfl (lv_at hl 0 rfl) ?_
  refine lv_bipush (v := 6) hx hb dX4_init_10 (by decide) ?_
  refine lv_bipush (v := 72) hx hb dX4_init_12 (by decide) ?_
  refine gz_mna (N' := 6) (K' := 72) hx hb hown (hts _ gm_187) hov.1 (hts _ gm_98) hK hP hD hS hA (by decide) (by decide) (by decide) (by decide) (Nat.le_of_ble_eq_true rfl) (Nat.le_of_ble_eq_true rfl) (Nat.le_of_ble_eq_true rfl) (Nat.le_of_ble_eq_true rfl) (Nat.le_of_ble_eq_true rfl) dX4_init_14 (fun q_1 r_2 H hP hD hS => ?_)
  have hP : va_P G vwCl [(h0, .inr (4, [.int 0, .null, .null, .null, .null, .int 0, .null, .null, .null, .int 0, .null, .null, .null, .null])), (q_1, .inl (cy 3, 6, .inr (.inr (.inr (.inr (fun i => if i < 6 then some (r_2 i) else none)))))), ((r_2 0), .inl (cy 0, 72, .inl (fun _ => 0))), ((r_2 1), .inl (cy 0, 72, .inl (fun _ => 0))), ((r_2 2), .inl (cy 0, 72, .inl (fun _ => 0))), ((r_2 3), .inl (cy 0, 72, .inl (fun _ => 0))), ((r_2 4), .inl (cy 0, 72, .inl (fun _ => 0))), ((r_2 5), .inl (cy 0, 72, .inl (fun _ => 0)))] H := hP
  have hD : va_D A [(h0, .inr (4, [.int 0, .null, .null, .null, .null, .int 0, .null, .null, .null, .int 0, .null, .null, .null, .null])), (q_1, .inl (cy 3, 6, .inr (.inr (.inr (.inr (fun i => if i < 6 then some (r_2 i) else none)))))), ((r_2 0), .inl (cy 0, 72, .inl (fun _ => 0))), ((r_2 1), .inl (cy 0, 72, .inl (fun _ => 0))), ((r_2 2), .inl (cy 0, 72, .inl (fun _ => 0))), ((r_2 3), .inl (cy 0, 72, .inl (fun _ => 0))), ((r_2 4), .inl (cy 0, 72, .inl (fun _ => 0))), ((r_2 5), .inl (cy 0, 72, .inl (fun _ => 0)))] := hD
  refine W.widen (k := 7) (n := 438) (Nat.le_of_ble_eq_true rfl) (Nat.le_of_ble_eq_true rfl) ?_
  refine va_putF (ci := 4) (v := .ref q_1) (ty := .array (.array .int)) (C := RX4) (T := TX4) (N := 14) hx hb hts inX4 tyX4 tyX4_ok nmX4 hown hK hP hD hS 0 rfl rfl 1 (by decide) (hts _ gm_191) (fun _ h9 => h9) rfl hin rfl (by decide +kernel) rfl rfl (Nat.le_of_ble_eq_true rfl) dX4_init_18 (fun H locs hP hD hS => ?_)
  have hP : va_P G vwCl [(h0, .inr (4, [.int 0, .ref q_1, .null, .null, .null, .int 0, .null, .null, .null, .int 0, .null, .null, .null, .null])), (q_1, .inl (cy 3, 6, .inr (.inr (.inr (.inr (fun i => if i < 6 then some (r_2 i) else none)))))), ((r_2 0), .inl (cy 0, 72, .inl (fun _ => 0))), ((r_2 1), .inl (cy 0, 72, .inl (fun _ => 0))), ((r_2 2), .inl (cy 0, 72, .inl (fun _ => 0))), ((r_2 3), .inl (cy 0, 72, .inl (fun _ => 0))), ((r_2 4), .inl (cy 0, 72, .inl (fun _ => 0))), ((r_2 5), .inl (cy 0, 72, .inl (fun _ => 0)))] H := hP
  have hD : va_D A [(h0, .inr (4, [.int 0, .ref q_1, .null, .null, .null, .int 0, .null, .null, .null, .int 0, .null, .null, .null, .null])), (q_1, .inl (cy 3, 6, .inr (.inr (.inr (.inr (fun i => if i < 6 then some (r_2 i) else none)))))), ((r_2 0), .inl (cy 0, 72, .inl (fun _ => 0))), ((r_2 1), .inl (cy 0, 72, .inl (fun _ => 0))), ((r_2 2), .inl (cy 0, 72, .inl (fun _ => 0))), ((r_2 3), .inl (cy 0, 72, .inl (fun _ => 0))), ((r_2 4), .inl (cy 0, 72, .inl (fun _ => 0))), ((r_2 5), .inl (cy 0, 72, .inl (fun _ => 0)))] := hD
  refine lv_aload_n hx hb dX4_init_21 rfl (lv_at hl 0 rfl) ?_
  refine lv_bipush (v := 6) hx hb dX4_init_22 (by decide) ?_
  refine gz_newa (atype := .int) (t0 := 0) (a0 := (6, .inl (fun _ => 0))) hx hb rfl (fun _ _ h9 => h9) (hts _ gm_98) rfl hK hP hD hS hA (fun _ => rfl) (by decide) (by decide) (Nat.le_of_ble_eq_true rfl) (Nat.le_of_ble_eq_true rfl) (Nat.le_of_ble_eq_true rfl) dX4_init_24 (fun q_3 H hP hD hS => ?_)
  have hP : va_P G vwCl [(h0, .inr (4, [.int 0, .ref q_1, .null, .null, .null, .int 0, .null, .null, .null, .int 0, .null, .null, .null, .null])), (q_1, .inl (cy 3, 6, .inr (.inr (.inr (.inr (fun i => if i < 6 then some (r_2 i) else none)))))), ((r_2 0), .inl (cy 0, 72, .inl (fun _ => 0))), ((r_2 1), .inl (cy 0, 72, .inl (fun _ => 0))), ((r_2 2), .inl (cy 0, 72, .inl (fun _ => 0))), ((r_2 3), .inl (cy 0, 72, .inl (fun _ => 0))), ((r_2 4), .inl (cy 0, 72, .inl (fun _ => 0))), ((r_2 5), .inl (cy 0, 72, .inl (fun _ => 0))), (q_3, .inl (cy 0, 6, .inl (fun _ => 0)))] H := hP
  have hD : va_D A [(h0, .inr (4, [.int 0, .ref q_1, .null, .null, .null, .int 0, .null, .null, .null, .int 0, .null, .null, .null, .null])), (q_1, .inl (cy 3, 6, .inr (.inr (.inr (.inr (fun i => if i < 6 then some (r_2 i) else none)))))), ((r_2 0), .inl (cy 0, 72, .inl (fun _ => 0))), ((r_2 1), .inl (cy 0, 72, .inl (fun _ => 0))), ((r_2 2), .inl (cy 0, 72, .inl (fun _ => 0))), ((r_2 3), .inl (cy 0, 72, .inl (fun _ => 0))), ((r_2 4), .inl (cy 0, 72, .inl (fun _ => 0))), ((r_2 5), .inl (cy 0, 72, .inl (fun _ => 0))), (q_3, .inl (cy 0, 6, .inl (fun _ => 0)))] := hD
  refine W.widen (k := 8) (n := 444) (Nat.le_of_ble_eq_true rfl) (Nat.le_of_ble_eq_true rfl) ?_
  refine va_putF (ci := 4) (v := .ref q_3) (ty := .array .int) (C := RX4) (T := TX4) (N := 14) hx hb hts inX4 tyX4 tyX4_ok nmX4 hown hK hP hD hS 0 rfl rfl 2 (by decide) (hts _ gm_192) (fun _ h9 => h9) rfl hin rfl (by decide +kernel) rfl rfl (Nat.le_of_ble_eq_true rfl) dX4_init_26 (fun H locs hP hD hS => ?_)
  have hP : va_P G vwCl [(h0, .inr (4, [.int 0, .ref q_1, .ref q_3, .null, .null, .int 0, .null, .null, .null, .int 0, .null, .null, .null, .null])), (q_1, .inl (cy 3, 6, .inr (.inr (.inr (.inr (fun i => if i < 6 then some (r_2 i) else none)))))), ((r_2 0), .inl (cy 0, 72, .inl (fun _ => 0))), ((r_2 1), .inl (cy 0, 72, .inl (fun _ => 0))), ((r_2 2), .inl (cy 0, 72, .inl (fun _ => 0))), ((r_2 3), .inl (cy 0, 72, .inl (fun _ => 0))), ((r_2 4), .inl (cy 0, 72, .inl (fun _ => 0))), ((r_2 5), .inl (cy 0, 72, .inl (fun _ => 0))), (q_3, .inl (cy 0, 6, .inl (fun _ => 0)))] H := hP
  have hD : va_D A [(h0, .inr (4, [.int 0, .ref q_1, .ref q_3, .null, .null, .int 0, .null, .null, .null, .int 0, .null, .null, .null, .null])), (q_1, .inl (cy 3, 6, .inr (.inr (.inr (.inr (fun i => if i < 6 then some (r_2 i) else none)))))), ((r_2 0), .inl (cy 0, 72, .inl (fun _ => 0))), ((r_2 1), .inl (cy 0, 72, .inl (fun _ => 0))), ((r_2 2), .inl (cy 0, 72, .inl (fun _ => 0))), ((r_2 3), .inl (cy 0, 72, .inl (fun _ => 0))), ((r_2 4), .inl (cy 0, 72, .inl (fun _ => 0))), ((r_2 5), .inl (cy 0, 72, .inl (fun _ => 0))), (q_3, .inl (cy 0, 6, .inl (fun _ => 0)))] := hD
  refine lv_aload_n hx hb dX4_init_29 rfl (lv_at hl 0 rfl) ?_
  refine lv_bipush (v := 6) hx hb dX4_init_30 (by decide) ?_
  refine gz_newa (atype := .int) (t0 := 0) (a0 := (6, .inl (fun _ => 0))) hx hb rfl (fun _ _ h9 => h9) (hts _ gm_98) rfl hK hP hD hS hA (fun _ => rfl) (by decide) (by decide) (Nat.le_of_ble_eq_true rfl) (Nat.le_of_ble_eq_true rfl) (Nat.le_of_ble_eq_true rfl) dX4_init_32 (fun q_4 H hP hD hS => ?_)
  have hP : va_P G vwCl [(h0, .inr (4, [.int 0, .ref q_1, .ref q_3, .null, .null, .int 0, .null, .null, .null, .int 0, .null, .null, .null, .null])), (q_1, .inl (cy 3, 6, .inr (.inr (.inr (.inr (fun i => if i < 6 then some (r_2 i) else none)))))), ((r_2 0), .inl (cy 0, 72, .inl (fun _ => 0))), ((r_2 1), .inl (cy 0, 72, .inl (fun _ => 0))), ((r_2 2), .inl (cy 0, 72, .inl (fun _ => 0))), ((r_2 3), .inl (cy 0, 72, .inl (fun _ => 0))), ((r_2 4), .inl (cy 0, 72, .inl (fun _ => 0))), ((r_2 5), .inl (cy 0, 72, .inl (fun _ => 0))), (q_3, .inl (cy 0, 6, .inl (fun _ => 0))), (q_4, .inl (cy 0, 6, .inl (fun _ => 0)))] H := hP
  have hD : va_D A [(h0, .inr (4, [.int 0, .ref q_1, .ref q_3, .null, .null, .int 0, .null, .null, .null, .int 0, .null, .null, .null, .null])), (q_1, .inl (cy 3, 6, .inr (.inr (.inr (.inr (fun i => if i < 6 then some (r_2 i) else none)))))), ((r_2 0), .inl (cy 0, 72, .inl (fun _ => 0))), ((r_2 1), .inl (cy 0, 72, .inl (fun _ => 0))), ((r_2 2), .inl (cy 0, 72, .inl (fun _ => 0))), ((r_2 3), .inl (cy 0, 72, .inl (fun _ => 0))), ((r_2 4), .inl (cy 0, 72, .inl (fun _ => 0))), ((r_2 5), .inl (cy 0, 72, .inl (fun _ => 0))), (q_3, .inl (cy 0, 6, .inl (fun _ => 0))), (q_4, .inl (cy 0, 6, .inl (fun _ => 0)))] := hD
  refine W.widen (k := 9) (n := 450) (Nat.le_of_ble_eq_true rfl) (Nat.le_of_ble_eq_true rfl) ?_
  refine va_putF (ci := 4) (v := .ref q_4) (ty := .array .int) (C := RX4) (T := TX4) (N := 14) hx hb hts inX4 tyX4 tyX4_ok nmX4 hown hK hP hD hS 0 rfl rfl 3 (by decide) (hts _ gm_193) (fun _ h9 => h9) rfl hin rfl (by decide +kernel) rfl rfl (Nat.le_of_ble_eq_true rfl) dX4_init_34 (fun H locs hP hD hS => ?_)
  have hP : va_P G vwCl [(h0, .inr (4, [.int 0, .ref q_1, .ref q_3, .ref q_4, .null, .int 0, .null, .null, .null, .int 0, .null, .null, .null, .null])), (q_1, .inl (cy 3, 6, .inr (.inr (.inr (.inr (fun i => if i < 6 then some (r_2 i) else none)))))), ((r_2 0), .inl (cy 0, 72, .inl (fun _ => 0))), ((r_2 1), .inl (cy 0, 72, .inl (fun _ => 0))), ((r_2 2), .inl (cy 0, 72, .inl (fun _ => 0))), ((r_2 3), .inl (cy 0, 72, .inl (fun _ => 0))), ((r_2 4), .inl (cy 0, 72, .inl (fun _ => 0))), ((r_2 5), .inl (cy 0, 72, .inl (fun _ => 0))), (q_3, .inl (cy 0, 6, .inl (fun _ => 0))), (q_4, .inl (cy 0, 6, .inl (fun _ => 0)))] H := hP
  have hD : va_D A [(h0, .inr (4, [.int 0, .ref q_1, .ref q_3, .ref q_4, .null, .int 0, .null, .null, .null, .int 0, .null, .null, .null, .null])), (q_1, .inl (cy 3, 6, .inr (.inr (.inr (.inr (fun i => if i < 6 then some (r_2 i) else none)))))), ((r_2 0), .inl (cy 0, 72, .inl (fun _ => 0))), ((r_2 1), .inl (cy 0, 72, .inl (fun _ => 0))), ((r_2 2), .inl (cy 0, 72, .inl (fun _ => 0))), ((r_2 3), .inl (cy 0, 72, .inl (fun _ => 0))), ((r_2 4), .inl (cy 0, 72, .inl (fun _ => 0))), ((r_2 5), .inl (cy 0, 72, .inl (fun _ => 0))), (q_3, .inl (cy 0, 6, .inl (fun _ => 0))), (q_4, .inl (cy 0, 6, .inl (fun _ => 0)))] := hD
  refine lv_aload_n hx hb dX4_init_37 rfl (lv_at hl 0 rfl) ?_
  refine lv_bipush (v := 6) hx hb dX4_init_38 (by decide) ?_
  refine gz_newa (atype := .int) (t0 := 0) (a0 := (6, .inl (fun _ => 0))) hx hb rfl (fun _ _ h9 => h9) (hts _ gm_98) rfl hK hP hD hS hA (fun _ => rfl) (by decide) (by decide) (Nat.le_of_ble_eq_true rfl) (Nat.le_of_ble_eq_true rfl) (Nat.le_of_ble_eq_true rfl) dX4_init_40 (fun q_5 H hP hD hS => ?_)
  have hP : va_P G vwCl [(h0, .inr (4, [.int 0, .ref q_1, .ref q_3, .ref q_4, .null, .int 0, .null, .null, .null, .int 0, .null, .null, .null, .null])), (q_1, .inl (cy 3, 6, .inr (.inr (.inr (.inr (fun i => if i < 6 then some (r_2 i) else none)))))), ((r_2 0), .inl (cy 0, 72, .inl (fun _ => 0))), ((r_2 1), .inl (cy 0, 72, .inl (fun _ => 0))), ((r_2 2), .inl (cy 0, 72, .inl (fun _ => 0))), ((r_2 3), .inl (cy 0, 72, .inl (fun _ => 0))), ((r_2 4), .inl (cy 0, 72, .inl (fun _ => 0))), ((r_2 5), .inl (cy 0, 72, .inl (fun _ => 0))), (q_3, .inl (cy 0, 6, .inl (fun _ => 0))), (q_4, .inl (cy 0, 6, .inl (fun _ => 0))), (q_5, .inl (cy 0, 6, .inl (fun _ => 0)))] H := hP
  have hD : va_D A [(h0, .inr (4, [.int 0, .ref q_1, .ref q_3, .ref q_4, .null, .int 0, .null, .null, .null, .int 0, .null, .null, .null, .null])), (q_1, .inl (cy 3, 6, .inr (.inr (.inr (.inr (fun i => if i < 6 then some (r_2 i) else none)))))), ((r_2 0), .inl (cy 0, 72, .inl (fun _ => 0))), ((r_2 1), .inl (cy 0, 72, .inl (fun _ => 0))), ((r_2 2), .inl (cy 0, 72, .inl (fun _ => 0))), ((r_2 3), .inl (cy 0, 72, .inl (fun _ => 0))), ((r_2 4), .inl (cy 0, 72, .inl (fun _ => 0))), ((r_2 5), .inl (cy 0, 72, .inl (fun _ => 0))), (q_3, .inl (cy 0, 6, .inl (fun _ => 0))), (q_4, .inl (cy 0, 6, .inl (fun _ => 0))), (q_5, .inl (cy 0, 6, .inl (fun _ => 0)))] := hD
  refine W.widen (k := 10) (n := 456) (Nat.le_of_ble_eq_true rfl) (Nat.le_of_ble_eq_true rfl) ?_
  refine va_putF (ci := 4) (v := .ref q_5) (ty := .array .int) (C := RX4) (T := TX4) (N := 14) hx hb hts inX4 tyX4 tyX4_ok nmX4 hown hK hP hD hS 0 rfl rfl 4 (by decide) (hts _ gm_194) (fun _ h9 => h9) rfl hin rfl (by decide +kernel) rfl rfl (Nat.le_of_ble_eq_true rfl) dX4_init_42 (fun H locs hP hD hS => ?_)
  have hP : va_P G vwCl [(h0, .inr (4, [.int 0, .ref q_1, .ref q_3, .ref q_4, .ref q_5, .int 0, .null, .null, .null, .int 0, .null, .null, .null, .null])), (q_1, .inl (cy 3, 6, .inr (.inr (.inr (.inr (fun i => if i < 6 then some (r_2 i) else none)))))), ((r_2 0), .inl (cy 0, 72, .inl (fun _ => 0))), ((r_2 1), .inl (cy 0, 72, .inl (fun _ => 0))), ((r_2 2), .inl (cy 0, 72, .inl (fun _ => 0))), ((r_2 3), .inl (cy 0, 72, .inl (fun _ => 0))), ((r_2 4), .inl (cy 0, 72, .inl (fun _ => 0))), ((r_2 5), .inl (cy 0, 72, .inl (fun _ => 0))), (q_3, .inl (cy 0, 6, .inl (fun _ => 0))), (q_4, .inl (cy 0, 6, .inl (fun _ => 0))), (q_5, .inl (cy 0, 6, .inl (fun _ => 0)))] H := hP
  have hD : va_D A [(h0, .inr (4, [.int 0, .ref q_1, .ref q_3, .ref q_4, .ref q_5, .int 0, .null, .null, .null, .int 0, .null, .null, .null, .null])), (q_1, .inl (cy 3, 6, .inr (.inr (.inr (.inr (fun i => if i < 6 then some (r_2 i) else none)))))), ((r_2 0), .inl (cy 0, 72, .inl (fun _ => 0))), ((r_2 1), .inl (cy 0, 72, .inl (fun _ => 0))), ((r_2 2), .inl (cy 0, 72, .inl (fun _ => 0))), ((r_2 3), .inl (cy 0, 72, .inl (fun _ => 0))), ((r_2 4), .inl (cy 0, 72, .inl (fun _ => 0))), ((r_2 5), .inl (cy 0, 72, .inl (fun _ => 0))), (q_3, .inl (cy 0, 6, .inl (fun _ => 0))), (q_4, .inl (cy 0, 6, .inl (fun _ => 0))), (q_5, .inl (cy 0, 6, .inl (fun _ => 0)))] := hD
  refine lv_aload_n hx hb dX4_init_45 rfl (lv_at hl 0 rfl) ?_
  refine lv_iconst (v := 0) hx hb dX4_init_46 (by decide) ?_
  refine va_put (ci := 4) (v := .int 0) (ty := .int) (C := RX4) (T := TX4) (N := 14) hx hb hts inX4 tyX4 tyX4_ok nmX4 hown hK hP hD hS 0 rfl rfl 5 (by decide) (hts _ gm_195) (fun _ h9 => h9) rfl (by decide +kernel) rfl rfl (Nat.le_of_ble_eq_true rfl) dX4_init_47 (fun H locs hP hD hS => ?_)
  have hP : va_P G vwCl [(h0, .inr (4, [.int 0, .ref q_1, .ref q_3, .ref q_4, .ref q_5, .int 0, .null, .null, .null, .int 0, .null, .null, .null, .null])), (q_1, .inl (cy 3, 6, .inr (.inr (.inr (.inr (fun i => if i < 6 then some (r_2 i) else none)))))), ((r_2 0), .inl (cy 0, 72, .inl (fun _ => 0))), ((r_2 1), .inl (cy 0, 72, .inl (fun _ => 0))), ((r_2 2), .inl (cy 0, 72, .inl (fun _ => 0))), ((r_2 3), .inl (cy 0, 72, .inl (fun _ => 0))), ((r_2 4), .inl (cy 0, 72, .inl (fun _ => 0))), ((r_2 5), .inl (cy 0, 72, .inl (fun _ => 0))), (q_3, .inl (cy 0, 6, .inl (fun _ => 0))), (q_4, .inl (cy 0, 6, .inl (fun _ => 0))), (q_5, .inl (cy 0, 6, .inl (fun _ => 0)))] H := hP
  have hD : va_D A [(h0, .inr (4, [.int 0, .ref q_1, .ref q_3, .ref q_4, .ref q_5, .int 0, .null, .null, .null, .int 0, .null, .null, .null, .null])), (q_1, .inl (cy 3, 6, .inr (.inr (.inr (.inr (fun i => if i < 6 then some (r_2 i) else none)))))), ((r_2 0), .inl (cy 0, 72, .inl (fun _ => 0))), ((r_2 1), .inl (cy 0, 72, .inl (fun _ => 0))), ((r_2 2), .inl (cy 0, 72, .inl (fun _ => 0))), ((r_2 3), .inl (cy 0, 72, .inl (fun _ => 0))), ((r_2 4), .inl (cy 0, 72, .inl (fun _ => 0))), ((r_2 5), .inl (cy 0, 72, .inl (fun _ => 0))), (q_3, .inl (cy 0, 6, .inl (fun _ => 0))), (q_4, .inl (cy 0, 6, .inl (fun _ => 0))), (q_5, .inl (cy 0, 6, .inl (fun _ => 0)))] := hD
  refine lv_aload_n hx hb dX4_init_50 rfl (lv_at hl 0 rfl) ?_
  refine lv_bipush (v := 20) hx hb dX4_init_51 (by decide) ?_
  refine gz_newa (atype := .int) (t0 := 0) (a0 := (20, .inl (fun _ => 0))) hx hb rfl (fun _ _ h9 => h9) (hts _ gm_98) rfl hK hP hD hS hA (fun _ => rfl) (by decide) (by decide) (Nat.le_of_ble_eq_true rfl) (Nat.le_of_ble_eq_true rfl) (Nat.le_of_ble_eq_true rfl) dX4_init_53 (fun q_6 H hP hD hS => ?_)
  have hP : va_P G vwCl [(h0, .inr (4, [.int 0, .ref q_1, .ref q_3, .ref q_4, .ref q_5, .int 0, .null, .null, .null, .int 0, .null, .null, .null, .null])), (q_1, .inl (cy 3, 6, .inr (.inr (.inr (.inr (fun i => if i < 6 then some (r_2 i) else none)))))), ((r_2 0), .inl (cy 0, 72, .inl (fun _ => 0))), ((r_2 1), .inl (cy 0, 72, .inl (fun _ => 0))), ((r_2 2), .inl (cy 0, 72, .inl (fun _ => 0))), ((r_2 3), .inl (cy 0, 72, .inl (fun _ => 0))), ((r_2 4), .inl (cy 0, 72, .inl (fun _ => 0))), ((r_2 5), .inl (cy 0, 72, .inl (fun _ => 0))), (q_3, .inl (cy 0, 6, .inl (fun _ => 0))), (q_4, .inl (cy 0, 6, .inl (fun _ => 0))), (q_5, .inl (cy 0, 6, .inl (fun _ => 0))), (q_6, .inl (cy 0, 20, .inl (fun _ => 0)))] H := hP
  have hD : va_D A [(h0, .inr (4, [.int 0, .ref q_1, .ref q_3, .ref q_4, .ref q_5, .int 0, .null, .null, .null, .int 0, .null, .null, .null, .null])), (q_1, .inl (cy 3, 6, .inr (.inr (.inr (.inr (fun i => if i < 6 then some (r_2 i) else none)))))), ((r_2 0), .inl (cy 0, 72, .inl (fun _ => 0))), ((r_2 1), .inl (cy 0, 72, .inl (fun _ => 0))), ((r_2 2), .inl (cy 0, 72, .inl (fun _ => 0))), ((r_2 3), .inl (cy 0, 72, .inl (fun _ => 0))), ((r_2 4), .inl (cy 0, 72, .inl (fun _ => 0))), ((r_2 5), .inl (cy 0, 72, .inl (fun _ => 0))), (q_3, .inl (cy 0, 6, .inl (fun _ => 0))), (q_4, .inl (cy 0, 6, .inl (fun _ => 0))), (q_5, .inl (cy 0, 6, .inl (fun _ => 0))), (q_6, .inl (cy 0, 20, .inl (fun _ => 0)))] := hD
  refine W.widen (k := 11) (n := 476) (Nat.le_of_ble_eq_true rfl) (Nat.le_of_ble_eq_true rfl) ?_
  refine va_putF (ci := 4) (v := .ref q_6) (ty := .array .int) (C := RX4) (T := TX4) (N := 14) hx hb hts inX4 tyX4 tyX4_ok nmX4 hown hK hP hD hS 0 rfl rfl 6 (by decide) (hts _ gm_196) (fun _ h9 => h9) rfl hin rfl (by decide +kernel) rfl rfl (Nat.le_of_ble_eq_true rfl) dX4_init_55 (fun H locs hP hD hS => ?_)
  have hP : va_P G vwCl [(h0, .inr (4, [.int 0, .ref q_1, .ref q_3, .ref q_4, .ref q_5, .int 0, .ref q_6, .null, .null, .int 0, .null, .null, .null, .null])), (q_1, .inl (cy 3, 6, .inr (.inr (.inr (.inr (fun i => if i < 6 then some (r_2 i) else none)))))), ((r_2 0), .inl (cy 0, 72, .inl (fun _ => 0))), ((r_2 1), .inl (cy 0, 72, .inl (fun _ => 0))), ((r_2 2), .inl (cy 0, 72, .inl (fun _ => 0))), ((r_2 3), .inl (cy 0, 72, .inl (fun _ => 0))), ((r_2 4), .inl (cy 0, 72, .inl (fun _ => 0))), ((r_2 5), .inl (cy 0, 72, .inl (fun _ => 0))), (q_3, .inl (cy 0, 6, .inl (fun _ => 0))), (q_4, .inl (cy 0, 6, .inl (fun _ => 0))), (q_5, .inl (cy 0, 6, .inl (fun _ => 0))), (q_6, .inl (cy 0, 20, .inl (fun _ => 0)))] H := hP
  have hD : va_D A [(h0, .inr (4, [.int 0, .ref q_1, .ref q_3, .ref q_4, .ref q_5, .int 0, .ref q_6, .null, .null, .int 0, .null, .null, .null, .null])), (q_1, .inl (cy 3, 6, .inr (.inr (.inr (.inr (fun i => if i < 6 then some (r_2 i) else none)))))), ((r_2 0), .inl (cy 0, 72, .inl (fun _ => 0))), ((r_2 1), .inl (cy 0, 72, .inl (fun _ => 0))), ((r_2 2), .inl (cy 0, 72, .inl (fun _ => 0))), ((r_2 3), .inl (cy 0, 72, .inl (fun _ => 0))), ((r_2 4), .inl (cy 0, 72, .inl (fun _ => 0))), ((r_2 5), .inl (cy 0, 72, .inl (fun _ => 0))), (q_3, .inl (cy 0, 6, .inl (fun _ => 0))), (q_4, .inl (cy 0, 6, .inl (fun _ => 0))), (q_5, .inl (cy 0, 6, .inl (fun _ => 0))), (q_6, .inl (cy 0, 20, .inl (fun _ => 0)))] := hD
  refine lv_aload_n hx hb dX4_init_58 rfl (lv_at hl 0 rfl) ?_
  refine lv_bipush (v := 20) hx hb dX4_init_59 (by decide) ?_
  refine gz_newa (atype := .int) (t0 := 0) (a0 := (20, .inl (fun _ => 0))) hx hb rfl (fun _ _ h9 => h9) (hts _ gm_98) rfl hK hP hD hS hA (fun _ => rfl) (by decide) (by decide) (Nat.le_of_ble_eq_true rfl) (Nat.le_of_ble_eq_true rfl) (Nat.le_of_ble_eq_true rfl) dX4_init_61 (fun q_7 H hP hD hS => ?_)
  have hP : va_P G vwCl [(h0, .inr (4, [.int 0, .ref q_1, .ref q_3, .ref q_4, .ref q_5, .int 0, .ref q_6, .null, .null, .int 0, .null, .null, .null, .null])), (q_1, .inl (cy 3, 6, .inr (.inr (.inr (.inr (fun i => if i < 6 then some (r_2 i) else none)))))), ((r_2 0), .inl (cy 0, 72, .inl (fun _ => 0))), ((r_2 1), .inl (cy 0, 72, .inl (fun _ => 0))), ((r_2 2), .inl (cy 0, 72, .inl (fun _ => 0))), ((r_2 3), .inl (cy 0, 72, .inl (fun _ => 0))), ((r_2 4), .inl (cy 0, 72, .inl (fun _ => 0))), ((r_2 5), .inl (cy 0, 72, .inl (fun _ => 0))), (q_3, .inl (cy 0, 6, .inl (fun _ => 0))), (q_4, .inl (cy 0, 6, .inl (fun _ => 0))), (q_5, .inl (cy 0, 6, .inl (fun _ => 0))), (q_6, .inl (cy 0, 20, .inl (fun _ => 0))), (q_7, .inl (cy 0, 20, .inl (fun _ => 0)))] H := hP
  have hD : va_D A [(h0, .inr (4, [.int 0, .ref q_1, .ref q_3, .ref q_4, .ref q_5, .int 0, .ref q_6, .null, .null, .int 0, .null, .null, .null, .null])), (q_1, .inl (cy 3, 6, .inr (.inr (.inr (.inr (fun i => if i < 6 then some (r_2 i) else none)))))), ((r_2 0), .inl (cy 0, 72, .inl (fun _ => 0))), ((r_2 1), .inl (cy 0, 72, .inl (fun _ => 0))), ((r_2 2), .inl (cy 0, 72, .inl (fun _ => 0))), ((r_2 3), .inl (cy 0, 72, .inl (fun _ => 0))), ((r_2 4), .inl (cy 0, 72, .inl (fun _ => 0))), ((r_2 5), .inl (cy 0, 72, .inl (fun _ => 0))), (q_3, .inl (cy 0, 6, .inl (fun _ => 0))), (q_4, .inl (cy 0, 6, .inl (fun _ => 0))), (q_5, .inl (cy 0, 6, .inl (fun _ => 0))), (q_6, .inl (cy 0, 20, .inl (fun _ => 0))), (q_7, .inl (cy 0, 20, .inl (fun _ => 0)))] := hD
  refine W.widen (k := 12) (n := 496) (Nat.le_of_ble_eq_true rfl) (Nat.le_of_ble_eq_true rfl) ?_
  refine va_putF (ci := 4) (v := .ref q_7) (ty := .array .int) (C := RX4) (T := TX4) (N := 14) hx hb hts inX4 tyX4 tyX4_ok nmX4 hown hK hP hD hS 0 rfl rfl 7 (by decide) (hts _ gm_197) (fun _ h9 => h9) rfl hin rfl (by decide +kernel) rfl rfl (Nat.le_of_ble_eq_true rfl) dX4_init_63 (fun H locs hP hD hS => ?_)
  have hP : va_P G vwCl [(h0, .inr (4, [.int 0, .ref q_1, .ref q_3, .ref q_4, .ref q_5, .int 0, .ref q_6, .ref q_7, .null, .int 0, .null, .null, .null, .null])), (q_1, .inl (cy 3, 6, .inr (.inr (.inr (.inr (fun i => if i < 6 then some (r_2 i) else none)))))), ((r_2 0), .inl (cy 0, 72, .inl (fun _ => 0))), ((r_2 1), .inl (cy 0, 72, .inl (fun _ => 0))), ((r_2 2), .inl (cy 0, 72, .inl (fun _ => 0))), ((r_2 3), .inl (cy 0, 72, .inl (fun _ => 0))), ((r_2 4), .inl (cy 0, 72, .inl (fun _ => 0))), ((r_2 5), .inl (cy 0, 72, .inl (fun _ => 0))), (q_3, .inl (cy 0, 6, .inl (fun _ => 0))), (q_4, .inl (cy 0, 6, .inl (fun _ => 0))), (q_5, .inl (cy 0, 6, .inl (fun _ => 0))), (q_6, .inl (cy 0, 20, .inl (fun _ => 0))), (q_7, .inl (cy 0, 20, .inl (fun _ => 0)))] H := hP
  have hD : va_D A [(h0, .inr (4, [.int 0, .ref q_1, .ref q_3, .ref q_4, .ref q_5, .int 0, .ref q_6, .ref q_7, .null, .int 0, .null, .null, .null, .null])), (q_1, .inl (cy 3, 6, .inr (.inr (.inr (.inr (fun i => if i < 6 then some (r_2 i) else none)))))), ((r_2 0), .inl (cy 0, 72, .inl (fun _ => 0))), ((r_2 1), .inl (cy 0, 72, .inl (fun _ => 0))), ((r_2 2), .inl (cy 0, 72, .inl (fun _ => 0))), ((r_2 3), .inl (cy 0, 72, .inl (fun _ => 0))), ((r_2 4), .inl (cy 0, 72, .inl (fun _ => 0))), ((r_2 5), .inl (cy 0, 72, .inl (fun _ => 0))), (q_3, .inl (cy 0, 6, .inl (fun _ => 0))), (q_4, .inl (cy 0, 6, .inl (fun _ => 0))), (q_5, .inl (cy 0, 6, .inl (fun _ => 0))), (q_6, .inl (cy 0, 20, .inl (fun _ => 0))), (q_7, .inl (cy 0, 20, .inl (fun _ => 0)))] := hD
  refine lv_aload_n hx hb dX4_init_66 rfl (lv_at hl 0 rfl) ?_
  refine lv_bipush (v := 20) hx hb dX4_init_67 (by decide) ?_
  refine gz_newa (atype := .int) (t0 := 0) (a0 := (20, .inl (fun _ => 0))) hx hb rfl (fun _ _ h9 => h9) (hts _ gm_98) rfl hK hP hD hS hA (fun _ => rfl) (by decide) (by decide) (Nat.le_of_ble_eq_true rfl) (Nat.le_of_ble_eq_true rfl) (Nat.le_of_ble_eq_true rfl) dX4_init_69 (fun q_8 H hP hD hS => ?_)
  have hP : va_P G vwCl [(h0, .inr (4, [.int 0, .ref q_1, .ref q_3, .ref q_4, .ref q_5, .int 0, .ref q_6, .ref q_7, .null, .int 0, .null, .null, .null, .null])), (q_1, .inl (cy 3, 6, .inr (.inr (.inr (.inr (fun i => if i < 6 then some (r_2 i) else none)))))), ((r_2 0), .inl (cy 0, 72, .inl (fun _ => 0))), ((r_2 1), .inl (cy 0, 72, .inl (fun _ => 0))), ((r_2 2), .inl (cy 0, 72, .inl (fun _ => 0))), ((r_2 3), .inl (cy 0, 72, .inl (fun _ => 0))), ((r_2 4), .inl (cy 0, 72, .inl (fun _ => 0))), ((r_2 5), .inl (cy 0, 72, .inl (fun _ => 0))), (q_3, .inl (cy 0, 6, .inl (fun _ => 0))), (q_4, .inl (cy 0, 6, .inl (fun _ => 0))), (q_5, .inl (cy 0, 6, .inl (fun _ => 0))), (q_6, .inl (cy 0, 20, .inl (fun _ => 0))), (q_7, .inl (cy 0, 20, .inl (fun _ => 0))), (q_8, .inl (cy 0, 20, .inl (fun _ => 0)))] H := hP
  have hD : va_D A [(h0, .inr (4, [.int 0, .ref q_1, .ref q_3, .ref q_4, .ref q_5, .int 0, .ref q_6, .ref q_7, .null, .int 0, .null, .null, .null, .null])), (q_1, .inl (cy 3, 6, .inr (.inr (.inr (.inr (fun i => if i < 6 then some (r_2 i) else none)))))), ((r_2 0), .inl (cy 0, 72, .inl (fun _ => 0))), ((r_2 1), .inl (cy 0, 72, .inl (fun _ => 0))), ((r_2 2), .inl (cy 0, 72, .inl (fun _ => 0))), ((r_2 3), .inl (cy 0, 72, .inl (fun _ => 0))), ((r_2 4), .inl (cy 0, 72, .inl (fun _ => 0))), ((r_2 5), .inl (cy 0, 72, .inl (fun _ => 0))), (q_3, .inl (cy 0, 6, .inl (fun _ => 0))), (q_4, .inl (cy 0, 6, .inl (fun _ => 0))), (q_5, .inl (cy 0, 6, .inl (fun _ => 0))), (q_6, .inl (cy 0, 20, .inl (fun _ => 0))), (q_7, .inl (cy 0, 20, .inl (fun _ => 0))), (q_8, .inl (cy 0, 20, .inl (fun _ => 0)))] := hD
  refine W.widen (k := 13) (n := 516) (Nat.le_of_ble_eq_true rfl) (Nat.le_of_ble_eq_true rfl) ?_
  refine va_putF (ci := 4) (v := .ref q_8) (ty := .array .int) (C := RX4) (T := TX4) (N := 14) hx hb hts inX4 tyX4 tyX4_ok nmX4 hown hK hP hD hS 0 rfl rfl 8 (by decide) (hts _ gm_198) (fun _ h9 => h9) rfl hin rfl (by decide +kernel) rfl rfl (Nat.le_of_ble_eq_true rfl) dX4_init_71 (fun H locs hP hD hS => ?_)
  have hP : va_P G vwCl [(h0, .inr (4, [.int 0, .ref q_1, .ref q_3, .ref q_4, .ref q_5, .int 0, .ref q_6, .ref q_7, .ref q_8, .int 0, .null, .null, .null, .null])), (q_1, .inl (cy 3, 6, .inr (.inr (.inr (.inr (fun i => if i < 6 then some (r_2 i) else none)))))), ((r_2 0), .inl (cy 0, 72, .inl (fun _ => 0))), ((r_2 1), .inl (cy 0, 72, .inl (fun _ => 0))), ((r_2 2), .inl (cy 0, 72, .inl (fun _ => 0))), ((r_2 3), .inl (cy 0, 72, .inl (fun _ => 0))), ((r_2 4), .inl (cy 0, 72, .inl (fun _ => 0))), ((r_2 5), .inl (cy 0, 72, .inl (fun _ => 0))), (q_3, .inl (cy 0, 6, .inl (fun _ => 0))), (q_4, .inl (cy 0, 6, .inl (fun _ => 0))), (q_5, .inl (cy 0, 6, .inl (fun _ => 0))), (q_6, .inl (cy 0, 20, .inl (fun _ => 0))), (q_7, .inl (cy 0, 20, .inl (fun _ => 0))), (q_8, .inl (cy 0, 20, .inl (fun _ => 0)))] H := hP
  have hD : va_D A [(h0, .inr (4, [.int 0, .ref q_1, .ref q_3, .ref q_4, .ref q_5, .int 0, .ref q_6, .ref q_7, .ref q_8, .int 0, .null, .null, .null, .null])), (q_1, .inl (cy 3, 6, .inr (.inr (.inr (.inr (fun i => if i < 6 then some (r_2 i) else none)))))), ((r_2 0), .inl (cy 0, 72, .inl (fun _ => 0))), ((r_2 1), .inl (cy 0, 72, .inl (fun _ => 0))), ((r_2 2), .inl (cy 0, 72, .inl (fun _ => 0))), ((r_2 3), .inl (cy 0, 72, .inl (fun _ => 0))), ((r_2 4), .inl (cy 0, 72, .inl (fun _ => 0))), ((r_2 5), .inl (cy 0, 72, .inl (fun _ => 0))), (q_3, .inl (cy 0, 6, .inl (fun _ => 0))), (q_4, .inl (cy 0, 6, .inl (fun _ => 0))), (q_5, .inl (cy 0, 6, .inl (fun _ => 0))), (q_6, .inl (cy 0, 20, .inl (fun _ => 0))), (q_7, .inl (cy 0, 20, .inl (fun _ => 0))), (q_8, .inl (cy 0, 20, .inl (fun _ => 0)))] := hD
  refine lv_aload_n hx hb dX4_init_74 rfl (lv_at hl 0 rfl) ?_
  refine lv_iconst (v := 0) hx hb dX4_init_75 (by decide) ?_
  refine va_put (ci := 4) (v := .int 0) (ty := .int) (C := RX4) (T := TX4) (N := 14) hx hb hts inX4 tyX4 tyX4_ok nmX4 hown hK hP hD hS 0 rfl rfl 9 (by decide) (hts _ gm_199) (fun _ h9 => h9) rfl (by decide +kernel) rfl rfl (Nat.le_of_ble_eq_true rfl) dX4_init_76 (fun H locs hP hD hS => ?_)
  have hP : va_P G vwCl [(h0, .inr (4, [.int 0, .ref q_1, .ref q_3, .ref q_4, .ref q_5, .int 0, .ref q_6, .ref q_7, .ref q_8, .int 0, .null, .null, .null, .null])), (q_1, .inl (cy 3, 6, .inr (.inr (.inr (.inr (fun i => if i < 6 then some (r_2 i) else none)))))), ((r_2 0), .inl (cy 0, 72, .inl (fun _ => 0))), ((r_2 1), .inl (cy 0, 72, .inl (fun _ => 0))), ((r_2 2), .inl (cy 0, 72, .inl (fun _ => 0))), ((r_2 3), .inl (cy 0, 72, .inl (fun _ => 0))), ((r_2 4), .inl (cy 0, 72, .inl (fun _ => 0))), ((r_2 5), .inl (cy 0, 72, .inl (fun _ => 0))), (q_3, .inl (cy 0, 6, .inl (fun _ => 0))), (q_4, .inl (cy 0, 6, .inl (fun _ => 0))), (q_5, .inl (cy 0, 6, .inl (fun _ => 0))), (q_6, .inl (cy 0, 20, .inl (fun _ => 0))), (q_7, .inl (cy 0, 20, .inl (fun _ => 0))), (q_8, .inl (cy 0, 20, .inl (fun _ => 0)))] H := hP
  have hD : va_D A [(h0, .inr (4, [.int 0, .ref q_1, .ref q_3, .ref q_4, .ref q_5, .int 0, .ref q_6, .ref q_7, .ref q_8, .int 0, .null, .null, .null, .null])), (q_1, .inl (cy 3, 6, .inr (.inr (.inr (.inr (fun i => if i < 6 then some (r_2 i) else none)))))), ((r_2 0), .inl (cy 0, 72, .inl (fun _ => 0))), ((r_2 1), .inl (cy 0, 72, .inl (fun _ => 0))), ((r_2 2), .inl (cy 0, 72, .inl (fun _ => 0))), ((r_2 3), .inl (cy 0, 72, .inl (fun _ => 0))), ((r_2 4), .inl (cy 0, 72, .inl (fun _ => 0))), ((r_2 5), .inl (cy 0, 72, .inl (fun _ => 0))), (q_3, .inl (cy 0, 6, .inl (fun _ => 0))), (q_4, .inl (cy 0, 6, .inl (fun _ => 0))), (q_5, .inl (cy 0, 6, .inl (fun _ => 0))), (q_6, .inl (cy 0, 20, .inl (fun _ => 0))), (q_7, .inl (cy 0, 20, .inl (fun _ => 0))), (q_8, .inl (cy 0, 20, .inl (fun _ => 0)))] := hD
  refine lv_aload_n hx hb dX4_init_79 rfl (lv_at hl 0 rfl) ?_
  refine lv_bipush (v := 20) hx hb dX4_init_80 (by decide) ?_
  refine gz_newa (atype := .int) (t0 := 0) (a0 := (20, .inl (fun _ => 0))) hx hb rfl (fun _ _ h9 => h9) (hts _ gm_98) rfl hK hP hD hS hA (fun _ => rfl) (by decide) (by decide) (Nat.le_of_ble_eq_true rfl) (Nat.le_of_ble_eq_true rfl) (Nat.le_of_ble_eq_true rfl) dX4_init_82 (fun q_9 H hP hD hS => ?_)
  have hP : va_P G vwCl [(h0, .inr (4, [.int 0, .ref q_1, .ref q_3, .ref q_4, .ref q_5, .int 0, .ref q_6, .ref q_7, .ref q_8, .int 0, .null, .null, .null, .null])), (q_1, .inl (cy 3, 6, .inr (.inr (.inr (.inr (fun i => if i < 6 then some (r_2 i) else none)))))), ((r_2 0), .inl (cy 0, 72, .inl (fun _ => 0))), ((r_2 1), .inl (cy 0, 72, .inl (fun _ => 0))), ((r_2 2), .inl (cy 0, 72, .inl (fun _ => 0))), ((r_2 3), .inl (cy 0, 72, .inl (fun _ => 0))), ((r_2 4), .inl (cy 0, 72, .inl (fun _ => 0))), ((r_2 5), .inl (cy 0, 72, .inl (fun _ => 0))), (q_3, .inl (cy 0, 6, .inl (fun _ => 0))), (q_4, .inl (cy 0, 6, .inl (fun _ => 0))), (q_5, .inl (cy 0, 6, .inl (fun _ => 0))), (q_6, .inl (cy 0, 20, .inl (fun _ => 0))), (q_7, .inl (cy 0, 20, .inl (fun _ => 0))), (q_8, .inl (cy 0, 20, .inl (fun _ => 0))), (q_9, .inl (cy 0, 20, .inl (fun _ => 0)))] H := hP
  have hD : va_D A [(h0, .inr (4, [.int 0, .ref q_1, .ref q_3, .ref q_4, .ref q_5, .int 0, .ref q_6, .ref q_7, .ref q_8, .int 0, .null, .null, .null, .null])), (q_1, .inl (cy 3, 6, .inr (.inr (.inr (.inr (fun i => if i < 6 then some (r_2 i) else none)))))), ((r_2 0), .inl (cy 0, 72, .inl (fun _ => 0))), ((r_2 1), .inl (cy 0, 72, .inl (fun _ => 0))), ((r_2 2), .inl (cy 0, 72, .inl (fun _ => 0))), ((r_2 3), .inl (cy 0, 72, .inl (fun _ => 0))), ((r_2 4), .inl (cy 0, 72, .inl (fun _ => 0))), ((r_2 5), .inl (cy 0, 72, .inl (fun _ => 0))), (q_3, .inl (cy 0, 6, .inl (fun _ => 0))), (q_4, .inl (cy 0, 6, .inl (fun _ => 0))), (q_5, .inl (cy 0, 6, .inl (fun _ => 0))), (q_6, .inl (cy 0, 20, .inl (fun _ => 0))), (q_7, .inl (cy 0, 20, .inl (fun _ => 0))), (q_8, .inl (cy 0, 20, .inl (fun _ => 0))), (q_9, .inl (cy 0, 20, .inl (fun _ => 0)))] := hD
  refine W.widen (k := 14) (n := 536) (Nat.le_of_ble_eq_true rfl) (Nat.le_of_ble_eq_true rfl) ?_
  refine va_putF (ci := 4) (v := .ref q_9) (ty := .array .int) (C := RX4) (T := TX4) (N := 14) hx hb hts inX4 tyX4 tyX4_ok nmX4 hown hK hP hD hS 0 rfl rfl 10 (by decide) (hts _ gm_200) (fun _ h9 => h9) rfl hin rfl (by decide +kernel) rfl rfl (Nat.le_of_ble_eq_true rfl) dX4_init_84 (fun H locs hP hD hS => ?_)
  have hP : va_P G vwCl [(h0, .inr (4, [.int 0, .ref q_1, .ref q_3, .ref q_4, .ref q_5, .int 0, .ref q_6, .ref q_7, .ref q_8, .int 0, .ref q_9, .null, .null, .null])), (q_1, .inl (cy 3, 6, .inr (.inr (.inr (.inr (fun i => if i < 6 then some (r_2 i) else none)))))), ((r_2 0), .inl (cy 0, 72, .inl (fun _ => 0))), ((r_2 1), .inl (cy 0, 72, .inl (fun _ => 0))), ((r_2 2), .inl (cy 0, 72, .inl (fun _ => 0))), ((r_2 3), .inl (cy 0, 72, .inl (fun _ => 0))), ((r_2 4), .inl (cy 0, 72, .inl (fun _ => 0))), ((r_2 5), .inl (cy 0, 72, .inl (fun _ => 0))), (q_3, .inl (cy 0, 6, .inl (fun _ => 0))), (q_4, .inl (cy 0, 6, .inl (fun _ => 0))), (q_5, .inl (cy 0, 6, .inl (fun _ => 0))), (q_6, .inl (cy 0, 20, .inl (fun _ => 0))), (q_7, .inl (cy 0, 20, .inl (fun _ => 0))), (q_8, .inl (cy 0, 20, .inl (fun _ => 0))), (q_9, .inl (cy 0, 20, .inl (fun _ => 0)))] H := hP
  have hD : va_D A [(h0, .inr (4, [.int 0, .ref q_1, .ref q_3, .ref q_4, .ref q_5, .int 0, .ref q_6, .ref q_7, .ref q_8, .int 0, .ref q_9, .null, .null, .null])), (q_1, .inl (cy 3, 6, .inr (.inr (.inr (.inr (fun i => if i < 6 then some (r_2 i) else none)))))), ((r_2 0), .inl (cy 0, 72, .inl (fun _ => 0))), ((r_2 1), .inl (cy 0, 72, .inl (fun _ => 0))), ((r_2 2), .inl (cy 0, 72, .inl (fun _ => 0))), ((r_2 3), .inl (cy 0, 72, .inl (fun _ => 0))), ((r_2 4), .inl (cy 0, 72, .inl (fun _ => 0))), ((r_2 5), .inl (cy 0, 72, .inl (fun _ => 0))), (q_3, .inl (cy 0, 6, .inl (fun _ => 0))), (q_4, .inl (cy 0, 6, .inl (fun _ => 0))), (q_5, .inl (cy 0, 6, .inl (fun _ => 0))), (q_6, .inl (cy 0, 20, .inl (fun _ => 0))), (q_7, .inl (cy 0, 20, .inl (fun _ => 0))), (q_8, .inl (cy 0, 20, .inl (fun _ => 0))), (q_9, .inl (cy 0, 20, .inl (fun _ => 0)))] := hD
  refine lv_aload_n hx hb dX4_init_87 rfl (lv_at hl 0 rfl) ?_
  refine lv_bipush (v := 20) hx hb dX4_init_88 (by decide) ?_
  refine gz_newa (atype := .int) (t0 := 0) (a0 := (20, .inl (fun _ => 0))) hx hb rfl (fun _ _ h9 => h9) (hts _ gm_98) rfl hK hP hD hS hA (fun _ => rfl) (by decide) (by decide) (Nat.le_of_ble_eq_true rfl) (Nat.le_of_ble_eq_true rfl) (Nat.le_of_ble_eq_true rfl) dX4_init_90 (fun q_10 H hP hD hS => ?_)
  have hP : va_P G vwCl [(h0, .inr (4, [.int 0, .ref q_1, .ref q_3, .ref q_4, .ref q_5, .int 0, .ref q_6, .ref q_7, .ref q_8, .int 0, .ref q_9, .null, .null, .null])), (q_1, .inl (cy 3, 6, .inr (.inr (.inr (.inr (fun i => if i < 6 then some (r_2 i) else none)))))), ((r_2 0), .inl (cy 0, 72, .inl (fun _ => 0))), ((r_2 1), .inl (cy 0, 72, .inl (fun _ => 0))), ((r_2 2), .inl (cy 0, 72, .inl (fun _ => 0))), ((r_2 3), .inl (cy 0, 72, .inl (fun _ => 0))), ((r_2 4), .inl (cy 0, 72, .inl (fun _ => 0))), ((r_2 5), .inl (cy 0, 72, .inl (fun _ => 0))), (q_3, .inl (cy 0, 6, .inl (fun _ => 0))), (q_4, .inl (cy 0, 6, .inl (fun _ => 0))), (q_5, .inl (cy 0, 6, .inl (fun _ => 0))), (q_6, .inl (cy 0, 20, .inl (fun _ => 0))), (q_7, .inl (cy 0, 20, .inl (fun _ => 0))), (q_8, .inl (cy 0, 20, .inl (fun _ => 0))), (q_9, .inl (cy 0, 20, .inl (fun _ => 0))), (q_10, .inl (cy 0, 20, .inl (fun _ => 0)))] H := hP
  have hD : va_D A [(h0, .inr (4, [.int 0, .ref q_1, .ref q_3, .ref q_4, .ref q_5, .int 0, .ref q_6, .ref q_7, .ref q_8, .int 0, .ref q_9, .null, .null, .null])), (q_1, .inl (cy 3, 6, .inr (.inr (.inr (.inr (fun i => if i < 6 then some (r_2 i) else none)))))), ((r_2 0), .inl (cy 0, 72, .inl (fun _ => 0))), ((r_2 1), .inl (cy 0, 72, .inl (fun _ => 0))), ((r_2 2), .inl (cy 0, 72, .inl (fun _ => 0))), ((r_2 3), .inl (cy 0, 72, .inl (fun _ => 0))), ((r_2 4), .inl (cy 0, 72, .inl (fun _ => 0))), ((r_2 5), .inl (cy 0, 72, .inl (fun _ => 0))), (q_3, .inl (cy 0, 6, .inl (fun _ => 0))), (q_4, .inl (cy 0, 6, .inl (fun _ => 0))), (q_5, .inl (cy 0, 6, .inl (fun _ => 0))), (q_6, .inl (cy 0, 20, .inl (fun _ => 0))), (q_7, .inl (cy 0, 20, .inl (fun _ => 0))), (q_8, .inl (cy 0, 20, .inl (fun _ => 0))), (q_9, .inl (cy 0, 20, .inl (fun _ => 0))), (q_10, .inl (cy 0, 20, .inl (fun _ => 0)))] := hD
  refine W.widen (k := 15) (n := 556) (Nat.le_of_ble_eq_true rfl) (Nat.le_of_ble_eq_true rfl) ?_
  refine va_putF (ci := 4) (v := .ref q_10) (ty := .array .int) (C := RX4) (T := TX4) (N := 14) hx hb hts inX4 tyX4 tyX4_ok nmX4 hown hK hP hD hS 0 rfl rfl 11 (by decide) (hts _ gm_201) (fun _ h9 => h9) rfl hin rfl (by decide +kernel) rfl rfl (Nat.le_of_ble_eq_true rfl) dX4_init_92 (fun H locs hP hD hS => ?_)
  have hP : va_P G vwCl [(h0, .inr (4, [.int 0, .ref q_1, .ref q_3, .ref q_4, .ref q_5, .int 0, .ref q_6, .ref q_7, .ref q_8, .int 0, .ref q_9, .ref q_10, .null, .null])), (q_1, .inl (cy 3, 6, .inr (.inr (.inr (.inr (fun i => if i < 6 then some (r_2 i) else none)))))), ((r_2 0), .inl (cy 0, 72, .inl (fun _ => 0))), ((r_2 1), .inl (cy 0, 72, .inl (fun _ => 0))), ((r_2 2), .inl (cy 0, 72, .inl (fun _ => 0))), ((r_2 3), .inl (cy 0, 72, .inl (fun _ => 0))), ((r_2 4), .inl (cy 0, 72, .inl (fun _ => 0))), ((r_2 5), .inl (cy 0, 72, .inl (fun _ => 0))), (q_3, .inl (cy 0, 6, .inl (fun _ => 0))), (q_4, .inl (cy 0, 6, .inl (fun _ => 0))), (q_5, .inl (cy 0, 6, .inl (fun _ => 0))), (q_6, .inl (cy 0, 20, .inl (fun _ => 0))), (q_7, .inl (cy 0, 20, .inl (fun _ => 0))), (q_8, .inl (cy 0, 20, .inl (fun _ => 0))), (q_9, .inl (cy 0, 20, .inl (fun _ => 0))), (q_10, .inl (cy 0, 20, .inl (fun _ => 0)))] H := hP
  have hD : va_D A [(h0, .inr (4, [.int 0, .ref q_1, .ref q_3, .ref q_4, .ref q_5, .int 0, .ref q_6, .ref q_7, .ref q_8, .int 0, .ref q_9, .ref q_10, .null, .null])), (q_1, .inl (cy 3, 6, .inr (.inr (.inr (.inr (fun i => if i < 6 then some (r_2 i) else none)))))), ((r_2 0), .inl (cy 0, 72, .inl (fun _ => 0))), ((r_2 1), .inl (cy 0, 72, .inl (fun _ => 0))), ((r_2 2), .inl (cy 0, 72, .inl (fun _ => 0))), ((r_2 3), .inl (cy 0, 72, .inl (fun _ => 0))), ((r_2 4), .inl (cy 0, 72, .inl (fun _ => 0))), ((r_2 5), .inl (cy 0, 72, .inl (fun _ => 0))), (q_3, .inl (cy 0, 6, .inl (fun _ => 0))), (q_4, .inl (cy 0, 6, .inl (fun _ => 0))), (q_5, .inl (cy 0, 6, .inl (fun _ => 0))), (q_6, .inl (cy 0, 20, .inl (fun _ => 0))), (q_7, .inl (cy 0, 20, .inl (fun _ => 0))), (q_8, .inl (cy 0, 20, .inl (fun _ => 0))), (q_9, .inl (cy 0, 20, .inl (fun _ => 0))), (q_10, .inl (cy 0, 20, .inl (fun _ => 0)))] := hD
  refine lv_aload_n hx hb dX4_init_95 rfl (lv_at hl 0 rfl) ?_
  refine lv_bipush (v := 20) hx hb dX4_init_96 (by decide) ?_
  refine gz_newa (atype := .int) (t0 := 0) (a0 := (20, .inl (fun _ => 0))) hx hb rfl (fun _ _ h9 => h9) (hts _ gm_98) rfl hK hP hD hS hA (fun _ => rfl) (by decide) (by decide) (Nat.le_of_ble_eq_true rfl) (Nat.le_of_ble_eq_true rfl) (Nat.le_of_ble_eq_true rfl) dX4_init_98 (fun q_11 H hP hD hS => ?_)
  have hP : va_P G vwCl [(h0, .inr (4, [.int 0, .ref q_1, .ref q_3, .ref q_4, .ref q_5, .int 0, .ref q_6, .ref q_7, .ref q_8, .int 0, .ref q_9, .ref q_10, .null, .null])), (q_1, .inl (cy 3, 6, .inr (.inr (.inr (.inr (fun i => if i < 6 then some (r_2 i) else none)))))), ((r_2 0), .inl (cy 0, 72, .inl (fun _ => 0))), ((r_2 1), .inl (cy 0, 72, .inl (fun _ => 0))), ((r_2 2), .inl (cy 0, 72, .inl (fun _ => 0))), ((r_2 3), .inl (cy 0, 72, .inl (fun _ => 0))), ((r_2 4), .inl (cy 0, 72, .inl (fun _ => 0))), ((r_2 5), .inl (cy 0, 72, .inl (fun _ => 0))), (q_3, .inl (cy 0, 6, .inl (fun _ => 0))), (q_4, .inl (cy 0, 6, .inl (fun _ => 0))), (q_5, .inl (cy 0, 6, .inl (fun _ => 0))), (q_6, .inl (cy 0, 20, .inl (fun _ => 0))), (q_7, .inl (cy 0, 20, .inl (fun _ => 0))), (q_8, .inl (cy 0, 20, .inl (fun _ => 0))), (q_9, .inl (cy 0, 20, .inl (fun _ => 0))), (q_10, .inl (cy 0, 20, .inl (fun _ => 0))), (q_11, .inl (cy 0, 20, .inl (fun _ => 0)))] H := hP
  have hD : va_D A [(h0, .inr (4, [.int 0, .ref q_1, .ref q_3, .ref q_4, .ref q_5, .int 0, .ref q_6, .ref q_7, .ref q_8, .int 0, .ref q_9, .ref q_10, .null, .null])), (q_1, .inl (cy 3, 6, .inr (.inr (.inr (.inr (fun i => if i < 6 then some (r_2 i) else none)))))), ((r_2 0), .inl (cy 0, 72, .inl (fun _ => 0))), ((r_2 1), .inl (cy 0, 72, .inl (fun _ => 0))), ((r_2 2), .inl (cy 0, 72, .inl (fun _ => 0))), ((r_2 3), .inl (cy 0, 72, .inl (fun _ => 0))), ((r_2 4), .inl (cy 0, 72, .inl (fun _ => 0))), ((r_2 5), .inl (cy 0, 72, .inl (fun _ => 0))), (q_3, .inl (cy 0, 6, .inl (fun _ => 0))), (q_4, .inl (cy 0, 6, .inl (fun _ => 0))), (q_5, .inl (cy 0, 6, .inl (fun _ => 0))), (q_6, .inl (cy 0, 20, .inl (fun _ => 0))), (q_7, .inl (cy 0, 20, .inl (fun _ => 0))), (q_8, .inl (cy 0, 20, .inl (fun _ => 0))), (q_9, .inl (cy 0, 20, .inl (fun _ => 0))), (q_10, .inl (cy 0, 20, .inl (fun _ => 0))), (q_11, .inl (cy 0, 20, .inl (fun _ => 0)))] := hD
  refine W.widen (k := 16) (n := 576) (Nat.le_of_ble_eq_true rfl) (Nat.le_of_ble_eq_true rfl) ?_
  refine va_putF (ci := 4) (v := .ref q_11) (ty := .array .int) (C := RX4) (T := TX4) (N := 14) hx hb hts inX4 tyX4 tyX4_ok nmX4 hown hK hP hD hS 0 rfl rfl 12 (by decide) (hts _ gm_202) (fun _ h9 => h9) rfl hin rfl (by decide +kernel) rfl rfl (Nat.le_of_ble_eq_true rfl) dX4_init_100 (fun H locs hP hD hS => ?_)
  have hP : va_P G vwCl [(h0, .inr (4, [.int 0, .ref q_1, .ref q_3, .ref q_4, .ref q_5, .int 0, .ref q_6, .ref q_7, .ref q_8, .int 0, .ref q_9, .ref q_10, .ref q_11, .null])), (q_1, .inl (cy 3, 6, .inr (.inr (.inr (.inr (fun i => if i < 6 then some (r_2 i) else none)))))), ((r_2 0), .inl (cy 0, 72, .inl (fun _ => 0))), ((r_2 1), .inl (cy 0, 72, .inl (fun _ => 0))), ((r_2 2), .inl (cy 0, 72, .inl (fun _ => 0))), ((r_2 3), .inl (cy 0, 72, .inl (fun _ => 0))), ((r_2 4), .inl (cy 0, 72, .inl (fun _ => 0))), ((r_2 5), .inl (cy 0, 72, .inl (fun _ => 0))), (q_3, .inl (cy 0, 6, .inl (fun _ => 0))), (q_4, .inl (cy 0, 6, .inl (fun _ => 0))), (q_5, .inl (cy 0, 6, .inl (fun _ => 0))), (q_6, .inl (cy 0, 20, .inl (fun _ => 0))), (q_7, .inl (cy 0, 20, .inl (fun _ => 0))), (q_8, .inl (cy 0, 20, .inl (fun _ => 0))), (q_9, .inl (cy 0, 20, .inl (fun _ => 0))), (q_10, .inl (cy 0, 20, .inl (fun _ => 0))), (q_11, .inl (cy 0, 20, .inl (fun _ => 0)))] H := hP
  have hD : va_D A [(h0, .inr (4, [.int 0, .ref q_1, .ref q_3, .ref q_4, .ref q_5, .int 0, .ref q_6, .ref q_7, .ref q_8, .int 0, .ref q_9, .ref q_10, .ref q_11, .null])), (q_1, .inl (cy 3, 6, .inr (.inr (.inr (.inr (fun i => if i < 6 then some (r_2 i) else none)))))), ((r_2 0), .inl (cy 0, 72, .inl (fun _ => 0))), ((r_2 1), .inl (cy 0, 72, .inl (fun _ => 0))), ((r_2 2), .inl (cy 0, 72, .inl (fun _ => 0))), ((r_2 3), .inl (cy 0, 72, .inl (fun _ => 0))), ((r_2 4), .inl (cy 0, 72, .inl (fun _ => 0))), ((r_2 5), .inl (cy 0, 72, .inl (fun _ => 0))), (q_3, .inl (cy 0, 6, .inl (fun _ => 0))), (q_4, .inl (cy 0, 6, .inl (fun _ => 0))), (q_5, .inl (cy 0, 6, .inl (fun _ => 0))), (q_6, .inl (cy 0, 20, .inl (fun _ => 0))), (q_7, .inl (cy 0, 20, .inl (fun _ => 0))), (q_8, .inl (cy 0, 20, .inl (fun _ => 0))), (q_9, .inl (cy 0, 20, .inl (fun _ => 0))), (q_10, .inl (cy 0, 20, .inl (fun _ => 0))), (q_11, .inl (cy 0, 20, .inl (fun _ => 0)))] := hD
  refine lv_aload_n hx hb dX4_init_103 rfl (lv_at hl 0 rfl) ?_
  refine lv_bipush (v := 20) hx hb dX4_init_104 (by decide) ?_
  refine gz_newa (atype := .int) (t0 := 0) (a0 := (20, .inl (fun _ => 0))) hx hb rfl (fun _ _ h9 => h9) (hts _ gm_98) rfl hK hP hD hS hA (fun _ => rfl) (by decide) (by decide) (Nat.le_of_ble_eq_true rfl) (Nat.le_of_ble_eq_true rfl) (Nat.le_of_ble_eq_true rfl) dX4_init_106 (fun q_12 H hP hD hS => ?_)
  have hP : va_P G vwCl [(h0, .inr (4, [.int 0, .ref q_1, .ref q_3, .ref q_4, .ref q_5, .int 0, .ref q_6, .ref q_7, .ref q_8, .int 0, .ref q_9, .ref q_10, .ref q_11, .null])), (q_1, .inl (cy 3, 6, .inr (.inr (.inr (.inr (fun i => if i < 6 then some (r_2 i) else none)))))), ((r_2 0), .inl (cy 0, 72, .inl (fun _ => 0))), ((r_2 1), .inl (cy 0, 72, .inl (fun _ => 0))), ((r_2 2), .inl (cy 0, 72, .inl (fun _ => 0))), ((r_2 3), .inl (cy 0, 72, .inl (fun _ => 0))), ((r_2 4), .inl (cy 0, 72, .inl (fun _ => 0))), ((r_2 5), .inl (cy 0, 72, .inl (fun _ => 0))), (q_3, .inl (cy 0, 6, .inl (fun _ => 0))), (q_4, .inl (cy 0, 6, .inl (fun _ => 0))), (q_5, .inl (cy 0, 6, .inl (fun _ => 0))), (q_6, .inl (cy 0, 20, .inl (fun _ => 0))), (q_7, .inl (cy 0, 20, .inl (fun _ => 0))), (q_8, .inl (cy 0, 20, .inl (fun _ => 0))), (q_9, .inl (cy 0, 20, .inl (fun _ => 0))), (q_10, .inl (cy 0, 20, .inl (fun _ => 0))), (q_11, .inl (cy 0, 20, .inl (fun _ => 0))), (q_12, .inl (cy 0, 20, .inl (fun _ => 0)))] H := hP
  have hD : va_D A [(h0, .inr (4, [.int 0, .ref q_1, .ref q_3, .ref q_4, .ref q_5, .int 0, .ref q_6, .ref q_7, .ref q_8, .int 0, .ref q_9, .ref q_10, .ref q_11, .null])), (q_1, .inl (cy 3, 6, .inr (.inr (.inr (.inr (fun i => if i < 6 then some (r_2 i) else none)))))), ((r_2 0), .inl (cy 0, 72, .inl (fun _ => 0))), ((r_2 1), .inl (cy 0, 72, .inl (fun _ => 0))), ((r_2 2), .inl (cy 0, 72, .inl (fun _ => 0))), ((r_2 3), .inl (cy 0, 72, .inl (fun _ => 0))), ((r_2 4), .inl (cy 0, 72, .inl (fun _ => 0))), ((r_2 5), .inl (cy 0, 72, .inl (fun _ => 0))), (q_3, .inl (cy 0, 6, .inl (fun _ => 0))), (q_4, .inl (cy 0, 6, .inl (fun _ => 0))), (q_5, .inl (cy 0, 6, .inl (fun _ => 0))), (q_6, .inl (cy 0, 20, .inl (fun _ => 0))), (q_7, .inl (cy 0, 20, .inl (fun _ => 0))), (q_8, .inl (cy 0, 20, .inl (fun _ => 0))), (q_9, .inl (cy 0, 20, .inl (fun _ => 0))), (q_10, .inl (cy 0, 20, .inl (fun _ => 0))), (q_11, .inl (cy 0, 20, .inl (fun _ => 0))), (q_12, .inl (cy 0, 20, .inl (fun _ => 0)))] := hD
  refine W.widen (k := 17) (n := 596) (Nat.le_of_ble_eq_true rfl) (Nat.le_of_ble_eq_true rfl) ?_
  refine va_putF (ci := 4) (v := .ref q_12) (ty := .array .int) (C := RX4) (T := TX4) (N := 14) hx hb hts inX4 tyX4 tyX4_ok nmX4 hown hK hP hD hS 0 rfl rfl 13 (by decide) (hts _ gm_203) (fun _ h9 => h9) rfl hin rfl (by decide +kernel) rfl rfl (Nat.le_of_ble_eq_true rfl) dX4_init_108 (fun H locs hP hD hS => ?_)
  have hP : va_P G vwCl [(h0, .inr (4, [.int 0, .ref q_1, .ref q_3, .ref q_4, .ref q_5, .int 0, .ref q_6, .ref q_7, .ref q_8, .int 0, .ref q_9, .ref q_10, .ref q_11, .ref q_12])), (q_1, .inl (cy 3, 6, .inr (.inr (.inr (.inr (fun i => if i < 6 then some (r_2 i) else none)))))), ((r_2 0), .inl (cy 0, 72, .inl (fun _ => 0))), ((r_2 1), .inl (cy 0, 72, .inl (fun _ => 0))), ((r_2 2), .inl (cy 0, 72, .inl (fun _ => 0))), ((r_2 3), .inl (cy 0, 72, .inl (fun _ => 0))), ((r_2 4), .inl (cy 0, 72, .inl (fun _ => 0))), ((r_2 5), .inl (cy 0, 72, .inl (fun _ => 0))), (q_3, .inl (cy 0, 6, .inl (fun _ => 0))), (q_4, .inl (cy 0, 6, .inl (fun _ => 0))), (q_5, .inl (cy 0, 6, .inl (fun _ => 0))), (q_6, .inl (cy 0, 20, .inl (fun _ => 0))), (q_7, .inl (cy 0, 20, .inl (fun _ => 0))), (q_8, .inl (cy 0, 20, .inl (fun _ => 0))), (q_9, .inl (cy 0, 20, .inl (fun _ => 0))), (q_10, .inl (cy 0, 20, .inl (fun _ => 0))), (q_11, .inl (cy 0, 20, .inl (fun _ => 0))), (q_12, .inl (cy 0, 20, .inl (fun _ => 0)))] H := hP
  have hD : va_D A [(h0, .inr (4, [.int 0, .ref q_1, .ref q_3, .ref q_4, .ref q_5, .int 0, .ref q_6, .ref q_7, .ref q_8, .int 0, .ref q_9, .ref q_10, .ref q_11, .ref q_12])), (q_1, .inl (cy 3, 6, .inr (.inr (.inr (.inr (fun i => if i < 6 then some (r_2 i) else none)))))), ((r_2 0), .inl (cy 0, 72, .inl (fun _ => 0))), ((r_2 1), .inl (cy 0, 72, .inl (fun _ => 0))), ((r_2 2), .inl (cy 0, 72, .inl (fun _ => 0))), ((r_2 3), .inl (cy 0, 72, .inl (fun _ => 0))), ((r_2 4), .inl (cy 0, 72, .inl (fun _ => 0))), ((r_2 5), .inl (cy 0, 72, .inl (fun _ => 0))), (q_3, .inl (cy 0, 6, .inl (fun _ => 0))), (q_4, .inl (cy 0, 6, .inl (fun _ => 0))), (q_5, .inl (cy 0, 6, .inl (fun _ => 0))), (q_6, .inl (cy 0, 20, .inl (fun _ => 0))), (q_7, .inl (cy 0, 20, .inl (fun _ => 0))), (q_8, .inl (cy 0, 20, .inl (fun _ => 0))), (q_9, .inl (cy 0, 20, .inl (fun _ => 0))), (q_10, .inl (cy 0, 20, .inl (fun _ => 0))), (q_11, .inl (cy 0, 20, .inl (fun _ => 0))), (q_12, .inl (cy 0, 20, .inl (fun _ => 0)))] := hD
  exact gz_vret (p := p) (l := l) (e := e) (s := s) (m := m) (below := below) (meth := meth) (c := c) (H := H) (cells := 17) (slots := 596) (mc := 17) (ms := 596) (cf := (fun (u : Nat → Nat → Nat) => [(h0, .inr (4, [.int 0, .ref (u 0 0), .ref (u 0 1), .ref (u 0 2), .ref (u 0 3), .int 0, .ref (u 0 4), .ref (u 0 5), .ref (u 0 6), .int 0, .ref (u 0 7), .ref (u 0 8), .ref (u 0 9), .ref (u 0 10)])), ((u 0 0), .inl (cy 3, 6, .inr (.inr (.inr (.inr (fun i => if i < 6 then some ((u 1) i) else none)))))), (((u 1) 0), .inl (cy 0, 72, .inl (fun _ => 0))), (((u 1) 1), .inl (cy 0, 72, .inl (fun _ => 0))), (((u 1) 2), .inl (cy 0, 72, .inl (fun _ => 0))), (((u 1) 3), .inl (cy 0, 72, .inl (fun _ => 0))), (((u 1) 4), .inl (cy 0, 72, .inl (fun _ => 0))), (((u 1) 5), .inl (cy 0, 72, .inl (fun _ => 0))), ((u 0 1), .inl (cy 0, 6, .inl (fun _ => 0))), ((u 0 2), .inl (cy 0, 6, .inl (fun _ => 0))), ((u 0 3), .inl (cy 0, 6, .inl (fun _ => 0))), ((u 0 4), .inl (cy 0, 20, .inl (fun _ => 0))), ((u 0 5), .inl (cy 0, 20, .inl (fun _ => 0))), ((u 0 6), .inl (cy 0, 20, .inl (fun _ => 0))), ((u 0 7), .inl (cy 0, 20, .inl (fun _ => 0))), ((u 0 8), .inl (cy 0, 20, .inl (fun _ => 0))), ((u 0 9), .inl (cy 0, 20, .inl (fun _ => 0))), ((u 0 10), .inl (cy 0, 20, .inl (fun _ => 0)))])) (post := (fun (u : Nat → Nat → Nat) => True)) hx hb hr hlocks hK hP hD hS (fun a => match a with | 0 => (fun k => match k with | 0 => q_1 | 1 => q_3 | 2 => q_4 | 3 => q_5 | 4 => q_6 | 5 => q_7 | 6 => q_8 | 7 => q_9 | 8 => q_10 | 9 => q_11 | 10 => q_12 | _ => 0) | 1 => r_2 | _ => fun _ => 0) [0, 1, 2, 3, 4, 5, 6, 7, 8, 9, 10, 11, 12, 13, 14, 15, 16, 17] trivial (by decide) rfl (by exact Nat.le_of_ble_eq_true rfl) (by exact Nat.le_of_ble_eq_true rfl) dX4_init_111
