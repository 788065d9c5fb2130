theorem gm_922 : (Jvm.Cond.fieldLink "WellCourtModel" (40 : Nat) "WellCourtModel" "one" "[I") ∈ gz_T := gz_at 922 (by decide +kernel) rfl
theorem gm_923 : (Jvm.Cond.fieldLink "WellCourtModel" (43 : Nat) "WellCourtModel" "two" "[I") ∈ gz_T := gz_at 923 (by decide +kernel) rfl
theorem gm_924 : (Jvm.Cond.fieldLink "WellCourtModel" (46 : Nat) "WellCourtModel" "three" "[I") ∈ gz_T := gz_at 924 (by decide +kernel) rfl
theorem gm_925 : (Jvm.Cond.fieldLink "WellCourtModel" (49 : Nat) "WellCourtModel" "many" "[I") ∈ gz_T := gz_at 925 (by decide +kernel) rfl
theorem gm_1139 : (Jvm.Cond.methodLink "WellCourtModel" (251 : Nat) ({ cls := "WellCourtModel", name := "readNumber", desc := "(II)Z" } : Jvm.MethodName)) ∈ gz_T := gz_at 1139 (by decide +kernel) rfl
theorem gm_1141 : (Jvm.Cond.instanceMethod ({ cls := "WellCourtModel", name := "readNumber", desc := "(II)Z" } : Jvm.MethodName)) ∈ gz_T := gz_at 1141 (by decide +kernel) rfl
theorem gm_1142 : (Jvm.Cond.code ({ cls := "WellCourtModel", name := "readNumber", desc := "(II)Z" } : Jvm.MethodName) prog_12_method_17_code (3 : Nat) (Option.some Jvm.ClassFile.FieldType.boolean)) ∈ gz_T := gz_at 1142 (by decide +kernel) rfl
theorem gm_1147 : (Jvm.Cond.methodLink "WellCourtModel" (254 : Nat) ({ cls := "WellCourtModel", name := "readClan", desc := "()Z" } : Jvm.MethodName)) ∈ gz_T := gz_at 1147 (by decide +kernel) rfl
theorem gm_1149 : (Jvm.Cond.instanceMethod ({ cls := "WellCourtModel", name := "readClan", desc := "()Z" } : Jvm.MethodName)) ∈ gz_T := gz_at 1149 (by decide +kernel) rfl
theorem gm_1150 : (Jvm.Cond.code ({ cls := "WellCourtModel", name := "readClan", desc := "()Z" } : Jvm.MethodName) prog_12_method_18_code (1 : Nat) (Option.some Jvm.ClassFile.FieldType.boolean)) ∈ gz_T := gz_at 1150 (by decide +kernel) rfl
theorem gm_1157 : (Jvm.Cond.constantLong "WellCourtModel" (257 : Nat) (24948 : Int64)) ∈ gz_T := gz_at 1157 (by decide +kernel) rfl
theorem gm_1158 : (Jvm.Cond.methodLink "WellCourtModel" (259 : Nat) ({ cls := "WellCourtModel", name := "mustWord", desc := "(J)Z" } : Jvm.MethodName)) ∈ gz_T := gz_at 1158 (by decide +kernel) rfl
theorem gm_1160 : (Jvm.Cond.instanceMethod ({ cls := "WellCourtModel", name := "mustWord", desc := "(J)Z" } : Jvm.MethodName)) ∈ gz_T := gz_at 1160 (by decide +kernel) rfl
theorem gm_1161 : (Jvm.Cond.code ({ cls := "WellCourtModel", name := "mustWord", desc := "(J)Z" } : Jvm.MethodName) prog_12_method_16_code (3 : Nat) (Option.some Jvm.ClassFile.FieldType.boolean)) ∈ gz_T := gz_at 1161 (by decide +kernel) rfl
theorem gm_1162 : (Jvm.Cond.constantLong "WellCourtModel" (262 : Nat) (28518 : Int64)) ∈ gz_T := gz_at 1162 (by decide +kernel) rfl
theorem gm_1171 : (Jvm.Cond.constantLong "WellCourtModel" (264 : Nat) (422608400247 : Int64)) ∈ gz_T := gz_at 1171 (by decide +kernel) rfl
theorem gm_1176 : (Jvm.Cond.constantLong "WellCourtModel" (266 : Nat) (29807 : Int64)) ∈ gz_T := gz_at 1176 (by decide +kernel) rfl
theorem gs_39 : (Jvm.Cond.selects "WellCourtModel" ({ cls := "WellCourtModel", name := "readNumber", desc := "(II)Z" } : Jvm.MethodName) ({ cls := "WellCourtModel", name := "readNumber", desc := "(II)Z" } : Jvm.MethodName)) ∈ gz_T := gz_sel 39 (by decide +kernel) rfl
theorem gs_41 : (Jvm.Cond.selects "WellCourtModel" ({ cls := "WellCourtModel", name := "readClan", desc := "()Z" } : Jvm.MethodName) ({ cls := "WellCourtModel", name := "readClan", desc := "()Z" } : Jvm.MethodName)) ∈ gz_T := gz_sel 41 (by decide +kernel) rfl
theorem gs_43 : (Jvm.Cond.selects "WellCourtModel" ({ cls := "WellCourtModel", name := "mustWord", desc := "(J)Z" } : Jvm.MethodName) ({ cls := "WellCourtModel", name := "mustWord", desc := "(J)Z" } : Jvm.MethodName)) ∈ gz_T := gz_sel 43 (by decide +kernel) rfl
theorem dX10_drought_0 : decode cX10_drought 0 = .ok (.aload_n 0, 1) := by decide +kernel
theorem dX10_drought_1 : decode cX10_drought 1 = .ok (.iconst 0, 1) := by decide +kernel
theorem dX10_drought_2 : decode cX10_drought 2 = .ok (.iconst 5, 1) := by decide +kernel
theorem dX10_drought_3 : decode cX10_drought 3 = .ok (.invokevirtual 251, 3) := by decide +kernel
theorem dX10_drought_6 : decode cX10_drought 6 = .ok (.ifCond .ne 5, 3) := by decide +kernel
theorem dX10_drought_9 : decode cX10_drought 9 = .ok (.iconst 0, 1) := by decide +kernel
theorem dX10_drought_10 : decode cX10_drought 10 = .ok (.ireturn, 1) := by decide +kernel
theorem dX10_drought_11 : decode cX10_drought 11 = .ok (.aload_n 0, 1) := by decide +kernel
theorem dX10_drought_12 : decode cX10_drought 12 = .ok (.getfield 40, 3) := by decide +kernel
theorem dX10_drought_15 : decode cX10_drought 15 = .ok (.iload_n 1, 1) := by decide +kernel
theorem dX10_drought_16 : decode cX10_drought 16 = .ok (.aload_n 0, 1) := by decide +kernel
theorem dX10_drought_17 : decode cX10_drought 17 = .ok (.getfield 191, 3) := by decide +kernel
theorem dX10_drought_20 : decode cX10_drought 20 = .ok (.iastore, 1) := by decide +kernel
theorem dX10_drought_21 : decode cX10_drought 21 = .ok (.aload_n 0, 1) := by decide +kernel
theorem dX10_drought_22 : decode cX10_drought 22 = .ok (.ldc2_w 264, 3) := by decide +kernel
theorem dX10_drought_25 : decode cX10_drought 25 = .ok (.invokevirtual 259, 3) := by decide +kernel
theorem dX10_drought_28 : decode cX10_drought 28 = .ok (.ifCond .eq 14, 3) := by decide +kernel
theorem dX10_drought_31 : decode cX10_drought 31 = .ok (.aload_n 0, 1) := by decide +kernel
theorem dX10_drought_32 : decode cX10_drought 32 = .ok (.iconst 0, 1) := by decide +kernel
theorem dX10_drought_33 : decode cX10_drought 33 = .ok (.sipush 1000, 3) := by decide +kernel
theorem dX10_drought_36 : decode cX10_drought 36 = .ok (.invokevirtual 251, 3) := by decide +kernel
theorem dX10_drought_39 : decode cX10_drought 39 = .ok (.ifCond .ne 5, 3) := by decide +kernel
theorem dX10_drought_42 : decode cX10_drought 42 = .ok (.iconst 0, 1) := by decide +kernel
theorem dX10_drought_43 : decode cX10_drought 43 = .ok (.ireturn, 1) := by decide +kernel
theorem dX10_drought_44 : decode cX10_drought 44 = .ok (.aload_n 0, 1) := by decide +kernel
theorem dX10_drought_45 : decode cX10_drought 45 = .ok (.getfield 49, 3) := by decide +kernel
theorem dX10_drought_48 : decode cX10_drought 48 = .ok (.iload_n 1, 1) := by decide +kernel
theorem dX10_drought_49 : decode cX10_drought 49 = .ok (.aload_n 0, 1) := by decide +kernel
theorem dX10_drought_50 : decode cX10_drought 50 = .ok (.getfield 191, 3) := by decide +kernel
theorem dX10_drought_53 : decode cX10_drought 53 = .ok (.iastore, 1) := by decide +kernel
theorem dX10_drought_54 : decode cX10_drought 54 = .ok (.aload_n 0, 1) := by decide +kernel
theorem dX10_drought_55 : decode cX10_drought 55 = .ok (.invokevirtual 254, 3) := by decide +kernel
theorem dX10_drought_58 : decode cX10_drought 58 = .ok (.ifCond .ne 5, 3) := by decide +kernel
theorem dX10_drought_61 : decode cX10_drought 61 = .ok (.iconst 0, 1) := by decide +kernel
theorem dX10_drought_62 : decode cX10_drought 62 = .ok (.ireturn, 1) := by decide +kernel
theorem dX10_drought_63 : decode cX10_drought 63 = .ok (.aload_n 0, 1) := by decide +kernel
theorem dX10_drought_64 : decode cX10_drought 64 = .ok (.getfield 43, 3) := by decide +kernel
theorem dX10_drought_67 : decode cX10_drought 67 = .ok (.iload_n 1, 1) := by decide +kernel
theorem dX10_drought_68 : decode cX10_drought 68 = .ok (.aload_n 0, 1) := by decide +kernel
theorem dX10_drought_69 : decode cX10_drought 69 = .ok (.getfield 191, 3) := by decide +kernel
theorem dX10_drought_72 : decode cX10_drought 72 = .ok (.iastore, 1) := by decide +kernel
theorem dX10_drought_73 : decode cX10_drought 73 = .ok (.iconst 1, 1) := by decide +kernel
theorem dX10_drought_74 : decode cX10_drought 74 = .ok (.ireturn, 1) := by decide +kernel
theorem dX10_dry_0 : decode cX10_dry 0 = .ok (.aload_n 0, 1) := by decide +kernel
theorem dX10_dry_1 : decode cX10_dry 1 = .ok (.iconst 0, 1) := by decide +kernel
theorem dX10_dry_2 : decode cX10_dry 2 = .ok (.iconst 5, 1) := by decide +kernel
theorem dX10_dry_3 : decode cX10_dry 3 = .ok (.invokevirtual 251, 3) := by decide +kernel
theorem dX10_dry_6 : decode cX10_dry 6 = .ok (.ifCond .ne 5, 3) := by decide +kernel
theorem dX10_dry_9 : decode cX10_dry 9 = .ok (.iconst 0, 1) := by decide +kernel
theorem dX10_dry_10 : decode cX10_dry 10 = .ok (.ireturn, 1) := by decide +kernel
theorem dX10_dry_11 : decode cX10_dry 11 = .ok (.aload_n 0, 1) := by decide +kernel
theorem dX10_dry_12 : decode cX10_dry 12 = .ok (.getfield 40, 3) := by decide +kernel
theorem dX10_dry_15 : decode cX10_dry 15 = .ok (.iload_n 1, 1) := by decide +kernel
theorem dX10_dry_16 : decode cX10_dry 16 = .ok (.aload_n 0, 1) := by decide +kernel
theorem dX10_dry_17 : decode cX10_dry 17 = .ok (.getfield 191, 3) := by decide +kernel
theorem dX10_dry_20 : decode cX10_dry 20 = .ok (.iastore, 1) := by decide +kernel
theorem dX10_dry_21 : decode cX10_dry 21 = .ok (.aload_n 0, 1) := by decide +kernel
theorem dX10_dry_22 : decode cX10_dry 22 = .ok (.ldc2_w 266, 3) := by decide +kernel
theorem dX10_dry_25 : decode cX10_dry 25 = .ok (.invokevirtual 259, 3) := by decide +kernel
theorem dX10_dry_28 : decode cX10_dry 28 = .ok (.ifCond .eq 12, 3) := by decide +kernel
theorem dX10_dry_31 : decode cX10_dry 31 = .ok (.aload_n 0, 1) := by decide +kernel
theorem dX10_dry_32 : decode cX10_dry 32 = .ok (.iconst 0, 1) := by decide +kernel
theorem dX10_dry_33 : decode cX10_dry 33 = .ok (.iconst 5, 1) := by decide +kernel
theorem dX10_dry_34 : decode cX10_dry 34 = .ok (.invokevirtual 251, 3) := by decide +kernel
theorem dX10_dry_37 : decode cX10_dry 37 = .ok (.ifCond .ne 5, 3) := by decide +kernel
theorem dX10_dry_40 : decode cX10_dry 40 = .ok (.iconst 0, 1) := by decide +kernel
theorem dX10_dry_41 : decode cX10_dry 41 = .ok (.ireturn, 1) := by decide +kernel
theorem dX10_dry_42 : decode cX10_dry 42 = .ok (.aload_n 0, 1) := by decide +kernel
theorem dX10_dry_43 : decode cX10_dry 43 = .ok (.getfield 43, 3) := by decide +kernel
theorem dX10_dry_46 : decode cX10_dry 46 = .ok (.iload_n 1, 1) := by decide +kernel
theorem dX10_dry_47 : decode cX10_dry 47 = .ok (.aload_n 0, 1) := by decide +kernel
theorem dX10_dry_48 : decode cX10_dry 48 = .ok (.getfield 191, 3) := by decide +kernel
theorem dX10_dry_51 : decode cX10_dry 51 = .ok (.iastore, 1) := by decide +kernel
theorem dX10_dry_52 : decode cX10_dry 52 = .ok (.aload_n 0, 1) := by decide +kernel
theorem dX10_dry_53 : decode cX10_dry 53 = .ok (.getfield 191, 3) := by decide +kernel
theorem dX10_dry_56 : decode cX10_dry 56 = .ok (.aload_n 0, 1) := by decide +kernel
theorem dX10_dry_57 : decode cX10_dry 57 = .ok (.getfield 40, 3) := by decide +kernel
theorem dX10_dry_60 : decode cX10_dry 60 = .ok (.iload_n 1, 1) := by decide +kernel
theorem dX10_dry_61 : decode cX10_dry 61 = .ok (.iaload, 1) := by decide +kernel
theorem dX10_dry_62 : decode cX10_dry 62 = .ok (.if_icmp .ne 15, 3) := by decide +kernel
theorem dX10_dry_65 : decode cX10_dry 65 = .ok (.aload_n 0, 1) := by decide +kernel
theorem dX10_dry_66 : decode cX10_dry 66 = .ok (.iconst 3, 1) := by decide +kernel
theorem dX10_dry_67 : decode cX10_dry 67 = .ok (.aload_n 0, 1) := by decide +kernel
theorem dX10_dry_68 : decode cX10_dry 68 = .ok (.getfield 194, 3) := by decide +kernel
theorem dX10_dry_71 : decode cX10_dry 71 = .ok (.invokevirtual 176, 3) := by decide +kernel
theorem dX10_dry_74 : decode cX10_dry 74 = .ok (.ifCond .eq 7, 3) := by decide +kernel
theorem dX10_dry_77 : decode cX10_dry 77 = .ok (.iconst 1, 1) := by decide +kernel
theorem dX10_dry_78 : decode cX10_dry 78 = .ok (.goto 4, 3) := by decide +kernel
theorem dX10_dry_81 : decode cX10_dry 81 = .ok (.iconst 0, 1) := by decide +kernel
theorem dX10_dry_82 : decode cX10_dry 82 = .ok (.ireturn, 1) := by decide +kernel
theorem dX10_guest_0 : decode cX10_guest 0 = .ok (.aload_n 0, 1) := by decide +kernel
theorem dX10_guest_1 : decode cX10_guest 1 = .ok (.invokevirtual 254, 3) := by decide +kernel
theorem dX10_guest_4 : decode cX10_guest 4 = .ok (.ifCond .ne 5, 3) := by decide +kernel
theorem dX10_guest_7 : decode cX10_guest 7 = .ok (.iconst 0, 1) := by decide +kernel
theorem dX10_guest_8 : decode cX10_guest 8 = .ok (.ireturn, 1) := by decide +kernel
theorem dX10_guest_9 : decode cX10_guest 9 = .ok (.aload_n 0, 1) := by decide +kernel
theorem dX10_guest_10 : decode cX10_guest 10 = .ok (.getfield 40, 3) := by decide +kernel
theorem dX10_guest_13 : decode cX10_guest 13 = .ok (.iload_n 1, 1) := by decide +kernel
theorem dX10_guest_14 : decode cX10_guest 14 = .ok (.aload_n 0, 1) := by decide +kernel
theorem dX10_guest_15 : decode cX10_guest 15 = .ok (.getfield 191, 3) := by decide +kernel
theorem dX10_guest_18 : decode cX10_guest 18 = .ok (.iastore, 1) := by decide +kernel
theorem dX10_guest_19 : decode cX10_guest 19 = .ok (.aload_n 0, 1) := by decide +kernel
theorem dX10_guest_20 : decode cX10_guest 20 = .ok (.ldc2_w 257, 3) := by decide +kernel
theorem dX10_guest_23 : decode cX10_guest 23 = .ok (.invokevirtual 259, 3) := by decide +kernel
theorem dX10_guest_26 : decode cX10_guest 26 = .ok (.ifCond .eq 12, 3) := by decide +kernel
theorem dX10_guest_29 : decode cX10_guest 29 = .ok (.aload_n 0, 1) := by decide +kernel
theorem dX10_guest_30 : decode cX10_guest 30 = .ok (.iconst 0, 1) := by decide +kernel
theorem dX10_guest_31 : decode cX10_guest 31 = .ok (.iconst 5, 1) := by decide +kernel
theorem dX10_guest_32 : decode cX10_guest 32 = .ok (.invokevirtual 251, 3) := by decide +kernel
theorem dX10_guest_35 : decode cX10_guest 35 = .ok (.ifCond .ne 5, 3) := by decide +kernel
theorem dX10_guest_38 : decode cX10_guest 38 = .ok (.iconst 0, 1) := by decide +kernel
theorem dX10_guest_39 : decode cX10_guest 39 = .ok (.ireturn, 1) := by decide +kernel
theorem dX10_guest_40 : decode cX10_guest 40 = .ok (.aload_n 0, 1) := by decide +kernel
theorem dX10_guest_41 : decode cX10_guest 41 = .ok (.getfield 43, 3) := by decide +kernel
theorem dX10_guest_44 : decode cX10_guest 44 = .ok (.iload_n 1, 1) := by decide +kernel
theorem dX10_guest_45 : decode cX10_guest 45 = .ok (.aload_n 0, 1) := by decide +kernel
theorem dX10_guest_46 : decode cX10_guest 46 = .ok (.getfield 191, 3) := by decide +kernel
theorem dX10_guest_49 : decode cX10_guest 49 = .ok (.iastore, 1) := by decide +kernel
theorem dX10_guest_50 : decode cX10_guest 50 = .ok (.aload_n 0, 1) := by decide +kernel
theorem dX10_guest_51 : decode cX10_guest 51 = .ok (.ldc2_w 262, 3) := by decide +kernel
theorem dX10_guest_54 : decode cX10_guest 54 = .ok (.invokevirtual 259, 3) := by decide +kernel
theorem dX10_guest_57 : decode cX10_guest 57 = .ok (.ifCond .eq 10, 3) := by decide +kernel
theorem dX10_guest_60 : decode cX10_guest 60 = .ok (.aload_n 0, 1) := by decide +kernel
theorem dX10_guest_61 : decode cX10_guest 61 = .ok (.invokevirtual 254, 3) := by decide +kernel
theorem dX10_guest_64 : decode cX10_guest 64 = .ok (.ifCond .ne 5, 3) := by decide +kernel
theorem dX10_guest_67 : decode cX10_guest 67 = .ok (.iconst 0, 1) := by decide +kernel
theorem dX10_guest_68 : decode cX10_guest 68 = .ok (.ireturn, 1) := by decide +kernel
theorem dX10_guest_69 : decode cX10_guest 69 = .ok (.aload_n 0, 1) := by decide +kernel
theorem dX10_guest_70 : decode cX10_guest 70 = .ok (.getfield 191, 3) := by decide +kernel
theorem dX10_guest_73 : decode cX10_guest 73 = .ok (.aload_n 0, 1) := by decide +kernel
theorem dX10_guest_74 : decode cX10_guest 74 = .ok (.getfield 40, 3) := by decide +kernel
theorem dX10_guest_77 : decode cX10_guest 77 = .ok (.iload_n 1, 1) := by decide +kernel
theorem dX10_guest_78 : decode cX10_guest 78 = .ok (.iaload, 1) := by decide +kernel
theorem dX10_guest_79 : decode cX10_guest 79 = .ok (.if_icmp .ne 13, 3) := by decide +kernel
theorem dX10_guest_82 : decode cX10_guest 82 = .ok (.aload_n 0, 1) := by decide +kernel
theorem dX10_guest_83 : decode cX10_guest 83 = .ok (.iconst 3, 1) := by decide +kernel
theorem dX10_guest_84 : decode cX10_guest 84 = .ok (.aload_n 0, 1) := by decide +kernel
theorem dX10_guest_85 : decode cX10_guest 85 = .ok (.getfield 194, 3) := by decide +kernel
theorem dX10_guest_88 : decode cX10_guest 88 = .ok (.invokevirtual 176, 3) := by decide +kernel
theorem dX10_guest_91 : decode cX10_guest 91 = .ok (.ireturn, 1) := by decide +kernel
theorem dX10_guest_92 : decode cX10_guest 92 = .ok (.aload_n 0, 1) := by decide +kernel
theorem dX10_guest_93 : decode cX10_guest 93 = .ok (.getfield 46, 3) := by decide +kernel
theorem dX10_guest_96 : decode cX10_guest 96 = .ok (.iload_n 1, 1) := by decide +kernel
theorem dX10_guest_97 : decode cX10_guest 97 = .ok (.aload_n 0, 1) := by decide +kernel
theorem dX10_guest_98 : decode cX10_guest 98 = .ok (.getfield 191, 3) := by decide +kernel
theorem dX10_guest_101 : decode cX10_guest 101 = .ok (.iastore, 1) := by decide +kernel
theorem dX10_guest_102 : decode cX10_guest 102 = .ok (.aload_n 0, 1) := by decide +kernel
theorem dX10_guest_103 : decode cX10_guest 103 = .ok (.iconst 0, 1) := by decide +kernel
theorem dX10_guest_104 : decode cX10_guest 104 = .ok (.sipush 1000, 3) := by decide +kernel
theorem dX10_guest_107 : decode cX10_guest 107 = .ok (.invokevirtual 251, 3) := by decide +kernel
theorem dX10_guest_110 : decode cX10_guest 110 = .ok (.ifCond .ne 5, 3) := by decide +kernel
theorem dX10_guest_113 : decode cX10_guest 113 = .ok (.iconst 0, 1) := by decide +kernel
theorem dX10_guest_114 : decode cX10_guest 114 = .ok (.ireturn, 1) := by decide +kernel
theorem dX10_guest_115 : decode cX10_guest 115 = .ok (.aload_n 0, 1) := by decide +kernel
theorem dX10_guest_116 : decode cX10_guest 116 = .ok (.getfield 49, 3) := by decide +kernel
theorem dX10_guest_119 : decode cX10_guest 119 = .ok (.iload_n 1, 1) := by decide +kernel
theorem dX10_guest_120 : decode cX10_guest 120 = .ok (.aload_n 0, 1) := by decide +kernel
theorem dX10_guest_121 : decode cX10_guest 121 = .ok (.getfield 191, 3) := by decide +kernel
theorem dX10_guest_124 : decode cX10_guest 124 = .ok (.iastore, 1) := by decide +kernel
theorem dX10_guest_125 : decode cX10_guest 125 = .ok (.iconst 1, 1) := by decide +kernel
theorem dX10_guest_126 : decode cX10_guest 126 = .ok (.ireturn, 1) := by decide +kernel
theorem dX10_wed_0 : decode cX10_wed 0 = .ok (.aload_n 0, 1) := by decide +kernel
theorem dX10_wed_1 : decode cX10_wed 1 = .ok (.invokevirtual 254, 3) := by decide +kernel
theorem dX10_wed_4 : decode cX10_wed 4 = .ok (.ifCond .ne 5, 3) := by decide +kernel
theorem dX10_wed_7 : decode cX10_wed 7 = .ok (.iconst 0, 1) := by decide +kernel
theorem dX10_wed_8 : decode cX10_wed 8 = .ok (.ireturn, 1) := by decide +kernel
theorem dX10_wed_9 : decode cX10_wed 9 = .ok (.aload_n 0, 1) := by decide +kernel
theorem dX10_wed_10 : decode cX10_wed 10 = .ok (.getfield 40, 3) := by decide +kernel
theorem dX10_wed_13 : decode cX10_wed 13 = .ok (.iload_n 1, 1) := by decide +kernel
theorem dX10_wed_14 : decode cX10_wed 14 = .ok (.aload_n 0, 1) := by decide +kernel
theorem dX10_wed_15 : decode cX10_wed 15 = .ok (.getfield 191, 3) := by decide +kernel
theorem dX10_wed_18 : decode cX10_wed 18 = .ok (.iastore, 1) := by decide +kernel
theorem dX10_wed_19 : decode cX10_wed 19 = .ok (.aload_n 0, 1) := by decide +kernel
theorem dX10_wed_20 : decode cX10_wed 20 = .ok (.invokevirtual 254, 3) := by decide +kernel
theorem dX10_wed_23 : decode cX10_wed 23 = .ok (.ifCond .ne 5, 3) := by decide +kernel
theorem dX10_wed_26 : decode cX10_wed 26 = .ok (.iconst 0, 1) := by decide +kernel
theorem dX10_wed_27 : decode cX10_wed 27 = .ok (.ireturn, 1) := by decide +kernel
theorem dX10_wed_28 : decode cX10_wed 28 = .ok (.aload_n 0, 1) := by decide +kernel
theorem dX10_wed_29 : decode cX10_wed 29 = .ok (.getfield 43, 3) := by decide +kernel
theorem dX10_wed_32 : decode cX10_wed 32 = .ok (.iload_n 1, 1) := by decide +kernel
theorem dX10_wed_33 : decode cX10_wed 33 = .ok (.aload_n 0, 1) := by decide +kernel
theorem dX10_wed_34 : decode cX10_wed 34 = .ok (.getfield 191, 3) := by decide +kernel
theorem dX10_wed_37 : decode cX10_wed 37 = .ok (.iastore, 1) := by decide +kernel
theorem dX10_wed_38 : decode cX10_wed 38 = .ok (.aload_n 0, 1) := by decide +kernel
theorem dX10_wed_39 : decode cX10_wed 39 = .ok (.getfield 191, 3) := by decide +kernel
theorem dX10_wed_42 : decode cX10_wed 42 = .ok (.aload_n 0, 1) := by decide +kernel
theorem dX10_wed_43 : decode cX10_wed 43 = .ok (.getfield 40, 3) := by decide +kernel
theorem dX10_wed_46 : decode cX10_wed 46 = .ok (.iload_n 1, 1) := by decide +kernel
theorem dX10_wed_47 : decode cX10_wed 47 = .ok (.iaload, 1) := by decide +kernel
theorem dX10_wed_48 : decode cX10_wed 48 = .ok (.if_icmp .ne 15, 3) := by decide +kernel
theorem dX10_wed_51 : decode cX10_wed 51 = .ok (.aload_n 0, 1) := by decide +kernel
theorem dX10_wed_52 : decode cX10_wed 52 = .ok (.iconst 3, 1) := by decide +kernel
theorem dX10_wed_53 : decode cX10_wed 53 = .ok (.aload_n 0, 1) := by decide +kernel
theorem dX10_wed_54 : decode cX10_wed 54 = .ok (.getfield 194, 3) := by decide +kernel
theorem dX10_wed_57 : decode cX10_wed 57 = .ok (.invokevirtual 176, 3) := by decide +kernel
theorem dX10_wed_60 : decode cX10_wed 60 = .ok (.ifCond .eq 7, 3) := by decide +kernel
theorem dX10_wed_63 : decode cX10_wed 63 = .ok (.iconst 1, 1) := by decide +kernel
theorem dX10_wed_64 : decode cX10_wed 64 = .ok (.goto 4, 3) := by decide +kernel
theorem dX10_wed_67 : decode cX10_wed 67 = .ok (.iconst 0, 1) := by decide +kernel
theorem dX10_wed_68 : decode cX10_wed 68 = .ok (.ireturn, 1) := by decide +kernel
/-! the rules of the reference: what keeps a round of turns from being empty -/
def mPos (f g : Nat → Int32) : Prop := ∀ q, 1 ≤ (f q).toInt → 1 ≤ (g q).toInt
theorem mPos.rf {f : Nat → Int32} : mPos f f := fun _ h => h
theorem mPos.trans {f g h : Nat → Int32} (h1 : mPos f g) (h2 : mPos g h) : mPos f h := fun q hq => h2 q (h1 q hq)
theorem mPos.up {f g : Nat → Int32} {j : Nat} {v : Int32} (h : mPos f g) (hv : 1 ≤ v.toInt) : mPos f (upd g j v) := fun q hq => by
  by_cases e : q = j
  · rw [e, pk_us]; exact hv
  · rw [pk_un e]; exact h q hq
/-- where a rule has shares, its first has days -/
def mTdR (f g : Nat → Int32) : Prop := ∀ r, 1 ≤ (f r).toInt → 1 ≤ (g (8 * r)).toInt
theorem mTd_up {f g : Nat → Int32} {r idx v n n1 : Int32} (h : mTdR f g) (hr : 0 ≤ r.toInt) (hidx : idx.toInt = 8 * r.toInt + n.toInt) (hn0 : 0 ≤ n.toInt) (hn : n.toInt ≤ 7) (hv : 1 ≤ v.toInt) (hold : 1 ≤ n.toInt → 1 ≤ (f r.toNatClampNeg).toInt) : mTdR (upd f r.toNatClampNeg n1) (upd g idx.toNatClampNeg v) := by
  have c1 := gs_cl hr
  have c2 := gs_cl (x := idx) (by omega)
  intro q hq
  by_cases e : q = r.toNatClampNeg
  · by_cases e0 : n.toInt = 0
    · have : 8 * q = idx.toNatClampNeg := by omega
      rw [this, pk_us]; exact hv
    · rw [pk_un (by omega), e]
      exact h _ (hold (by omega))
  · rw [pk_un e] at hq
    rw [pk_un (by omega)]
    exact h q hq
/-- the rules 24 b .. 24 b + n - 1: one of turns has shares -/
def mActR (f g : Nat → Int32) (b n : Int) : Prop := ∀ r : Nat, 24 * b ≤ (r : Int) → (r : Int) < 24 * b + n → (f r).toInt = 0 → 1 ≤ (g r).toInt
theorem mAct_pos {f g h : Nat → Int32} {b n : Int} (ha : mActR f g b n) (hp : mPos g h) : mActR f h b n := fun r h1 h2 h3 => hp r (ha r h1 h2 h3)
theorem mAct_keep {f g h : Nat → Int32} {b n : Int} {r s : Int32} (ha : mActR f g b n) (hp : mPos g h) (h0 : 0 ≤ r.toInt) (ho : r.toInt < 24 * b ∨ 24 * b + n ≤ r.toInt) : mActR (upd f r.toNatClampNeg s) h b n := fun q h1 h2 h3 => by
  have c1 := gs_cl h0
  rw [pk_un (by omega)] at h3
  exact hp q (ha q h1 h2 h3)
theorem mAct_new {f g h : Nat → Int32} {b n : Int} {r s : Int32} (ha : mActR f g b n) (hp : mPos g h) (h0 : 0 ≤ r.toInt) (hr : r.toInt = 24 * b + n) (hs : s.toInt = 0 → 1 ≤ (h r.toNatClampNeg).toInt) : mActR (upd f r.toNatClampNeg s) h b (n + 1) := fun q h1 h2 h3 => by
  have c1 := gs_cl h0
  by_cases e : q = r.toNatClampNeg
  · rw [e, pk_us] at h3
    rw [e]; exact hs h3
  · rw [pk_un e] at h3
    exact hp q (ha q h1 (by omega) h3)
theorem mAct_nil {f g : Nat → Int32} {b : Int} : mActR f g b 0 := fun r h1 h2 _ => by omega
theorem gs_div2 {a b x : Int32} {y : Int} (hb : b.toInt = y) (h0 : 0 ≤ a.toInt) (hy : 0 < y) (h : x = a / b) : 0 ≤ x.toInt ∧ x.toInt ≤ a.toInt ∧ y * x.toInt ≤ a.toInt ∧ a.toInt < y * x.toInt + y ∧ x.toInt = (a / b).toInt := by
  obtain ⟨h1, h2, h3, h4⟩ := gs_div hb h0 hy h
  exact ⟨h1, h2, h3, h4, by rw [h]⟩
theorem gs_rem2 {a b x : Int32} {y : Int} (hb : b.toInt = y) (h0 : 0 ≤ a.toInt) (hy : 0 < y) (h : x = a - a / b * b) : 0 ≤ x.toInt ∧ x.toInt < y ∧ x.toInt ≤ a.toInt ∧ x.toInt = a.toInt - y * (a / b).toInt := by
  obtain ⟨h1, h2, h3⟩ := gs_rem hb h0 hy h
  obtain ⟨d0, d1, d2, d3⟩ := gs_div (x := a / b) hb h0 hy rfl
  have h4 := gi_hi a
  have m0 := Int.mul_nonneg (Int.le_of_lt hy) d0
  have m1 : (a / b * b).toInt = (a / b).toInt * y := gz_mulI rfl hb (by rw [Int.mul_comm]; omega) (by rw [Int.mul_comm]; omega)
  rw [Int.mul_comm] at m1
  exact ⟨h1, h2, h3, by rw [h]; exact gz_subI rfl m1 (by omega) (by omega)⟩
set_option maxHeartbeats 4000000 in
set_option maxRecDepth 100000 in
/-- WellCourtModel.guest -/
theorem m_guest (l : Launch) (G : va_G) (cy : Nat → ClassId) (sK sV : Nat → Nat) (ad : Nat → Nat → Nat) (sz : Nat) (st : gS) (hB : gBd bM st) (x : Int32) (Xx : Int) (kx : x.toInt = Xx) (hx0 : 0 ≤ Xx) (hx1 : Xx ≤ 43) (F : Nat → Int32) (N : Int) (hF : st 7 0 = F) (hN : (st 0 0 10).toInt = N) (P : Int) (hC : mCur F N P st) : gsMi l yX10_guest cX10_guest 2 (some .boolean) ({ frames := 3, cells := 0, slots := 0, locals := 66 } : Room) G cy sK sV (shM cy ad) cnM ad sz [.ref (ad 0 0), .int x] st (fun (r : Int32) (u : gS) => gBN bM kM [11, 12, 13, 14, 15, 16, 17, 18, 19, 59, 900, 1000, 1100, 1200] st u ∧ ((r = 1 ∧ (∃ (r9 : Rl) (e9 : Int), pGuestB F N (mLex F N) P = some (r9, e9) ∧ mCur F N e9 u ∧ r9.1 = 1 ∧ wfR r9 ∧ LMb r9 u x.toNatClampNeg) ∧ (mO x.toNatClampNeg st u)) ∨ (r = 0 ∧ (pGuestB F N (mLex F N) P = none) ∧ (mO x.toNatClampNeg st u)))) := by
  refine gs_start (fun A => gsQi G (shM cy ad) cnM ad _ A) (by decide) (Nat.le_of_ble_eq_true rfl) ?_
  intro p e s m below meth c A ls H hx hb hr hml hlocks hown hts hK hov hE hI hM hm hS hA hl
  have hl : lv_has ls 2 [(0, .ref (ad 0 0)), (1, .int x)] := hl
  have hB_st : gBN bM kM [11, 12, 13, 14, 15, 16, 17, 18, 19, 59, 900, 1000, 1100, 1200] st st := gBN.rf hB
  refine lv_aload_n hx hb dX10_guest_0 rfl (lv_at hl 0 rfl) ?_
  refine gs_calli (va_runV (As := []) (rest := []) ⟨hx, hb, hml, hown, hts⟩ (m_readClan l G cy sK sV ad H.size st hB_st.1  F N hF hN P hC) ⟨(gz_cb (n := 0) hts gm_1147 gm_12 gm_1150 ⟨by decide +kernel, by decide +kernel, by decide +kernel⟩ ⟨Nat.le_of_ble_eq_true rfl, Nat.le_of_ble_eq_true rfl⟩), hts _ gm_1149, hts _ gs_41⟩ (gs_preV hK hov hE hI hM hm hS hA 0 0 (by decide) rfl rfl) rfl rfl hl.1 rfl (lv_room (Nat.le_of_ble_eq_true rfl)) dX10_guest_1 ⟨Nat.le_of_ble_eq_true rfl, Nat.le_of_ble_eq_true rfl⟩) hm hS hA (fun r_1 st_1 H locs hw_1 hM hS => ?_)
  obtain ⟨n_1, hw_1⟩ := hw_1
  have hB_st_1 : gBN bM kM [11, 12, 13, 14, 15, 16, 17, 18, 19, 59, 900, 1000, 1100, 1200] st st_1 := hB_st.call n_1 (by decide)
  rcases hw_1 with ⟨rfl, hw_1_0, hw_1_1, hw_1_2⟩ | ⟨rfl, hw_1_0⟩
  · skip
    obtain ⟨e9_hw_1_0, hw_1_0_p0, hw_1_0_p1⟩ := hw_1_0
    refine lv_if_ne (tgt := 9) hx hb dX10_guest_4 (by decide) (fun _ => ?_) (fun h9 => absurd h9 (by decide))
    refine lv_aload_n hx hb dX10_guest_9 rfl (lv_at hl 0 rfl) ?_
    refine gs_get (C := RX10) (T := TX10) (N := 59) hx hb hts inX10 hown hK hM 0 0 21 (by decide) rfl rfl (by decide) (hts _ gm_922) (fun _ h9 => h9) rfl dX10_guest_10 ?_
    refine lv_iload_n hx hb dX10_guest_13 rfl (lv_at hl 1 rfl) ?_
    refine lv_aload_n hx hb dX10_guest_14 rfl (lv_at hl 0 rfl) ?_
    refine gs_get (C := RX10) (T := TX10) (N := 59) hx hb hts inX10 hown hK hM 0 0 18 (by decide) rfl rfl (by decide) (hts _ gm_919) (fun _ h9 => h9) rfl dX10_guest_15 ?_
    refine gs_iast hx hb hK hI hm hM hS 9 0 (by decide) (fun _ => rfl) (vp_in_iff.mpr ⟨by omega, by omega⟩) dX10_guest_18 (fun st_3 H locs est_3 hM hS => ?_)
    have hB_st_3 : gBN bM kM [11, 12, 13, 14, 15, 16, 17, 18, 19, 59, 900, 1000, 1100, 1200] st st_3 := by rw [est_3]; exact hB_st_1.up (show (900 : Nat) ∈ _ from by decide) (show (0 : Int) ≤ (st_1 0 0 18).toInt from by omega) (show (st_1 0 0 18).toInt ≤ (5 : Int) from by omega)
    refine lv_aload_n hx hb dX10_guest_19 rfl (lv_at hl 0 rfl) ?_
    refine lv_ldc2 (v := 24948) hx hb hown (hts _ gm_1157) dX10_guest_20 ?_
    refine gs_calli (va_runV (As := [.long (24948 : Int64)]) (rest := []) ⟨hx, hb, hml, hown, hts⟩ (m_mustWord l G cy sK sV ad H.size st_3 hB_st_3.1 (24948 : Int64) F N (((congrFun (congrFun est_3 7) 0).trans ((congrFun (gU_k (by decide)) 0).trans ((funext (fun j9 => n_1.2 7 0 j9 (show (700 : Nat) ∉ _ from by decide))).trans rfl))).trans hF) ((congrArg Int32.toInt ((((congrFun (congrFun (congrFun est_3 0) 0) 10).trans (congrFun (congrFun (gU_k (by decide)) 0) 10)).trans (n_1.2 0 0 10 (show (10 : Nat) ∉ _ from by decide))))).trans hN) e9_hw_1_0 (hw_1_0_p1.rows ((congrFun (congrFun (congrFun est_3 0) 0) 11).trans (congrFun (congrFun (gU_k (by decide)) 0) 11)) ((congrFun (congrFun (congrFun est_3 0) 0) 12).trans (congrFun (congrFun (gU_k (by decide)) 0) 12)) ((congrFun (congrFun (congrFun est_3 0) 0) 14).trans (congrFun (congrFun (gU_k (by decide)) 0) 14)) ((congrFun (congrFun (congrFun est_3 0) 0) 17).trans (congrFun (congrFun (gU_k (by decide)) 0) 17)) ((congrFun (congrFun (congrFun est_3 0) 0) 59).trans (congrFun (congrFun (gU_k (by decide)) 0) 59))) wAt (by decide +kernel)) ⟨(gz_cb (n := 1) hts gm_1158 gm_12 gm_1161 ⟨by decide +kernel, by decide +kernel, by decide +kernel⟩ ⟨Nat.le_of_ble_eq_true rfl, Nat.le_of_ble_eq_true rfl⟩), hts _ gm_1160, hts _ gs_43⟩ (gs_preV hK hov hE hI hM hm hS hA 0 0 (by decide) rfl rfl) rfl rfl hl.1 rfl (lv_room (Nat.le_of_ble_eq_true rfl)) dX10_guest_23 ⟨Nat.le_of_ble_eq_true rfl, Nat.le_of_ble_eq_true rfl⟩) hm hS hA (fun r_4 st_4 H locs hw_4 hM hS => ?_)
    obtain ⟨n_4, hw_4⟩ := hw_4
    have hB_st_4 : gBN bM kM [11, 12, 13, 14, 15, 16, 17, 18, 19, 59, 900, 1000, 1100, 1200] st st_4 := hB_st_3.call n_4 (by decide)
    rcases hw_4 with ⟨rfl, hw_4_0⟩ | ⟨rfl, hw_4_0⟩
    · skip
      obtain ⟨e9_hw_4_0, hw_4_0_p0, hw_4_0_p1⟩ := hw_4_0
      refine lv_if_eq (tgt := 38) hx hb dX10_guest_26 (by decide) (fun h9 => absurd h9 (by decide)) (fun _ => ?_)
      refine lv_aload_n hx hb dX10_guest_29 rfl (lv_at hl 0 rfl) ?_
      refine lv_iconst (v := 0) hx hb dX10_guest_30 (by decide) ?_
      refine lv_iconst (v := 5) hx hb dX10_guest_31 (by decide) ?_
      refine gs_calli (va_runV (As := [.int 0, .int 5]) (rest := []) ⟨hx, hb, hml, hown, hts⟩ (m_readNumber l G cy sK sV ad H.size st_4 hB_st_4.1 (0 : Int32) (5 : Int32) 0 5 (by decide) (by decide) F N (((funext (fun j9 => n_4.2 7 0 j9 (show (700 : Nat) ∉ _ from by decide))).trans ((congrFun (congrFun est_3 7) 0).trans ((congrFun (gU_k (by decide)) 0).trans ((funext (fun j9 => n_1.2 7 0 j9 (show (700 : Nat) ∉ _ from by decide))).trans rfl)))).trans hF) ((congrArg Int32.toInt (((n_4.2 0 0 10 (show (10 : Nat) ∉ _ from by decide)).trans (((congrFun (congrFun (congrFun est_3 0) 0) 10).trans (congrFun (congrFun (gU_k (by decide)) 0) 10)).trans (n_1.2 0 0 10 (show (10 : Nat) ∉ _ from by decide)))))).trans hN) e9_hw_4_0 hw_4_0_p1) ⟨(gz_cb (n := 2) hts gm_1139 gm_12 gm_1142 ⟨by decide +kernel, by decide +kernel, by decide +kernel⟩ ⟨Nat.le_of_ble_eq_true rfl, Nat.le_of_ble_eq_true rfl⟩), hts _ gm_1141, hts _ gs_39⟩ (gs_preV hK hov hE hI hM hm hS hA 0 0 (by decide) rfl rfl) rfl rfl hl.1 rfl (lv_room (Nat.le_of_ble_eq_true rfl)) dX10_guest_32 ⟨Nat.le_of_ble_eq_true rfl, Nat.le_of_ble_eq_true rfl⟩) hm hS hA (fun r_5 st_5 H locs hw_5 hM hS => ?_)
      obtain ⟨n_5, hw_5⟩ := hw_5
      have hB_st_5 : gBN bM kM [11, 12, 13, 14, 15, 16, 17, 18, 19, 59, 900, 1000, 1100, 1200] st st_5 := hB_st_4.call n_5 (by decide)
      rcases hw_5 with ⟨rfl, hw_5_0, hw_5_1, hw_5_2⟩ | ⟨rfl, hw_5_0⟩
      · skip
        obtain ⟨e9_hw_5_0, hw_5_0_p0, hw_5_0_p1⟩ := hw_5_0
        refine lv_if_ne (tgt := 40) hx hb dX10_guest_35 (by decide) (fun _ => ?_) (fun h9 => absurd h9 (by decide))
        refine lv_aload_n hx hb dX10_guest_40 rfl (lv_at hl 0 rfl) ?_
        refine gs_get (C := RX10) (T := TX10) (N := 59) hx hb hts inX10 hown hK hM 0 0 22 (by decide) rfl rfl (by decide) (hts _ gm_923) (fun _ h9 => h9) rfl dX10_guest_41 ?_
        refine lv_iload_n hx hb dX10_guest_44 rfl (lv_at hl 1 rfl) ?_
        refine lv_aload_n hx hb dX10_guest_45 rfl (lv_at hl 0 rfl) ?_
        refine gs_get (C := RX10) (T := TX10) (N := 59) hx hb hts inX10 hown hK hM 0 0 18 (by decide) rfl rfl (by decide) (hts _ gm_919) (fun _ h9 => h9) rfl dX10_guest_46 ?_
        refine gs_iast hx hb hK hI hm hM hS 10 0 (by decide) (fun _ => rfl) (vp_in_iff.mpr ⟨by omega, by omega⟩) dX10_guest_49 (fun st_7 H locs est_7 hM hS => ?_)
        have hB_st_7 : gBN bM kM [11, 12, 13, 14, 15, 16, 17, 18, 19, 59, 900, 1000, 1100, 1200] st st_7 := by rw [est_7]; exact hB_st_5.up (show (1000 : Nat) ∈ _ from by decide) (gi_lo _) (gi_hi _)
        refine lv_aload_n hx hb dX10_guest_50 rfl (lv_at hl 0 rfl) ?_
        refine lv_ldc2 (v := 28518) hx hb hown (hts _ gm_1162) dX10_guest_51 ?_
        refine gs_calli (va_runV (As := [.long (28518 : Int64)]) (rest := []) ⟨hx, hb, hml, hown, hts⟩ (m_mustWord l G cy sK sV ad H.size st_7 hB_st_7.1 (28518 : Int64) F N (((congrFun (congrFun est_7 7) 0).trans ((congrFun (gU_k (by decide)) 0).trans ((funext (fun j9 => n_5.2 7 0 j9 (show (700 : Nat) ∉ _ from by decide))).trans ((funext (fun j9 => n_4.2 7 0 j9 (show (700 : Nat) ∉ _ from by decide))).trans ((congrFun (congrFun est_3 7) 0).trans ((congrFun (gU_k (by decide)) 0).trans ((funext (fun j9 => n_1.2 7 0 j9 (show (700 : Nat) ∉ _ from by decide))).trans rfl))))))).trans hF) ((congrArg Int32.toInt ((((congrFun (congrFun (congrFun est_7 0) 0) 10).trans (congrFun (congrFun (gU_k (by decide)) 0) 10)).trans ((n_5.2 0 0 10 (show (10 : Nat) ∉ _ from by decide)).trans ((n_4.2 0 0 10 (show (10 : Nat) ∉ _ from by decide)).trans (((congrFun (congrFun (congrFun est_3 0) 0) 10).trans (congrFun (congrFun (gU_k (by decide)) 0) 10)).trans (n_1.2 0 0 10 (show (10 : Nat) ∉ _ from by decide)))))))).trans hN) e9_hw_5_0 (hw_5_0_p1.rows ((congrFun (congrFun (congrFun est_7 0) 0) 11).trans (congrFun (congrFun (gU_k (by decide)) 0) 11)) ((congrFun (congrFun (congrFun est_7 0) 0) 12).trans (congrFun (congrFun (gU_k (by decide)) 0) 12)) ((congrFun (congrFun (congrFun est_7 0) 0) 14).trans (congrFun (congrFun (gU_k (by decide)) 0) 14)) ((congrFun (congrFun (congrFun est_7 0) 0) 17).trans (congrFun (congrFun (gU_k (by decide)) 0) 17)) ((congrFun (congrFun (congrFun est_7 0) 0) 59).trans (congrFun (congrFun (gU_k (by decide)) 0) 59))) wOf (by decide +kernel)) ⟨(gz_cb (n := 1) hts gm_1158 gm_12 gm_1161 ⟨by decide +kernel, by decide +kernel, by decide +kernel⟩ ⟨Nat.le_of_ble_eq_true rfl, Nat.le_of_ble_eq_true rfl⟩), hts _ gm_1160, hts _ gs_43⟩ (gs_preV hK hov hE hI hM hm hS hA 0 0 (by decide) rfl rfl) rfl rfl hl.1 rfl (lv_room (Nat.le_of_ble_eq_true rfl)) dX10_guest_54 ⟨Nat.le_of_ble_eq_true rfl, Nat.le_of_ble_eq_true rfl⟩) hm hS hA (fun r_8 st_8 H locs hw_8 hM hS => ?_)
        obtain ⟨n_8, hw_8⟩ := hw_8
        have hB_st_8 : gBN bM kM [11, 12, 13, 14, 15, 16, 17, 18, 19, 59, 900, 1000, 1100, 1200] st st_8 := hB_st_7.call n_8 (by decide)
        rcases hw_8 with ⟨rfl, hw_8_0⟩ | ⟨rfl, hw_8_0⟩
        · skip
          obtain ⟨e9_hw_8_0, hw_8_0_p0, hw_8_0_p1⟩ := hw_8_0
          refine lv_if_eq (tgt := 67) hx hb dX10_guest_57 (by decide) (fun h9 => absurd h9 (by decide)) (fun _ => ?_)
          refine lv_aload_n hx hb dX10_guest_60 rfl (lv_at hl 0 rfl) ?_
          refine gs_calli (va_runV (As := []) (rest := []) ⟨hx, hb, hml, hown, hts⟩ (m_readClan l G cy sK sV ad H.size st_8 hB_st_8.1  F N (((funext (fun j9 => n_8.2 7 0 j9 (show (700 : Nat) ∉ _ from by decide))).trans ((congrFun (congrFun est_7 7) 0).trans ((congrFun (gU_k (by decide)) 0).trans ((funext (fun j9 => n_5.2 7 0 j9 (show (700 : Nat) ∉ _ from by decide))).trans ((funext (fun j9 => n_4.2 7 0 j9 (show (700 : Nat) ∉ _ from by decide))).trans ((congrFun (congrFun est_3 7) 0).trans ((congrFun (gU_k (by decide)) 0).trans ((funext (fun j9 => n_1.2 7 0 j9 (show (700 : Nat) ∉ _ from by decide))).trans rfl)))))))).trans hF) ((congrArg Int32.toInt (((n_8.2 0 0 10 (show (10 : Nat) ∉ _ from by decide)).trans (((congrFun (congrFun (congrFun est_7 0) 0) 10).trans (congrFun (congrFun (gU_k (by decide)) 0) 10)).trans ((n_5.2 0 0 10 (show (10 : Nat) ∉ _ from by decide)).trans ((n_4.2 0 0 10 (show (10 : Nat) ∉ _ from by decide)).trans (((congrFun (congrFun (congrFun est_3 0) 0) 10).trans (congrFun (congrFun (gU_k (by decide)) 0) 10)).trans (n_1.2 0 0 10 (show (10 : Nat) ∉ _ from by decide))))))))).trans hN) e9_hw_8_0 hw_8_0_p1) ⟨(gz_cb (n := 0) hts gm_1147 gm_12 gm_1150 ⟨by decide +kernel, by decide +kernel, by decide +kernel⟩ ⟨Nat.le_of_ble_eq_true rfl, Nat.le_of_ble_eq_true rfl⟩), hts _ gm_1149, hts _ gs_41⟩ (gs_preV hK hov hE hI hM hm hS hA 0 0 (by decide) rfl rfl) rfl rfl hl.1 rfl (lv_room (Nat.le_of_ble_eq_true rfl)) dX10_guest_61 ⟨Nat.le_of_ble_eq_true rfl, Nat.le_of_ble_eq_true rfl⟩) hm hS hA (fun r_9 st_9 H locs hw_9 hM hS => ?_)
          obtain ⟨n_9, hw_9⟩ := hw_9
          have hB_st_9 : gBN bM kM [11, 12, 13, 14, 15, 16, 17, 18, 19, 59, 900, 1000, 1100, 1200] st st_9 := hB_st_8.call n_9 (by decide)
          rcases hw_9 with ⟨rfl, hw_9_0, hw_9_1, hw_9_2⟩ | ⟨rfl, hw_9_0⟩
          · skip
            obtain ⟨e9_hw_9_0, hw_9_0_p0, hw_9_0_p1⟩ := hw_9_0
            refine lv_if_ne (tgt := 69) hx hb dX10_guest_64 (by decide) (fun _ => ?_) (fun h9 => absurd h9 (by decide))
            refine lv_aload_n hx hb dX10_guest_69 rfl (lv_at hl 0 rfl) ?_
            refine gs_get (C := RX10) (T := TX10) (N := 59) hx hb hts inX10 hown hK hM 0 0 18 (by decide) rfl rfl (by decide) (hts _ gm_919) (fun _ h9 => h9) rfl dX10_guest_70 ?_
            refine lv_aload_n hx hb dX10_guest_73 rfl (lv_at hl 0 rfl) ?_
            refine gs_get (C := RX10) (T := TX10) (N := 59) hx hb hts inX10 hown hK hM 0 0 21 (by decide) rfl rfl (by decide) (hts _ gm_922) (fun _ h9 => h9) rfl dX10_guest_74 ?_
            refine lv_iload_n hx hb dX10_guest_77 rfl (lv_at hl 1 rfl) ?_
            refine gs_iald hx hb hK hM 9 0 (by decide) rfl (vp_in_iff.mpr ⟨by omega, by omega⟩) dX10_guest_78 ?_
            refine lv_topi (fun x_11 ex_11 => ?_)
            have qx_11 : x_11.toInt = (st_9 9 0 (x.toNatClampNeg)).toInt := congrArg Int32.toInt ex_11
            have bx_11 : (0 : Int) ≤ x_11.toInt ∧ x_11.toInt ≤ (5 : Int) := by rw [qx_11]; exact hB_st_9.1 9 0 (x.toNatClampNeg)
            have rx_11 : x_11.toInt = ((st_1 0 0 18) : Int32).toInt := by rw [ex_11]; exact congrArg Int32.toInt (((n_9.2 9 0 (x.toNatClampNeg) (show (900 : Nat) ∉ _ from by decide)).trans ((n_8.2 9 0 (x.toNatClampNeg) (show (900 : Nat) ∉ _ from by decide)).trans (((congrFun (congrFun (congrFun est_7 9) 0) (x.toNatClampNeg)).trans (congrFun (congrFun (gU_k (by decide)) 0) (x.toNatClampNeg))).trans ((n_5.2 9 0 (x.toNatClampNeg) (show (900 : Nat) ∉ _ from by decide)).trans ((n_4.2 9 0 (x.toNatClampNeg) (show (900 : Nat) ∉ _ from by decide)).trans ((congrFun (congrFun (congrFun est_3 9) 0) (x.toNatClampNeg)).trans (gU_same _ _ _ _ _))))))))
            refine lv_icmp_ne (tgt := 92) hx hb dX10_guest_79 (by decide) (fun c_12 => ?_) (fun c_12 => ?_)
            · have ic_12 := gz_ne (rfl : (st_9 0 0 18).toInt = (st_9 0 0 18).toInt) (rfl : x_11.toInt = x_11.toInt) c_12
              refine lv_aload_n hx hb dX10_guest_92 rfl (lv_at hl 0 rfl) ?_
              refine gs_get (C := RX10) (T := TX10) (N := 59) hx hb hts inX10 hown hK hM 0 0 23 (by decide) rfl rfl (by decide) (hts _ gm_924) (fun _ h9 => h9) rfl dX10_guest_93 ?_
              refine lv_iload_n hx hb dX10_guest_96 rfl (lv_at hl 1 rfl) ?_
              refine lv_aload_n hx hb dX10_guest_97 rfl (lv_at hl 0 rfl) ?_
              refine gs_get (C := RX10) (T := TX10) (N := 59) hx hb hts inX10 hown hK hM 0 0 18 (by decide) rfl rfl (by decide) (hts _ gm_919) (fun _ h9 => h9) rfl dX10_guest_98 ?_
              refine gs_iast hx hb hK hI hm hM hS 11 0 (by decide) (fun _ => rfl) (vp_in_iff.mpr ⟨by omega, by omega⟩) dX10_guest_101 (fun st_14 H locs est_14 hM hS => ?_)
              have hB_st_14 : gBN bM kM [11, 12, 13, 14, 15, 16, 17, 18, 19, 59, 900, 1000, 1100, 1200] st st_14 := by rw [est_14]; exact hB_st_9.up (show (1100 : Nat) ∈ _ from by decide) (gi_lo _) (gi_hi _)
              refine lv_aload_n hx hb dX10_guest_102 rfl (lv_at hl 0 rfl) ?_
              refine lv_iconst (v := 0) hx hb dX10_guest_103 (by decide) ?_
              refine lv_sipush (v := 1000) hx hb dX10_guest_104 (by decide) ?_
              refine gs_calli (va_runV (As := [.int 0, .int 1000]) (rest := []) ⟨hx, hb, hml, hown, hts⟩ (m_readNumber l G cy sK sV ad H.size st_14 hB_st_14.1 (0 : Int32) (1000 : Int32) 0 1000 (by decide) (by decide) F N (((congrFun (congrFun est_14 7) 0).trans ((congrFun (gU_k (by decide)) 0).trans ((funext (fun j9 => n_9.2 7 0 j9 (show (700 : Nat) ∉ _ from by decide))).trans ((funext (fun j9 => n_8.2 7 0 j9 (show (700 : Nat) ∉ _ from by decide))).trans ((congrFun (congrFun est_7 7) 0).trans ((congrFun (gU_k (by decide)) 0).trans ((funext (fun j9 => n_5.2 7 0 j9 (show (700 : Nat) ∉ _ from by decide))).trans ((funext (fun j9 => n_4.2 7 0 j9 (show (700 : Nat) ∉ _ from by decide))).trans ((congrFun (congrFun est_3 7) 0).trans ((congrFun (gU_k (by decide)) 0).trans ((funext (fun j9 => n_1.2 7 0 j9 (show (700 : Nat) ∉ _ from by decide))).trans rfl))))))))))).trans hF) ((congrArg Int32.toInt ((((congrFun (congrFun (congrFun est_14 0) 0) 10).trans (congrFun (congrFun (gU_k (by decide)) 0) 10)).trans ((n_9.2 0 0 10 (show (10 : Nat) ∉ _ from by decide)).trans ((n_8.2 0 0 10 (show (10 : Nat) ∉ _ from by decide)).trans (((congrFun (congrFun (congrFun est_7 0) 0) 10).trans (congrFun (congrFun (gU_k (by decide)) 0) 10)).trans ((n_5.2 0 0 10 (show (10 : Nat) ∉ _ from by decide)).trans ((n_4.2 0 0 10 (show (10 : Nat) ∉ _ from by decide)).trans (((congrFun (congrFun (congrFun est_3 0) 0) 10).trans (congrFun (congrFun (gU_k (by decide)) 0) 10)).trans (n_1.2 0 0 10 (show (10 : Nat) ∉ _ from by decide))))))))))).trans hN) e9_hw_9_0 (hw_9_0_p1.rows ((congrFun (congrFun (congrFun est_14 0) 0) 11).trans (congrFun (congrFun (gU_k (by decide)) 0) 11)) ((congrFun (congrFun (congrFun est_14 0) 0) 12).trans (congrFun (congrFun (gU_k (by decide)) 0) 12)) ((congrFun (congrFun (congrFun est_14 0) 0) 14).trans (congrFun (congrFun (gU_k (by decide)) 0) 14)) ((congrFun (congrFun (congrFun est_14 0) 0) 17).trans (congrFun (congrFun (gU_k (by decide)) 0) 17)) ((congrFun (congrFun (congrFun est_14 0) 0) 59).trans (congrFun (congrFun (gU_k (by decide)) 0) 59)))) ⟨(gz_cb (n := 2) hts gm_1139 gm_12 gm_1142 ⟨by decide +kernel, by decide +kernel, by decide +kernel⟩ ⟨Nat.le_of_ble_eq_true rfl, Nat.le_of_ble_eq_true rfl⟩), hts _ gm_1141, hts _ gs_39⟩ (gs_preV hK hov hE hI hM hm hS hA 0 0 (by decide) rfl rfl) rfl rfl hl.1 rfl (lv_room (Nat.le_of_ble_eq_true rfl)) dX10_guest_107 ⟨Nat.le_of_ble_eq_true rfl, Nat.le_of_ble_eq_true rfl⟩) hm hS hA (fun r_15 st_15 H locs hw_15 hM hS => ?_)
              obtain ⟨n_15, hw_15⟩ := hw_15
              have hB_st_15 : gBN bM kM [11, 12, 13, 14, 15, 16, 17, 18, 19, 59, 900, 1000, 1100, 1200] st st_15 := hB_st_14.call n_15 (by decide)
              rcases hw_15 with ⟨rfl, hw_15_0, hw_15_1, hw_15_2⟩ | ⟨rfl, hw_15_0⟩
              · skip
                obtain ⟨e9_hw_15_0, hw_15_0_p0, hw_15_0_p1⟩ := hw_15_0
                refine lv_if_ne (tgt := 115) hx hb dX10_guest_110 (by decide) (fun _ => ?_) (fun h9 => absurd h9 (by decide))
                refine lv_aload_n hx hb dX10_guest_115 rfl (lv_at hl 0 rfl) ?_
                refine gs_get (C := RX10) (T := TX10) (N := 59) hx hb hts inX10 hown hK hM 0 0 24 (by decide) rfl rfl (by decide) (hts _ gm_925) (fun _ h9 => h9) rfl dX10_guest_116 ?_
                refine lv_iload_n hx hb dX10_guest_119 rfl (lv_at hl 1 rfl) ?_
                refine lv_aload_n hx hb dX10_guest_120 rfl (lv_at hl 0 rfl) ?_
                refine gs_get (C := RX10) (T := TX10) (N := 59) hx hb hts inX10 hown hK hM 0 0 18 (by decide) rfl rfl (by decide) (hts _ gm_919) (fun _ h9 => h9) rfl dX10_guest_121 ?_
                refine gs_iast hx hb hK hI hm hM hS 12 0 (by decide) (fun _ => rfl) (vp_in_iff.mpr ⟨by omega, by omega⟩) dX10_guest_124 (fun st_17 H locs est_17 hM hS => ?_)
                have hB_st_17 : gBN bM kM [11, 12, 13, 14, 15, 16, 17, 18, 19, 59, 900, 1000, 1100, 1200] st st_17 := by rw [est_17]; exact hB_st_15.up (show (1200 : Nat) ∈ _ from by decide) (gi_lo _) (gi_hi _)
                refine lv_iconst (v := 1) hx hb dX10_guest_125 (by decide) ?_
                exact gs_iret hx hb hr hlocks hM hS (by decide) ⟨hB_st_17, (Or.inl ⟨rfl, ⟨(1, (st_1 0 0 18).toInt, (st_5 0 0 18).toInt, (st_9 0 0 18).toInt, (st_15 0 0 18).toInt, []), e9_hw_15_0, (by unfold pGuestB; exact (obM hw_1_0_p0 (obM hw_4_0_p0 (obM hw_5_0_p0 (obM hw_8_0_p0 (obM hw_9_0_p0 ((if_neg (by omega)).trans (obM hw_15_0_p0 rfl)))))))), (hw_15_0_p1.rows ((congrFun (congrFun (congrFun est_17 0) 0) 11).trans (congrFun (congrFun (gU_k (by decide)) 0) 11)) ((congrFun (congrFun (congrFun est_17 0) 0) 12).trans (congrFun (congrFun (gU_k (by decide)) 0) 12)) ((congrFun (congrFun (congrFun est_17 0) 0) 14).trans (congrFun (congrFun (gU_k (by decide)) 0) 14)) ((congrFun (congrFun (congrFun est_17 0) 0) 17).trans (congrFun (congrFun (gU_k (by decide)) 0) 17)) ((congrFun (congrFun (congrFun est_17 0) 0) 59).trans (congrFun (congrFun (gU_k (by decide)) 0) 59))), rfl, wf_mk ⟨by omega, by omega⟩ ⟨by omega, by omega⟩ ⟨by omega, by omega⟩ ⟨by omega, by omega⟩ ⟨by omega, by omega⟩, LMb_1 (by rw [show (st_17 9 0 (x.toNatClampNeg)).toInt = (st_1 0 0 18).toInt from (congrArg Int32.toInt ((((congrFun (congrFun (congrFun est_17 9) 0) (x.toNatClampNeg)).trans (congrFun (congrFun (gU_k (by decide)) 0) (x.toNatClampNeg))).trans ((n_15.2 9 0 (x.toNatClampNeg) (show (900 : Nat) ∉ _ from by decide)).trans (((congrFun (congrFun (congrFun est_14 9) 0) (x.toNatClampNeg)).trans (congrFun (congrFun (gU_k (by decide)) 0) (x.toNatClampNeg))).trans ((n_9.2 9 0 (x.toNatClampNeg) (show (900 : Nat) ∉ _ from by decide)).trans ((n_8.2 9 0 (x.toNatClampNeg) (show (900 : Nat) ∉ _ from by decide)).trans (((congrFun (congrFun (congrFun est_7 9) 0) (x.toNatClampNeg)).trans (congrFun (congrFun (gU_k (by decide)) 0) (x.toNatClampNeg))).trans ((n_5.2 9 0 (x.toNatClampNeg) (show (900 : Nat) ∉ _ from by decide)).trans ((n_4.2 9 0 (x.toNatClampNeg) (show (900 : Nat) ∉ _ from by decide)).trans ((congrFun (congrFun (congrFun est_3 9) 0) (x.toNatClampNeg)).trans (gU_same _ _ _ _ _))))))))))))]; all_goals first | rfl | omega) (by rw [show (st_17 10 0 (x.toNatClampNeg)).toInt = (st_5 0 0 18).toInt from (congrArg Int32.toInt ((((congrFun (congrFun (congrFun est_17 10) 0) (x.toNatClampNeg)).trans (congrFun (congrFun (gU_k (by decide)) 0) (x.toNatClampNeg))).trans ((n_15.2 10 0 (x.toNatClampNeg) (show (1000 : Nat) ∉ _ from by decide)).trans (((congrFun (congrFun (congrFun est_14 10) 0) (x.toNatClampNeg)).trans (congrFun (congrFun (gU_k (by decide)) 0) (x.toNatClampNeg))).trans ((n_9.2 10 0 (x.toNatClampNeg) (show (1000 : Nat) ∉ _ from by decide)).trans ((n_8.2 10 0 (x.toNatClampNeg) (show (1000 : Nat) ∉ _ from by decide)).trans ((congrFun (congrFun (congrFun est_7 10) 0) (x.toNatClampNeg)).trans (gU_same _ _ _ _ _)))))))))]; all_goals first | rfl | omega) (by rw [show (st_17 11 0 (x.toNatClampNeg)).toInt = (st_9 0 0 18).toInt from (congrArg Int32.toInt ((((congrFun (congrFun (congrFun est_17 11) 0) (x.toNatClampNeg)).trans (congrFun (congrFun (gU_k (by decide)) 0) (x.toNatClampNeg))).trans ((n_15.2 11 0 (x.toNatClampNeg) (show (1100 : Nat) ∉ _ from by decide)).trans ((congrFun (congrFun (congrFun est_14 11) 0) (x.toNatClampNeg)).trans (gU_same _ _ _ _ _))))))]; all_goals first | rfl | omega) (by rw [show (st_17 12 0 (x.toNatClampNeg)).toInt = (st_15 0 0 18).toInt from (congrArg Int32.toInt (((congrFun (congrFun (congrFun est_17 12) 0) (x.toNatClampNeg)).trans (gU_same _ _ _ _ _))))]; all_goals first | rfl | omega)⟩, (by rw [est_17]; exact mO.up (mO.trans (by rw [est_14]; exact mO.up (mO.trans (mO.trans (by rw [est_7]; exact mO.up (mO.trans (mO.trans (by rw [est_3]; exact mO.up (mO.trans mO.rf (mO.frame n_1.2 (by decide))) (by first | (intro _; rfl) | (intro h9; exact absurd h9 (by decide)) | (intro _; omega)) (by first | (intro h9; exact absurd h9 (by decide)) | (intro _; omega))) (mO.frame n_4.2 (by decide))) (mO.frame n_5.2 (by decide))) (by first | (intro _; rfl) | (intro h9; exact absurd h9 (by decide)) | (intro _; omega)) (by first | (intro h9; exact absurd h9 (by decide)) | (intro _; omega))) (mO.frame n_8.2 (by decide))) (mO.frame n_9.2 (by decide))) (by first | (intro _; rfl) | (intro h9; exact absurd h9 (by decide)) | (intro _; omega)) (by first | (intro h9; exact absurd h9 (by decide)) | (intro _; omega))) (mO.frame n_15.2 (by decide))) (by first | (intro _; rfl) | (intro h9; exact absurd h9 (by decide)) | (intro _; omega)) (by first | (intro h9; exact absurd h9 (by decide)) | (intro _; omega)))⟩)⟩ (by exact Nat.le_refl _) (by exact Nat.le_refl _) dX10_guest_126
              · skip
                refine lv_if_ne (tgt := 115) hx hb dX10_guest_110 (by decide) (fun h9 => absurd (by decide) h9) (fun _ => ?_)
                refine lv_iconst (v := 0) hx hb dX10_guest_113 (by decide) ?_
                exact gs_iret hx hb hr hlocks hM hS (by decide) ⟨hB_st_15, (Or.inr ⟨rfl, (by unfold pGuestB; exact (obM hw_1_0_p0 (obM hw_4_0_p0 (obM hw_5_0_p0 (obM hw_8_0_p0 (obM hw_9_0_p0 ((if_neg (by omega)).trans (obN hw_15_0)))))))), (mO.trans (by rw [est_14]; exact mO.up (mO.trans (mO.trans (by rw [est_7]; exact mO.up (mO.trans (mO.trans (by rw [est_3]; exact mO.up (mO.trans mO.rf (mO.frame n_1.2 (by decide))) (by first | (intro _; rfl) | (intro h9; exact absurd h9 (by decide)) | (intro _; omega)) (by first | (intro h9; exact absurd h9 (by decide)) | (intro _; omega))) (mO.frame n_4.2 (by decide))) (mO.frame n_5.2 (by decide))) (by first | (intro _; rfl) | (intro h9; exact absurd h9 (by decide)) | (intro _; omega)) (by first | (intro h9; exact absurd h9 (by decide)) | (intro _; omega))) (mO.frame n_8.2 (by decide))) (mO.frame n_9.2 (by decide))) (by first | (intro _; rfl) | (intro h9; exact absurd h9 (by decide)) | (intro _; omega)) (by first | (intro h9; exact absurd h9 (by decide)) | (intro _; omega))) (mO.frame n_15.2 (by decide)))⟩)⟩ (by exact Nat.le_refl _) (by exact Nat.le_refl _) dX10_guest_114
            · have ic_12 := gz_eqn (rfl : (st_9 0 0 18).toInt = (st_9 0 0 18).toInt) (rfl : x_11.toInt = x_11.toInt) c_12
              refine lv_aload_n hx hb dX10_guest_82 rfl (lv_at hl 0 rfl) ?_
              refine lv_iconst (v := 3) hx hb dX10_guest_83 (by decide) ?_
              refine lv_aload_n hx hb dX10_guest_84 rfl (lv_at hl 0 rfl) ?_
              refine gs_get (C := RX10) (T := TX10) (N := 59) hx hb hts inX10 hown hK hM 0 0 19 (by decide) rfl rfl (by decide) (hts _ gm_920) (fun _ h9 => h9) rfl dX10_guest_85 ?_
              refine gs_calli (va_runV (As := [.int 3, .int (st_9 0 0 19)]) (rest := []) ⟨hx, hb, hml, hown, hts⟩ (m_wrong l G cy sK sV ad H.size st_9 hB_st_9.1 (3 : Int32) (st_9 0 0 19) ) ⟨(gz_cb (n := 2) hts gm_1131 gm_12 gm_1134 ⟨by decide +kernel, by decide +kernel, by decide +kernel⟩ ⟨Nat.le_of_ble_eq_true rfl, Nat.le_of_ble_eq_true rfl⟩), hts _ gm_1133, hts _ gs_37⟩ (gs_preV hK hov hE hI hM hm hS hA 0 0 (by decide) rfl rfl) rfl rfl hl.1 rfl (lv_room (Nat.le_of_ble_eq_true rfl)) dX10_guest_88 ⟨Nat.le_of_ble_eq_true rfl, Nat.le_of_ble_eq_true rfl⟩) hm hS hA (fun r_19 st_19 H locs hw_19 hM hS => ?_)
              obtain ⟨n_19, hw_19⟩ := hw_19
              have hB_st_19 : gBN bM kM [11, 12, 13, 14, 15, 16, 17, 18, 19, 59, 900, 1000, 1100, 1200] st st_19 := hB_st_9.call n_19 (by decide)
              obtain rfl := hw_19
              exact gs_iret hx hb hr hlocks hM hS (by decide) ⟨hB_st_19, (Or.inr ⟨rfl, (by unfold pGuestB; exact (obM hw_1_0_p0 (obM hw_4_0_p0 (obM hw_5_0_p0 (obM hw_8_0_p0 (obM hw_9_0_p0 (if_pos (by omega)))))))), (mO.trans (mO.trans (mO.trans (by rw [est_7]; exact mO.up (mO.trans (mO.trans (by rw [est_3]; exact mO.up (mO.trans mO.rf (mO.frame n_1.2 (by decide))) (by first | (intro _; rfl) | (intro h9; exact absurd h9 (by decide)) | (intro _; omega)) (by first | (intro h9; exact absurd h9 (by decide)) | (intro _; omega))) (mO.frame n_4.2 (by decide))) (mO.frame n_5.2 (by decide))) (by first | (intro _; rfl) | (intro h9; exact absurd h9 (by decide)) | (intro _; omega)) (by first | (intro h9; exact absurd h9 (by decide)) | (intro _; omega))) (mO.frame n_8.2 (by decide))) (mO.frame n_9.2 (by decide))) (mO.frame n_19.2 (by decide)))⟩)⟩ (by exact Nat.le_refl _) (by exact Nat.le_refl _) dX10_guest_91
          · skip
            refine lv_if_ne (tgt := 69) hx hb dX10_guest_64 (by decide) (fun h9 => absurd (by decide) h9) (fun _ => ?_)
            refine lv_iconst (v := 0) hx hb dX10_guest_67 (by decide) ?_
            exact gs_iret hx hb hr hlocks hM hS (by decide) ⟨hB_st_9, (Or.inr ⟨rfl, (by unfold pGuestB; exact (obM hw_1_0_p0 (obM hw_4_0_p0 (obM hw_5_0_p0 (obM hw_8_0_p0 (obN hw_9_0)))))), (mO.trans (mO.trans (by rw [est_7]; exact mO.up (mO.trans (mO.trans (by rw [est_3]; exact mO.up (mO.trans mO.rf (mO.frame n_1.2 (by decide))) (by first | (intro _; rfl) | (intro h9; exact absurd h9 (by decide)) | (intro _; omega)) (by first | (intro h9; exact absurd h9 (by decide)) | (intro _; omega))) (mO.frame n_4.2 (by decide))) (mO.frame n_5.2 (by decide))) (by first | (intro _; rfl) | (intro h9; exact absurd h9 (by decide)) | (intro _; omega)) (by first | (intro h9; exact absurd h9 (by decide)) | (intro _; omega))) (mO.frame n_8.2 (by decide))) (mO.frame n_9.2 (by decide)))⟩)⟩ (by exact Nat.le_refl _) (by exact Nat.le_refl _) dX10_guest_68
        · skip
          refine lv_if_eq (tgt := 67) hx hb dX10_guest_57 (by decide) (fun _ => ?_) (fun h9 => absurd (by decide) h9)
          refine lv_iconst (v := 0) hx hb dX10_guest_67 (by decide) ?_
          exact gs_iret hx hb hr hlocks hM hS (by decide) ⟨hB_st_8, (Or.inr ⟨rfl, (by unfold pGuestB; exact (obM hw_1_0_p0 (obM hw_4_0_p0 (obM hw_5_0_p0 (obN hw_8_0))))), (mO.trans (by rw [est_7]; exact mO.up (mO.trans (mO.trans (by rw [est_3]; exact mO.up (mO.trans mO.rf (mO.frame n_1.2 (by decide))) (by first | (intro _; rfl) | (intro h9; exact absurd h9 (by decide)) | (intro _; omega)) (by first | (intro h9; exact absurd h9 (by decide)) | (intro _; omega))) (mO.frame n_4.2 (by decide))) (mO.frame n_5.2 (by decide))) (by first | (intro _; rfl) | (intro h9; exact absurd h9 (by decide)) | (intro _; omega)) (by first | (intro h9; exact absurd h9 (by decide)) | (intro _; omega))) (mO.frame n_8.2 (by decide)))⟩)⟩ (by exact Nat.le_refl _) (by exact Nat.le_refl _) dX10_guest_68
      · skip
        refine lv_if_ne (tgt := 40) hx hb dX10_guest_35 (by decide) (fun h9 => absurd (by decide) h9) (fun _ => ?_)
        refine lv_iconst (v := 0) hx hb dX10_guest_38 (by decide) ?_
        exact gs_iret hx hb hr hlocks hM hS (by decide) ⟨hB_st_5, (Or.inr ⟨rfl, (by unfold pGuestB; exact (obM hw_1_0_p0 (obM hw_4_0_p0 (obN hw_5_0)))), (mO.trans (mO.trans (by rw [est_3]; exact mO.up (mO.trans mO.rf (mO.frame n_1.2 (by decide))) (by first | (intro _; rfl) | (intro h9; exact absurd h9 (by decide)) | (intro _; omega)) (by first | (intro h9; exact absurd h9 (by decide)) | (intro _; omega))) (mO.frame n_4.2 (by decide))) (mO.frame n_5.2 (by decide)))⟩)⟩ (by exact Nat.le_refl _) (by exact Nat.le_refl _) dX10_guest_39
    · skip
      refine lv_if_eq (tgt := 38) hx hb dX10_guest_26 (by decide) (fun _ => ?_) (fun h9 => absurd (by decide) h9)
      refine lv_iconst (v := 0) hx hb dX10_guest_38 (by decide) ?_
      exact gs_iret hx hb hr hlocks hM hS (by decide) ⟨hB_st_4, (Or.inr ⟨rfl, (by unfold pGuestB; exact (obM hw_1_0_p0 (obN hw_4_0))), (mO.trans (by rw [est_3]; exact mO.up (mO.trans mO.rf (mO.frame n_1.2 (by decide))) (by first | (intro _; rfl) | (intro h9; exact absurd h9 (by decide)) | (intro _; omega)) (by first | (intro h9; exact absurd h9 (by decide)) | (intro _; omega))) (mO.frame n_4.2 (by decide)))⟩)⟩ (by exact Nat.le_refl _) (by exact Nat.le_refl _) dX10_guest_39
  · skip
    refine lv_if_ne (tgt := 9) hx hb dX10_guest_4 (by decide) (fun h9 => absurd (by decide) h9) (fun _ => ?_)
    refine lv_iconst (v := 0) hx hb dX10_guest_7 (by decide) ?_
    exact gs_iret hx hb hr hlocks hM hS (by decide) ⟨hB_st_1, (Or.inr ⟨rfl, (by unfold pGuestB; exact (obN hw_1_0)), (mO.trans mO.rf (mO.frame n_1.2 (by decide)))⟩)⟩ (by exact Nat.le_refl _) (by exact Nat.le_refl _) dX10_guest_8

set_option maxHeartbeats 4000000 in
set_option maxRecDepth 100000 in
/-- WellCourtModel.wed -/
theorem m_wed (l : Launch) (G : va_G) (cy : Nat → ClassId) (sK sV : Nat → Nat) (ad : Nat → Nat → Nat) (sz : Nat) (st : gS) (hB : gBd bM st) (x : Int32) (Xx : Int) (kx : x.toInt = Xx) (hx0 : 0 ≤ Xx) (hx1 : Xx ≤ 43) (F : Nat → Int32) (N : Int) (hF : st 7 0 = F) (hN : (st 0 0 10).toInt = N) (P : Int) (hC : mCur F N P st) : gsMi l yX10_wed cX10_wed 2 (some .boolean) ({ frames := 3, cells := 0, slots := 0, locals := 64 } : Room) G cy sK sV (shM cy ad) cnM ad sz [.ref (ad 0 0), .int x] st (fun (r : Int32) (u : gS) => gBN bM kM [11, 12, 13, 14, 15, 16, 17, 18, 19, 59, 900, 1000] st u ∧ ((r = 1 ∧ (∃ (r9 : Rl) (e9 : Int), pWedB F N (mLex F N) P = some (r9, e9) ∧ mCur F N e9 u ∧ r9.1 = 2 ∧ wfR r9 ∧ LMb r9 u x.toNatClampNeg) ∧ (mO x.toNatClampNeg st u)) ∨ (r = 0 ∧ (pWedB F N (mLex F N) P = none) ∧ (mO x.toNatClampNeg st u)))) := by
  refine gs_start (fun A => gsQi G (shM cy ad) cnM ad _ A) (by decide) (Nat.le_of_ble_eq_true rfl) ?_
  intro p e s m below meth c A ls H hx hb hr hml hlocks hown hts hK hov hE hI hM hm hS hA hl
  have hl : lv_has ls 2 [(0, .ref (ad 0 0)), (1, .int x)] := hl
  have hB_st : gBN bM kM [11, 12, 13, 14, 15, 16, 17, 18, 19, 59, 900, 1000] st st := gBN.rf hB
  refine lv_aload_n hx hb dX10_wed_0 rfl (lv_at hl 0 rfl) ?_
  refine gs_calli (va_runV (As := []) (rest := []) ⟨hx, hb, hml, hown, hts⟩ (m_readClan l G cy sK sV ad H.size st hB_st.1  F N hF hN P hC) ⟨(gz_cb (n := 0) hts gm_1147 gm_12 gm_1150 ⟨by decide +kernel, by decide +kernel, by decide +kernel⟩ ⟨Nat.le_of_ble_eq_true rfl, Nat.le_of_ble_eq_true rfl⟩), hts _ gm_1149, hts _ gs_41⟩ (gs_preV hK hov hE hI hM hm hS hA 0 0 (by decide) rfl rfl) rfl rfl hl.1 rfl (lv_room (Nat.le_of_ble_eq_true rfl)) dX10_wed_1 ⟨Nat.le_of_ble_eq_true rfl, Nat.le_of_ble_eq_true rfl⟩) hm hS hA (fun r_1 st_1 H locs hw_1 hM hS => ?_)
  obtain ⟨n_1, hw_1⟩ := hw_1
  have hB_st_1 : gBN bM kM [11, 12, 13, 14, 15, 16, 17, 18, 19, 59, 900, 1000] st st_1 := hB_st.call n_1 (by decide)
  rcases hw_1 with ⟨rfl, hw_1_0, hw_1_1, hw_1_2⟩ | ⟨rfl, hw_1_0⟩
  · skip
    obtain ⟨e9_hw_1_0, hw_1_0_p0, hw_1_0_p1⟩ := hw_1_0
    refine lv_if_ne (tgt := 9) hx hb dX10_wed_4 (by decide) (fun _ => ?_) (fun h9 => absurd h9 (by decide))
    refine lv_aload_n hx hb dX10_wed_9 rfl (lv_at hl 0 rfl) ?_
    refine gs_get (C := RX10) (T := TX10) (N := 59) hx hb hts inX10 hown hK hM 0 0 21 (by decide) rfl rfl (by decide) (hts _ gm_922) (fun _ h9 => h9) rfl dX10_wed_10 ?_
    refine lv_iload_n hx hb dX10_wed_13 rfl (lv_at hl 1 rfl) ?_
    refine lv_aload_n hx hb dX10_wed_14 rfl (lv_at hl 0 rfl) ?_
    refine gs_get (C := RX10) (T := TX10) (N := 59) hx hb hts inX10 hown hK hM 0 0 18 (by decide) rfl rfl (by decide) (hts _ gm_919) (fun _ h9 => h9) rfl dX10_wed_15 ?_
    refine gs_iast hx hb hK hI hm hM hS 9 0 (by decide) (fun _ => rfl) (vp_in_iff.mpr ⟨by omega, by omega⟩) dX10_wed_18 (fun st_3 H locs est_3 hM hS => ?_)
    have hB_st_3 : gBN bM kM [11, 12, 13, 14, 15, 16, 17, 18, 19, 59, 900, 1000] st st_3 := by rw [est_3]; exact hB_st_1.up (show (900 : Nat) ∈ _ from by decide) (show (0 : Int) ≤ (st_1 0 0 18).toInt from by omega) (show (st_1 0 0 18).toInt ≤ (5 : Int) from by omega)
    refine lv_aload_n hx hb dX10_wed_19 rfl (lv_at hl 0 rfl) ?_
    refine gs_calli (va_runV (As := []) (rest := []) ⟨hx, hb, hml, hown, hts⟩ (m_readClan l G cy sK sV ad H.size st_3 hB_st_3.1  F N (((congrFun (congrFun est_3 7) 0).trans ((congrFun (gU_k (by decide)) 0).trans ((funext (fun j9 => n_1.2 7 0 j9 (show (700 : Nat) ∉ _ from by decide))).trans rfl))).trans hF) ((congrArg Int32.toInt ((((congrFun (congrFun (congrFun est_3 0) 0) 10).trans (congrFun (congrFun (gU_k (by decide)) 0) 10)).trans (n_1.2 0 0 10 (show (10 : Nat) ∉ _ from by decide))))).trans hN) e9_hw_1_0 (hw_1_0_p1.rows ((congrFun (congrFun (congrFun est_3 0) 0) 11).trans (congrFun (congrFun (gU_k (by decide)) 0) 11)) ((congrFun (congrFun (congrFun est_3 0) 0) 12).trans (congrFun (congrFun (gU_k (by decide)) 0) 12)) ((congrFun (congrFun (congrFun est_3 0) 0) 14).trans (congrFun (congrFun (gU_k (by decide)) 0) 14)) ((congrFun (congrFun (congrFun est_3 0) 0) 17).trans (congrFun (congrFun (gU_k (by decide)) 0) 17)) ((congrFun (congrFun (congrFun est_3 0) 0) 59).trans (congrFun (congrFun (gU_k (by decide)) 0) 59)))) ⟨(gz_cb (n := 0) hts gm_1147 gm_12 gm_1150 ⟨by decide +kernel, by decide +kernel, by decide +kernel⟩ ⟨Nat.le_of_ble_eq_true rfl, Nat.le_of_ble_eq_true rfl⟩), hts _ gm_1149, hts _ gs_41⟩ (gs_preV hK hov hE hI hM hm hS hA 0 0 (by decide) rfl rfl) rfl rfl hl.1 rfl (lv_room (Nat.le_of_ble_eq_true rfl)) dX10_wed_20 ⟨Nat.le_of_ble_eq_true rfl, Nat.le_of_ble_eq_true rfl⟩) hm hS hA (fun r_4 st_4 H locs hw_4 hM hS => ?_)
    obtain ⟨n_4, hw_4⟩ := hw_4
    have hB_st_4 : gBN bM kM [11, 12, 13, 14, 15, 16, 17, 18, 19, 59, 900, 1000] st st_4 := hB_st_3.call n_4 (by decide)
    rcases hw_4 with ⟨rfl, hw_4_0, hw_4_1, hw_4_2⟩ | ⟨rfl, hw_4_0⟩
    · skip
      obtain ⟨e9_hw_4_0, hw_4_0_p0, hw_4_0_p1⟩ := hw_4_0
      refine lv_if_ne (tgt := 28) hx hb dX10_wed_23 (by decide) (fun _ => ?_) (fun h9 => absurd h9 (by decide))
      refine lv_aload_n hx hb dX10_wed_28 rfl (lv_at hl 0 rfl) ?_
      refine gs_get (C := RX10) (T := TX10) (N := 59) hx hb hts inX10 hown hK hM 0 0 22 (by decide) rfl rfl (by decide) (hts _ gm_923) (fun _ h9 => h9) rfl dX10_wed_29 ?_
      refine lv_iload_n hx hb dX10_wed_32 rfl (lv_at hl 1 rfl) ?_
      refine lv_aload_n hx hb dX10_wed_33 rfl (lv_at hl 0 rfl) ?_
      refine gs_get (C := RX10) (T := TX10) (N := 59) hx hb hts inX10 hown hK hM 0 0 18 (by decide) rfl rfl (by decide) (hts _ gm_919) (fun _ h9 => h9) rfl dX10_wed_34 ?_
      refine gs_iast hx hb hK hI hm hM hS 10 0 (by decide) (fun _ => rfl) (vp_in_iff.mpr ⟨by omega, by omega⟩) dX10_wed_37 (fun st_6 H locs est_6 hM hS => ?_)
      have hB_st_6 : gBN bM kM [11, 12, 13, 14, 15, 16, 17, 18, 19, 59, 900, 1000] st st_6 := by rw [est_6]; exact hB_st_4.up (show (1000 : Nat) ∈ _ from by decide) (gi_lo _) (gi_hi _)
      refine lv_aload_n hx hb dX10_wed_38 rfl (lv_at hl 0 rfl) ?_
      refine gs_get (C := RX10) (T := TX10) (N := 59) hx hb hts inX10 hown hK hM 0 0 18 (by decide) rfl rfl (by decide) (hts _ gm_919) (fun _ h9 => h9) rfl dX10_wed_39 ?_
      refine lv_topi (fun x_7 ex_7 => ?_)
      have ex_7 : (st_4 0 0 18) = x_7 := Eq.symm (ex_7.trans ((congrFun (congrFun (congrFun est_6 0) 0) 18).trans (congrFun (congrFun (gU_k (by decide)) 0) 18)))
      subst ex_7
      refine lv_aload_n hx hb dX10_wed_42 rfl (lv_at hl 0 rfl) ?_
      refine gs_get (C := RX10) (T := TX10) (N := 59) hx hb hts inX10 hown hK hM 0 0 21 (by decide) rfl rfl (by decide) (hts _ gm_922) (fun _ h9 => h9) rfl dX10_wed_43 ?_
      refine lv_iload_n hx hb dX10_wed_46 rfl (lv_at hl 1 rfl) ?_
      refine gs_iald hx hb hK hM 9 0 (by decide) rfl (vp_in_iff.mpr ⟨by omega, by omega⟩) dX10_wed_47 ?_
      refine lv_topi (fun x_9 ex_9 => ?_)
      have qx_9 : x_9.toInt = (st_6 9 0 (x.toNatClampNeg)).toInt := congrArg Int32.toInt ex_9
      have bx_9 : (0 : Int) ≤ x_9.toInt ∧ x_9.toInt ≤ (5 : Int) := by rw [qx_9]; exact hB_st_6.1 9 0 (x.toNatClampNeg)
      have rx_9 : x_9.toInt = ((st_1 0 0 18) : Int32).toInt := by rw [ex_9]; exact congrArg Int32.toInt ((((congrFun (congrFun (congrFun est_6 9) 0) (x.toNatClampNeg)).trans (congrFun (congrFun (gU_k (by decide)) 0) (x.toNatClampNeg))).trans ((n_4.2 9 0 (x.toNatClampNeg) (show (900 : Nat) ∉ _ from by decide)).trans ((congrFun (congrFun (congrFun est_3 9) 0) (x.toNatClampNeg)).trans (gU_same _ _ _ _ _)))))
      refine lv_icmp_ne (tgt := 63) hx hb dX10_wed_48 (by decide) (fun c_10 => ?_) (fun c_10 => ?_)
      · have ic_10 := gz_ne (rfl : (st_4 0 0 18).toInt = (st_4 0 0 18).toInt) (rfl : x_9.toInt = x_9.toInt) c_10
        refine lv_iconst (v := 1) hx hb dX10_wed_63 (by decide) ?_
        refine lv_goto (tgt := 68) hx hb dX10_wed_64 (by decide) ?_
        exact gs_iret hx hb hr hlocks hM hS (by decide) ⟨hB_st_6, (Or.inl ⟨rfl, ⟨(2, (st_1 0 0 18).toInt, (st_4 0 0 18).toInt, 0, 0, []), e9_hw_4_0, (by unfold pWedB; exact (obM hw_1_0_p0 (obM hw_4_0_p0 ((if_neg (by omega)).trans rfl)))), (hw_4_0_p1.rows ((congrFun (congrFun (congrFun est_6 0) 0) 11).trans (congrFun (congrFun (gU_k (by decide)) 0) 11)) ((congrFun (congrFun (congrFun est_6 0) 0) 12).trans (congrFun (congrFun (gU_k (by decide)) 0) 12)) ((congrFun (congrFun (congrFun est_6 0) 0) 14).trans (congrFun (congrFun (gU_k (by decide)) 0) 14)) ((congrFun (congrFun (congrFun est_6 0) 0) 17).trans (congrFun (congrFun (gU_k (by decide)) 0) 17)) ((congrFun (congrFun (congrFun est_6 0) 0) 59).trans (congrFun (congrFun (gU_k (by decide)) 0) 59))), rfl, wf_mk ⟨by omega, by omega⟩ ⟨by omega, by omega⟩ ⟨by omega, by omega⟩ ⟨by omega, by omega⟩ ⟨by omega, by omega⟩, LMb_2 (by rw [show (st_6 9 0 (x.toNatClampNeg)).toInt = (st_1 0 0 18).toInt from (congrArg Int32.toInt ((((congrFun (congrFun (congrFun est_6 9) 0) (x.toNatClampNeg)).trans (congrFun (congrFun (gU_k (by decide)) 0) (x.toNatClampNeg))).trans ((n_4.2 9 0 (x.toNatClampNeg) (show (900 : Nat) ∉ _ from by decide)).trans ((congrFun (congrFun (congrFun est_3 9) 0) (x.toNatClampNeg)).trans (gU_same _ _ _ _ _))))))]; all_goals first | rfl | omega) (by rw [show (st_6 10 0 (x.toNatClampNeg)).toInt = (st_4 0 0 18).toInt from (congrArg Int32.toInt (((congrFun (congrFun (congrFun est_6 10) 0) (x.toNatClampNeg)).trans (gU_same _ _ _ _ _))))]; all_goals first | rfl | omega)⟩, (by rw [est_6]; exact mO.up (mO.trans (by rw [est_3]; exact mO.up (mO.trans mO.rf (mO.frame n_1.2 (by decide))) (by first | (intro _; rfl) | (intro h9; exact absurd h9 (by decide)) | (intro _; omega)) (by first | (intro h9; exact absurd h9 (by decide)) | (intro _; omega))) (mO.frame n_4.2 (by decide))) (by first | (intro _; rfl) | (intro h9; exact absurd h9 (by decide)) | (intro _; omega)) (by first | (intro h9; exact absurd h9 (by decide)) | (intro _; omega)))⟩)⟩ (by exact Nat.le_refl _) (by exact Nat.le_refl _) dX10_wed_68
      · have ic_10 := gz_eqn (rfl : (st_4 0 0 18).toInt = (st_4 0 0 18).toInt) (rfl : x_9.toInt = x_9.toInt) c_10
        refine lv_aload_n hx hb dX10_wed_51 rfl (lv_at hl 0 rfl) ?_
        refine lv_iconst (v := 3) hx hb dX10_wed_52 (by decide) ?_
        refine lv_aload_n hx hb dX10_wed_53 rfl (lv_at hl 0 rfl) ?_
        refine gs_get (C := RX10) (T := TX10) (N := 59) hx hb hts inX10 hown hK hM 0 0 19 (by decide) rfl rfl (by decide) (hts _ gm_920) (fun _ h9 => h9) rfl dX10_wed_54 ?_
        refine lv_topi (fun x_11 ex_11 => ?_)
        have ex_11 : (st_4 0 0 19) = x_11 := Eq.symm (ex_11.trans ((congrFun (congrFun (congrFun est_6 0) 0) 19).trans (congrFun (congrFun (gU_k (by decide)) 0) 19)))
        subst ex_11
        refine gs_calli (va_runV (As := [.int 3, .int (st_4 0 0 19)]) (rest := []) ⟨hx, hb, hml, hown, hts⟩ (m_wrong l G cy sK sV ad H.size st_6 hB_st_6.1 (3 : Int32) (st_4 0 0 19) ) ⟨(gz_cb (n := 2) hts gm_1131 gm_12 gm_1134 ⟨by decide +kernel, by decide +kernel, by decide +kernel⟩ ⟨Nat.le_of_ble_eq_true rfl, Nat.le_of_ble_eq_true rfl⟩), hts _ gm_1133, hts _ gs_37⟩ (gs_preV hK hov hE hI hM hm hS hA 0 0 (by decide) rfl rfl) rfl rfl hl.1 rfl (lv_room (Nat.le_of_ble_eq_true rfl)) dX10_wed_57 ⟨Nat.le_of_ble_eq_true rfl, Nat.le_of_ble_eq_true rfl⟩) hm hS hA (fun r_13 st_13 H locs hw_13 hM hS => ?_)
        obtain ⟨n_13, hw_13⟩ := hw_13
        have hB_st_13 : gBN bM kM [11, 12, 13, 14, 15, 16, 17, 18, 19, 59, 900, 1000] st st_13 := hB_st_6.call n_13 (by decide)
        obtain rfl := hw_13
        refine lv_if_eq (tgt := 67) hx hb dX10_wed_60 (by decide) (fun _ => ?_) (fun h9 => absurd (by decide) h9)
        refine lv_iconst (v := 0) hx hb dX10_wed_67 (by decide) ?_
        exact gs_iret hx hb hr hlocks hM hS (by decide) ⟨hB_st_13, (Or.inr ⟨rfl, (by unfold pWedB; exact (obM hw_1_0_p0 (obM hw_4_0_p0 (if_pos (by omega))))), (mO.trans (by rw [est_6]; exact mO.up (mO.trans (by rw [est_3]; exact mO.up (mO.trans mO.rf (mO.frame n_1.2 (by decide))) (by first | (intro _; rfl) | (intro h9; exact absurd h9 (by decide)) | (intro _; omega)) (by first | (intro h9; exact absurd h9 (by decide)) | (intro _; omega))) (mO.frame n_4.2 (by decide))) (by first | (intro _; rfl) | (intro h9; exact absurd h9 (by decide)) | (intro _; omega)) (by first | (intro h9; exact absurd h9 (by decide)) | (intro _; omega))) (mO.frame n_13.2 (by decide)))⟩)⟩ (by exact Nat.le_refl _) (by exact Nat.le_refl _) dX10_wed_68
    · skip
      refine lv_if_ne (tgt := 28) hx hb dX10_wed_23 (by decide) (fun h9 => absurd (by decide) h9) (fun _ => ?_)
      refine lv_iconst (v := 0) hx hb dX10_wed_26 (by decide) ?_
      exact gs_iret hx hb hr hlocks hM hS (by decide) ⟨hB_st_4, (Or.inr ⟨rfl, (by unfold pWedB; exact (obM hw_1_0_p0 (obN hw_4_0))), (mO.trans (by rw [est_3]; exact mO.up (mO.trans mO.rf (mO.frame n_1.2 (by decide))) (by first | (intro _; rfl) | (intro h9; exact absurd h9 (by decide)) | (intro _; omega)) (by first | (intro h9; exact absurd h9 (by decide)) | (intro _; omega))) (mO.frame n_4.2 (by decide)))⟩)⟩ (by exact Nat.le_refl _) (by exact Nat.le_refl _) dX10_wed_27
  · skip
    refine lv_if_ne (tgt := 9) hx hb dX10_wed_4 (by decide) (fun h9 => absurd (by decide) h9) (fun _ => ?_)
    refine lv_iconst (v := 0) hx hb dX10_wed_7 (by decide) ?_
    exact gs_iret hx hb hr hlocks hM hS (by decide) ⟨hB_st_1, (Or.inr ⟨rfl, (by unfold pWedB; exact (obN hw_1_0)), (mO.trans mO.rf (mO.frame n_1.2 (by decide)))⟩)⟩ (by exact Nat.le_refl _) (by exact Nat.le_refl _) dX10_wed_8

set_option maxHeartbeats 4000000 in
set_option maxRecDepth 100000 in
/-- WellCourtModel.drought -/
theorem m_drought (l : Launch) (G : va_G) (cy : Nat → ClassId) (sK sV : Nat → Nat) (ad : Nat → Nat → Nat) (sz : Nat) (st : gS) (hB : gBd bM st) (x : Int32) (Xx : Int) (kx : x.toInt = Xx) (hx0 : 0 ≤ Xx) (hx1 : Xx ≤ 43) (F : Nat → Int32) (N : Int) (hF : st 7 0 = F) (hN : (st 0 0 10).toInt = N) (P : Int) (hC : mCur F N P st) : gsMi l yX10_drought cX10_drought 2 (some .boolean) ({ frames := 3, cells := 0, slots := 0, locals := 66 } : Room) G cy sK sV (shM cy ad) cnM ad sz [.ref (ad 0 0), .int x] st (fun (r : Int32) (u : gS) => gBN bM kM [11, 12, 13, 14, 15, 16, 17, 18, 19, 59, 900, 1000, 1200] st u ∧ ((r = 1 ∧ (∃ (r9 : Rl) (e9 : Int), pDroughtB F N (mLex F N) P = some (r9, e9) ∧ mCur F N e9 u ∧ r9.1 = 3 ∧ wfR r9 ∧ LMb r9 u x.toNatClampNeg) ∧ (mO x.toNatClampNeg st u)) ∨ (r = 0 ∧ (pDroughtB F N (mLex F N) P = none) ∧ (mO x.toNatClampNeg st u)))) := by
  refine gs_start (fun A => gsQi G (shM cy ad) cnM ad _ A) (by decide) (Nat.le_of_ble_eq_true rfl) ?_
  intro p e s m below meth c A ls H hx hb hr hml hlocks hown hts hK hov hE hI hM hm hS hA hl
  have hl : lv_has ls 2 [(0, .ref (ad 0 0)), (1, .int x)] := hl
  have hB_st : gBN bM kM [11, 12, 13, 14, 15, 16, 17, 18, 19, 59, 900, 1000, 1200] st st := gBN.rf hB
  refine lv_aload_n hx hb dX10_drought_0 rfl (lv_at hl 0 rfl) ?_
  refine lv_iconst (v := 0) hx hb dX10_drought_1 (by decide) ?_
  refine lv_iconst (v := 5) hx hb dX10_drought_2 (by decide) ?_
  refine gs_calli (va_runV (As := [.int 0, .int 5]) (rest := []) ⟨hx, hb, hml, hown, hts⟩ (m_readNumber l G cy sK sV ad H.size st hB_st.1 (0 : Int32) (5 : Int32) 0 5 (by decide) (by decide) F N hF hN P hC) ⟨(gz_cb (n := 2) hts gm_1139 gm_12 gm_1142 ⟨by decide +kernel, by decide +kernel, by decide +kernel⟩ ⟨Nat.le_of_ble_eq_true rfl, Nat.le_of_ble_eq_true rfl⟩), hts _ gm_1141, hts _ gs_39⟩ (gs_preV hK hov hE hI hM hm hS hA 0 0 (by decide) rfl rfl) rfl rfl hl.1 rfl (lv_room (Nat.le_of_ble_eq_true rfl)) dX10_drought_3 ⟨Nat.le_of_ble_eq_true rfl, Nat.le_of_ble_eq_true rfl⟩) hm hS hA (fun r_1 st_1 H locs hw_1 hM hS => ?_)
  obtain ⟨n_1, hw_1⟩ := hw_1
  have hB_st_1 : gBN bM kM [11, 12, 13, 14, 15, 16, 17, 18, 19, 59, 900, 1000, 1200] st st_1 := hB_st.call n_1 (by decide)
  rcases hw_1 with ⟨rfl, hw_1_0, hw_1_1, hw_1_2⟩ | ⟨rfl, hw_1_0⟩
  · skip
    obtain ⟨e9_hw_1_0, hw_1_0_p0, hw_1_0_p1⟩ := hw_1_0
    refine lv_if_ne (tgt := 11) hx hb dX10_drought_6 (by decide) (fun _ => ?_) (fun h9 => absurd h9 (by decide))
    refine lv_aload_n hx hb dX10_drought_11 rfl (lv_at hl 0 rfl) ?_
    refine gs_get (C := RX10) (T := TX10) (N := 59) hx hb hts inX10 hown hK hM 0 0 21 (by decide) rfl rfl (by decide) (hts _ gm_922) (fun _ h9 => h9) rfl dX10_drought_12 ?_
    refine lv_iload_n hx hb dX10_drought_15 rfl (lv_at hl 1 rfl) ?_
    refine lv_aload_n hx hb dX10_drought_16 rfl (lv_at hl 0 rfl) ?_
    refine gs_get (C := RX10) (T := TX10) (N := 59) hx hb hts inX10 hown hK hM 0 0 18 (by decide) rfl rfl (by decide) (hts _ gm_919) (fun _ h9 => h9) rfl dX10_drought_17 ?_
    refine gs_iast hx hb hK hI hm hM hS 9 0 (by decide) (fun _ => rfl) (vp_in_iff.mpr ⟨by omega, by omega⟩) dX10_drought_20 (fun st_3 H locs est_3 hM hS => ?_)
    have hB_st_3 : gBN bM kM [11, 12, 13, 14, 15, 16, 17, 18, 19, 59, 900, 1000, 1200] st st_3 := by rw [est_3]; exact hB_st_1.up (show (900 : Nat) ∈ _ from by decide) (show (0 : Int) ≤ (st_1 0 0 18).toInt from by omega) (show (st_1 0 0 18).toInt ≤ (5 : Int) from by omega)
    refine lv_aload_n hx hb dX10_drought_21 rfl (lv_at hl 0 rfl) ?_
    refine lv_ldc2 (v := 422608400247) hx hb hown (hts _ gm_1171) dX10_drought_22 ?_
    refine gs_calli (va_runV (As := [.long (422608400247 : Int64)]) (rest := []) ⟨hx, hb, hml, hown, hts⟩ (m_mustWord l G cy sK sV ad H.size st_3 hB_st_3.1 (422608400247 : Int64) F N (((congrFun (congrFun est_3 7) 0).trans ((congrFun (gU_k (by decide)) 0).trans ((funext (fun j9 => n_1.2 7 0 j9 (show (700 : Nat) ∉ _ from by decide))).trans rfl))).trans hF) ((congrArg Int32.toInt ((((congrFun (congrFun (congrFun est_3 0) 0) 10).trans (congrFun (congrFun (gU_k (by decide)) 0) 10)).trans (n_1.2 0 0 10 (show (10 : Nat) ∉ _ from by decide))))).trans hN) e9_hw_1_0 (hw_1_0_p1.rows ((congrFun (congrFun (congrFun est_3 0) 0) 11).trans (congrFun (congrFun (gU_k (by decide)) 0) 11)) ((congrFun (congrFun (congrFun est_3 0) 0) 12).trans (congrFun (congrFun (gU_k (by decide)) 0) 12)) ((congrFun (congrFun (congrFun est_3 0) 0) 14).trans (congrFun (congrFun (gU_k (by decide)) 0) 14)) ((congrFun (congrFun (congrFun est_3 0) 0) 17).trans (congrFun (congrFun (gU_k (by decide)) 0) 17)) ((congrFun (congrFun (congrFun est_3 0) 0) 59).trans (congrFun (congrFun (gU_k (by decide)) 0) 59))) wBelow (by decide +kernel)) ⟨(gz_cb (n := 1) hts gm_1158 gm_12 gm_1161 ⟨by decide +kernel, by decide +kernel, by decide +kernel⟩ ⟨Nat.le_of_ble_eq_true rfl, Nat.le_of_ble_eq_true rfl⟩), hts _ gm_1160, hts _ gs_43⟩ (gs_preV hK hov hE hI hM hm hS hA 0 0 (by decide) rfl rfl) rfl rfl hl.1 rfl (lv_room (Nat.le_of_ble_eq_true rfl)) dX10_drought_25 ⟨Nat.le_of_ble_eq_true rfl, Nat.le_of_ble_eq_true rfl⟩) hm hS hA (fun r_4 st_4 H locs hw_4 hM hS => ?_)
    obtain ⟨n_4, hw_4⟩ := hw_4
    have hB_st_4 : gBN bM kM [11, 12, 13, 14, 15, 16, 17, 18, 19, 59, 900, 1000, 1200] st st_4 := hB_st_3.call n_4 (by decide)
    rcases hw_4 with ⟨rfl, hw_4_0⟩ | ⟨rfl, hw_4_0⟩
    · skip
      obtain ⟨e9_hw_4_0, hw_4_0_p0, hw_4_0_p1⟩ := hw_4_0
      refine lv_if_eq (tgt := 42) hx hb dX10_drought_28 (by decide) (fun h9 => absurd h9 (by decide)) (fun _ => ?_)
      refine lv_aload_n hx hb dX10_drought_31 rfl (lv_at hl 0 rfl) ?_
      refine lv_iconst (v := 0) hx hb dX10_drought_32 (by decide) ?_
      refine lv_sipush (v := 1000) hx hb dX10_drought_33 (by decide) ?_
      refine gs_calli (va_runV (As := [.int 0, .int 1000]) (rest := []) ⟨hx, hb, hml, hown, hts⟩ (m_readNumber l G cy sK sV ad H.size st_4 hB_st_4.1 (0 : Int32) (1000 : Int32) 0 1000 (by decide) (by decide) F N (((funext (fun j9 => n_4.2 7 0 j9 (show (700 : Nat) ∉ _ from by decide))).trans ((congrFun (congrFun est_3 7) 0).trans ((congrFun (gU_k (by decide)) 0).trans ((funext (fun j9 => n_1.2 7 0 j9 (show (700 : Nat) ∉ _ from by decide))).trans rfl)))).trans hF) ((congrArg Int32.toInt (((n_4.2 0 0 10 (show (10 : Nat) ∉ _ from by decide)).trans (((congrFun (congrFun (congrFun est_3 0) 0) 10).trans (congrFun (congrFun (gU_k (by decide)) 0) 10)).trans (n_1.2 0 0 10 (show (10 : Nat) ∉ _ from by decide)))))).trans hN) e9_hw_4_0 hw_4_0_p1) ⟨(gz_cb (n := 2) hts gm_1139 gm_12 gm_1142 ⟨by decide +kernel, by decide +kernel, by decide +kernel⟩ ⟨Nat.le_of_ble_eq_true rfl, Nat.le_of_ble_eq_true rfl⟩), hts _ gm_1141, hts _ gs_39⟩ (gs_preV hK hov hE hI hM hm hS hA 0 0 (by decide) rfl rfl) rfl rfl hl.1 rfl (lv_room (Nat.le_of_ble_eq_true rfl)) dX10_drought_36 ⟨Nat.le_of_ble_eq_true rfl, Nat.le_of_ble_eq_true rfl⟩) hm hS hA (fun r_5 st_5 H locs hw_5 hM hS => ?_)
      obtain ⟨n_5, hw_5⟩ := hw_5
      have hB_st_5 : gBN bM kM [11, 12, 13, 14, 15, 16, 17, 18, 19, 59, 900, 1000, 1200] st st_5 := hB_st_4.call n_5 (by decide)
      rcases hw_5 with ⟨rfl, hw_5_0, hw_5_1, hw_5_2⟩ | ⟨rfl, hw_5_0⟩
      · skip
        obtain ⟨e9_hw_5_0, hw_5_0_p0, hw_5_0_p1⟩ := hw_5_0
        refine lv_if_ne (tgt := 44) hx hb dX10_drought_39 (by decide) (fun _ => ?_) (fun h9 => absurd h9 (by decide))
        refine lv_aload_n hx hb dX10_drought_44 rfl (lv_at hl 0 rfl) ?_
        refine gs_get (C := RX10) (T := TX10) (N := 59) hx hb hts inX10 hown hK hM 0 0 24 (by decide) rfl rfl (by decide) (hts _ gm_925) (fun _ h9 => h9) rfl dX10_drought_45 ?_
        refine lv_iload_n hx hb dX10_drought_48 rfl (lv_at hl 1 rfl) ?_
        refine lv_aload_n hx hb dX10_drought_49 rfl (lv_at hl 0 rfl) ?_
        refine gs_get (C := RX10) (T := TX10) (N := 59) hx hb hts inX10 hown hK hM 0 0 18 (by decide) rfl rfl (by decide) (hts _ gm_919) (fun _ h9 => h9) rfl dX10_drought_50 ?_
        refine gs_iast hx hb hK hI hm hM hS 12 0 (by decide) (fun _ => rfl) (vp_in_iff.mpr ⟨by omega, by omega⟩) dX10_drought_53 (fun st_7 H locs est_7 hM hS => ?_)
        have hB_st_7 : gBN bM kM [11, 12, 13, 14, 15, 16, 17, 18, 19, 59, 900, 1000, 1200] st st_7 := by rw [est_7]; exact hB_st_5.up (show (1200 : Nat) ∈ _ from by decide) (gi_lo _) (gi_hi _)
        refine lv_aload_n hx hb dX10_drought_54 rfl (lv_at hl 0 rfl) ?_
        refine gs_calli (va_runV (As := []) (rest := []) ⟨hx, hb, hml, hown, hts⟩ (m_readClan l G cy sK sV ad H.size st_7 hB_st_7.1  F N (((congrFun (congrFun est_7 7) 0).trans ((congrFun (gU_k (by decide)) 0).trans ((funext (fun j9 => n_5.2 7 0 j9 (show (700 : Nat) ∉ _ from by decide))).trans ((funext (fun j9 => n_4.2 7 0 j9 (show (700 : Nat) ∉ _ from by decide))).trans ((congrFun (congrFun est_3 7) 0).trans ((congrFun (gU_k (by decide)) 0).trans ((funext (fun j9 => n_1.2 7 0 j9 (show (700 : Nat) ∉ _ from by decide))).trans rfl))))))).trans hF) ((congrArg Int32.toInt ((((congrFun (congrFun (congrFun est_7 0) 0) 10).trans (congrFun (congrFun (gU_k (by decide)) 0) 10)).trans ((n_5.2 0 0 10 (show (10 : Nat) ∉ _ from by decide)).trans ((n_4.2 0 0 10 (show (10 : Nat) ∉ _ from by decide)).trans (((congrFun (congrFun (congrFun est_3 0) 0) 10).trans (congrFun (congrFun (gU_k (by decide)) 0) 10)).trans (n_1.2 0 0 10 (show (10 : Nat) ∉ _ from by decide)))))))).trans hN) e9_hw_5_0 (hw_5_0_p1.rows ((congrFun (congrFun (congrFun est_7 0) 0) 11).trans (congrFun (congrFun (gU_k (by decide)) 0) 11)) ((congrFun (congrFun (congrFun est_7 0) 0) 12).trans (congrFun (congrFun (gU_k (by decide)) 0) 12)) ((congrFun (congrFun (congrFun est_7 0) 0) 14).trans (congrFun (congrFun (gU_k (by decide)) 0) 14)) ((congrFun (congrFun (congrFun est_7 0) 0) 17).trans (congrFun (congrFun (gU_k (by decide)) 0) 17)) ((congrFun (congrFun (congrFun est_7 0) 0) 59).trans (congrFun (congrFun (gU_k (by decide)) 0) 59)))) ⟨(gz_cb (n := 0) hts gm_1147 gm_12 gm_1150 ⟨by decide +kernel, by decide +kernel, by decide +kernel⟩ ⟨Nat.le_of_ble_eq_true rfl, Nat.le_of_ble_eq_true rfl⟩), hts _ gm_1149, hts _ gs_41⟩ (gs_preV hK hov hE hI hM hm hS hA 0 0 (by decide) rfl rfl) rfl rfl hl.1 rfl (lv_room (Nat.le_of_ble_eq_true rfl)) dX10_drought_55 ⟨Nat.le_of_ble_eq_true rfl, Nat.le_of_ble_eq_true rfl⟩) hm hS hA (fun r_8 st_8 H locs hw_8 hM hS => ?_)
        obtain ⟨n_8, hw_8⟩ := hw_8
        have hB_st_8 : gBN bM kM [11, 12, 13, 14, 15, 16, 17, 18, 19, 59, 900, 1000, 1200] st st_8 := hB_st_7.call n_8 (by decide)
        rcases hw_8 with ⟨rfl, hw_8_0, hw_8_1, hw_8_2⟩ | ⟨rfl, hw_8_0⟩
        · skip
          obtain ⟨e9_hw_8_0, hw_8_0_p0, hw_8_0_p1⟩ := hw_8_0
          refine lv_if_ne (tgt := 63) hx hb dX10_drought_58 (by decide) (fun _ => ?_) (fun h9 => absurd h9 (by decide))
          refine lv_aload_n hx hb dX10_drought_63 rfl (lv_at hl 0 rfl) ?_
          refine gs_get (C := RX10) (T := TX10) (N := 59) hx hb hts inX10 hown hK hM 0 0 22 (by decide) rfl rfl (by decide) (hts _ gm_923) (fun _ h9 => h9) rfl dX10_drought_64 ?_
          refine lv_iload_n hx hb dX10_drought_67 rfl (lv_at hl 1 rfl) ?_
          refine lv_aload_n hx hb dX10_drought_68 rfl (lv_at hl 0 rfl) ?_
          refine gs_get (C := RX10) (T := TX10) (N := 59) hx hb hts inX10 hown hK hM 0 0 18 (by decide) rfl rfl (by decide) (hts _ gm_919) (fun _ h9 => h9) rfl dX10_drought_69 ?_
          refine gs_iast hx hb hK hI hm hM hS 10 0 (by decide) (fun _ => rfl) (vp_in_iff.mpr ⟨by omega, by omega⟩) dX10_drought_72 (fun st_10 H locs est_10 hM hS => ?_)
          have hB_st_10 : gBN bM kM [11, 12, 13, 14, 15, 16, 17, 18, 19, 59, 900, 1000, 1200] st st_10 := by rw [est_10]; exact hB_st_8.up (show (1000 : Nat) ∈ _ from by decide) (gi_lo _) (gi_hi _)
          refine lv_iconst (v := 1) hx hb dX10_drought_73 (by decide) ?_
          exact gs_iret hx hb hr hlocks hM hS (by decide) ⟨hB_st_10, (Or.inl ⟨rfl, ⟨(3, (st_1 0 0 18).toInt, (st_8 0 0 18).toInt, 0, (st_5 0 0 18).toInt, []), e9_hw_8_0, (by unfold pDroughtB; exact (obM hw_1_0_p0 (obM hw_4_0_p0 (obM hw_5_0_p0 (obM hw_8_0_p0 rfl))))), (hw_8_0_p1.rows ((congrFun (congrFun (congrFun est_10 0) 0) 11).trans (congrFun (congrFun (gU_k (by decide)) 0) 11)) ((congrFun (congrFun (congrFun est_10 0) 0) 12).trans (congrFun (congrFun (gU_k (by decide)) 0) 12)) ((congrFun (congrFun (congrFun est_10 0) 0) 14).trans (congrFun (congrFun (gU_k (by decide)) 0) 14)) ((congrFun (congrFun (congrFun est_10 0) 0) 17).trans (congrFun (congrFun (gU_k (by decide)) 0) 17)) ((congrFun (congrFun (congrFun est_10 0) 0) 59).trans (congrFun (congrFun (gU_k (by decide)) 0) 59))), rfl, wf_mk ⟨by omega, by omega⟩ ⟨by omega, by omega⟩ ⟨by omega, by omega⟩ ⟨by omega, by omega⟩ ⟨by omega, by omega⟩, LMb_3 (by rw [show (st_10 9 0 (x.toNatClampNeg)).toInt = (st_1 0 0 18).toInt from (congrArg Int32.toInt ((((congrFun (congrFun (congrFun est_10 9) 0) (x.toNatClampNeg)).trans (congrFun (congrFun (gU_k (by decide)) 0) (x.toNatClampNeg))).trans ((n_8.2 9 0 (x.toNatClampNeg) (show (900 : Nat) ∉ _ from by decide)).trans (((congrFun (congrFun (congrFun est_7 9) 0) (x.toNatClampNeg)).trans (congrFun (congrFun (gU_k (by decide)) 0) (x.toNatClampNeg))).trans ((n_5.2 9 0 (x.toNatClampNeg) (show (900 : Nat) ∉ _ from by decide)).trans ((n_4.2 9 0 (x.toNatClampNeg) (show (900 : Nat) ∉ _ from by decide)).trans ((congrFun (congrFun (congrFun est_3 9) 0) (x.toNatClampNeg)).trans (gU_same _ _ _ _ _)))))))))]; all_goals first | rfl | omega) (by rw [show (st_10 10 0 (x.toNatClampNeg)).toInt = (st_8 0 0 18).toInt from (congrArg Int32.toInt (((congrFun (congrFun (congrFun est_10 10) 0) (x.toNatClampNeg)).trans (gU_same _ _ _ _ _))))]; all_goals first | rfl | omega) (by rw [show (st_10 12 0 (x.toNatClampNeg)).toInt = (st_5 0 0 18).toInt from (congrArg Int32.toInt ((((congrFun (congrFun (congrFun est_10 12) 0) (x.toNatClampNeg)).trans (congrFun (congrFun (gU_k (by decide)) 0) (x.toNatClampNeg))).trans ((n_8.2 12 0 (x.toNatClampNeg) (show (1200 : Nat) ∉ _ from by decide)).trans ((congrFun (congrFun (congrFun est_7 12) 0) (x.toNatClampNeg)).trans (gU_same _ _ _ _ _))))))]; all_goals first | rfl | omega)⟩, (by rw [est_10]; exact mO.up (mO.trans (by rw [est_7]; exact mO.up (mO.trans (mO.trans (by rw [est_3]; exact mO.up (mO.trans mO.rf (mO.frame n_1.2 (by decide))) (by first | (intro _; rfl) | (intro h9; exact absurd h9 (by decide)) | (intro _; omega)) (by first | (intro h9; exact absurd h9 (by decide)) | (intro _; omega))) (mO.frame n_4.2 (by decide))) (mO.frame n_5.2 (by decide))) (by first | (intro _; rfl) | (intro h9; exact absurd h9 (by decide)) | (intro _; omega)) (by first | (intro h9; exact absurd h9 (by decide)) | (intro _; omega))) (mO.frame n_8.2 (by decide))) (by first | (intro _; rfl) | (intro h9; exact absurd h9 (by decide)) | (intro _; omega)) (by first | (intro h9; exact absurd h9 (by decide)) | (intro _; omega)))⟩)⟩ (by exact Nat.le_refl _) (by exact Nat.le_refl _) dX10_drought_74
        · skip
          refine lv_if_ne (tgt := 63) hx hb dX10_drought_58 (by decide) (fun h9 => absurd (by decide) h9) (fun _ => ?_)
          refine lv_iconst (v := 0) hx hb dX10_drought_61 (by decide) ?_
          exact gs_iret hx hb hr hlocks hM hS (by decide) ⟨hB_st_8, (Or.inr ⟨rfl, (by unfold pDroughtB; exact (obM hw_1_0_p0 (obM hw_4_0_p0 (obM hw_5_0_p0 (obN hw_8_0))))), (mO.trans (by rw [est_7]; exact mO.up (mO.trans (mO.trans (by rw [est_3]; exact mO.up (mO.trans mO.rf (mO.frame n_1.2 (by decide))) (by first | (intro _; rfl) | (intro h9; exact absurd h9 (by decide)) | (intro _; omega)) (by first | (intro h9; exact absurd h9 (by decide)) | (intro _; omega))) (mO.frame n_4.2 (by decide))) (mO.frame n_5.2 (by decide))) (by first | (intro _; rfl) | (intro h9; exact absurd h9 (by decide)) | (intro _; omega)) (by first | (intro h9; exact absurd h9 (by decide)) | (intro _; omega))) (mO.frame n_8.2 (by decide)))⟩)⟩ (by exact Nat.le_refl _) (by exact Nat.le_refl _) dX10_drought_62
      · skip
        refine lv_if_ne (tgt := 44) hx hb dX10_drought_39 (by decide) (fun h9 => absurd (by decide) h9) (fun _ => ?_)
        refine lv_iconst (v := 0) hx hb dX10_drought_42 (by decide) ?_
        exact gs_iret hx hb hr hlocks hM hS (by decide) ⟨hB_st_5, (Or.inr ⟨rfl, (by unfold pDroughtB; exact (obM hw_1_0_p0 (obM hw_4_0_p0 (obN hw_5_0)))), (mO.trans (mO.trans (by rw [est_3]; exact mO.up (mO.trans mO.rf (mO.frame n_1.2 (by decide))) (by first | (intro _; rfl) | (intro h9; exact absurd h9 (by decide)) | (intro _; omega)) (by first | (intro h9; exact absurd h9 (by decide)) | (intro _; omega))) (mO.frame n_4.2 (by decide))) (mO.frame n_5.2 (by decide)))⟩)⟩ (by exact Nat.le_refl _) (by exact Nat.le_refl _) dX10_drought_43
    · skip
      refine lv_if_eq (tgt := 42) hx hb dX10_drought_28 (by decide) (fun _ => ?_) (fun h9 => absurd (by decide) h9)
      refine lv_iconst (v := 0) hx hb dX10_drought_42 (by decide) ?_
      exact gs_iret hx hb hr hlocks hM hS (by decide) ⟨hB_st_4, (Or.inr ⟨rfl, (by unfold pDroughtB; exact (obM hw_1_0_p0 (obN hw_4_0))), (mO.trans (by rw [est_3]; exact mO.up (mO.trans mO.rf (mO.frame n_1.2 (by decide))) (by first | (intro _; rfl) | (intro h9; exact absurd h9 (by decide)) | (intro _; omega)) (by first | (intro h9; exact absurd h9 (by decide)) | (intro _; omega))) (mO.frame n_4.2 (by decide)))⟩)⟩ (by exact Nat.le_refl _) (by exact Nat.le_refl _) dX10_drought_43
  · skip
    refine lv_if_ne (tgt := 11) hx hb dX10_drought_6 (by decide) (fun h9 => absurd (by decide) h9) (fun _ => ?_)
    refine lv_iconst (v := 0) hx hb dX10_drought_9 (by decide) ?_
    exact gs_iret hx hb hr hlocks hM hS (by decide) ⟨hB_st_1, (Or.inr ⟨rfl, (by unfold pDroughtB; exact (obN hw_1_0)), (mO.trans mO.rf (mO.frame n_1.2 (by decide)))⟩)⟩ (by exact Nat.le_refl _) (by exact Nat.le_refl _) dX10_drought_10

set_option maxHeartbeats 4000000 in
set_option maxRecDepth 100000 in
/-- WellCourtModel.dry -/
theorem m_dry (l : Launch) (G : va_G) (cy : Nat → ClassId) (sK sV : Nat → Nat) (ad : Nat → Nat → Nat) (sz : Nat) (st : gS) (hB : gBd bM st) (x : Int32) (Xx : Int) (kx : x.toInt = Xx) (hx0 : 0 ≤ Xx) (hx1 : Xx ≤ 43) (F : Nat → Int32) (N : Int) (hF : st 7 0 = F) (hN : (st 0 0 10).toInt = N) (P : Int) (hC : mCur F N P st) : gsMi l yX10_dry cX10_dry 2 (some .boolean) ({ frames := 3, cells := 0, slots := 0, locals := 66 } : Room) G cy sK sV (shM cy ad) cnM ad sz [.ref (ad 0 0), .int x] st (fun (r : Int32) (u : gS) => gBN bM kM [11, 12, 13, 14, 15, 16, 17, 18, 19, 59, 900, 1000] st u ∧ ((r = 1 ∧ (∃ (r9 : Rl) (e9 : Int), pDryB F N (mLex F N) P = some (r9, e9) ∧ mCur F N e9 u ∧ r9.1 = 4 ∧ wfR r9 ∧ LMb r9 u x.toNatClampNeg) ∧ (mO x.toNatClampNeg st u)) ∨ (r = 0 ∧ (pDryB F N (mLex F N) P = none) ∧ (mO x.toNatClampNeg st u)))) := by
  refine gs_start (fun A => gsQi G (shM cy ad) cnM ad _ A) (by decide) (Nat.le_of_ble_eq_true rfl) ?_
  intro p e s m below meth c A ls H hx hb hr hml hlocks hown hts hK hov hE hI hM hm hS hA hl
  have hl : lv_has ls 2 [(0, .ref (ad 0 0)), (1, .int x)] := hl
  have hB_st : gBN bM kM [11, 12, 13, 14, 15, 16, 17, 18, 19, 59, 900, 1000] st st := gBN.rf hB
  refine lv_aload_n hx hb dX10_dry_0 rfl (lv_at hl 0 rfl) ?_
  refine lv_iconst (v := 0) hx hb dX10_dry_1 (by decide) ?_
  refine lv_iconst (v := 5) hx hb dX10_dry_2 (by decide) ?_
  refine gs_calli (va_runV (As := [.int 0, .int 5]) (rest := []) ⟨hx, hb, hml, hown, hts⟩ (m_readNumber l G cy sK sV ad H.size st hB_st.1 (0 : Int32) (5 : Int32) 0 5 (by decide) (by decide) F N hF hN P hC) ⟨(gz_cb (n := 2) hts gm_1139 gm_12 gm_1142 ⟨by decide +kernel, by decide +kernel, by decide +kernel⟩ ⟨Nat.le_of_ble_eq_true rfl, Nat.le_of_ble_eq_true rfl⟩), hts _ gm_1141, hts _ gs_39⟩ (gs_preV hK hov hE hI hM hm hS hA 0 0 (by decide) rfl rfl) rfl rfl hl.1 rfl (lv_room (Nat.le_of_ble_eq_true rfl)) dX10_dry_3 ⟨Nat.le_of_ble_eq_true rfl, Nat.le_of_ble_eq_true rfl⟩) hm hS hA (fun r_1 st_1 H locs hw_1 hM hS => ?_)
  obtain ⟨n_1, hw_1⟩ := hw_1
  have hB_st_1 : gBN bM kM [11, 12, 13, 14, 15, 16, 17, 18, 19, 59, 900, 1000] st st_1 := hB_st.call n_1 (by decide)
  rcases hw_1 with ⟨rfl, hw_1_0, hw_1_1, hw_1_2⟩ | ⟨rfl, hw_1_0⟩
  · skip
    obtain ⟨e9_hw_1_0, hw_1_0_p0, hw_1_0_p1⟩ := hw_1_0
    refine lv_if_ne (tgt := 11) hx hb dX10_dry_6 (by decide) (fun _ => ?_) (fun h9 => absurd h9 (by decide))
    refine lv_aload_n hx hb dX10_dry_11 rfl (lv_at hl 0 rfl) ?_
    refine gs_get (C := RX10) (T := TX10) (N := 59) hx hb hts inX10 hown hK hM 0 0 21 (by decide) rfl rfl (by decide) (hts _ gm_922) (fun _ h9 => h9) rfl dX10_dry_12 ?_
    refine lv_iload_n hx hb dX10_dry_15 rfl (lv_at hl 1 rfl) ?_
    refine lv_aload_n hx hb dX10_dry_16 rfl (lv_at hl 0 rfl) ?_
    refine gs_get (C := RX10) (T := TX10) (N := 59) hx hb hts inX10 hown hK hM 0 0 18 (by decide) rfl rfl (by decide) (hts _ gm_919) (fun _ h9 => h9) rfl dX10_dry_17 ?_
    refine gs_iast hx hb hK hI hm hM hS 9 0 (by decide) (fun _ => rfl) (vp_in_iff.mpr ⟨by omega, by omega⟩) dX10_dry_20 (fun st_3 H locs est_3 hM hS => ?_)
    have hB_st_3 : gBN bM kM [11, 12, 13, 14, 15, 16, 17, 18, 19, 59, 900, 1000] st st_3 := by rw [est_3]; exact hB_st_1.up (show (900 : Nat) ∈ _ from by decide) (show (0 : Int) ≤ (st_1 0 0 18).toInt from by omega) (show (st_1 0 0 18).toInt ≤ (5 : Int) from by omega)
    refine lv_aload_n hx hb dX10_dry_21 rfl (lv_at hl 0 rfl) ?_
    refine lv_ldc2 (v := 29807) hx hb hown (hts _ gm_1176) dX10_dry_22 ?_
    refine gs_calli (va_runV (As := [.long (29807 : Int64)]) (rest := []) ⟨hx, hb, hml, hown, hts⟩ (m_mustWord l G cy sK sV ad H.size st_3 hB_st_3.1 (29807 : Int64) F N (((congrFun (congrFun est_3 7) 0).trans ((congrFun (gU_k (by decide)) 0).trans ((funext (fun j9 => n_1.2 7 0 j9 (show (700 : Nat) ∉ _ from by decide))).trans rfl))).trans hF) ((congrArg Int32.toInt ((((congrFun (congrFun (congrFun est_3 0) 0) 10).trans (congrFun (congrFun (gU_k (by decide)) 0) 10)).trans (n_1.2 0 0 10 (show (10 : Nat) ∉ _ from by decide))))).trans hN) e9_hw_1_0 (hw_1_0_p1.rows ((congrFun (congrFun (congrFun est_3 0) 0) 11).trans (congrFun (congrFun (gU_k (by decide)) 0) 11)) ((congrFun (congrFun (congrFun est_3 0) 0) 12).trans (congrFun (congrFun (gU_k (by decide)) 0) 12)) ((congrFun (congrFun (congrFun est_3 0) 0) 14).trans (congrFun (congrFun (gU_k (by decide)) 0) 14)) ((congrFun (congrFun (congrFun est_3 0) 0) 17).trans (congrFun (congrFun (gU_k (by decide)) 0) 17)) ((congrFun (congrFun (congrFun est_3 0) 0) 59).trans (congrFun (congrFun (gU_k (by decide)) 0) 59))) wTo (by decide +kernel)) ⟨(gz_cb (n := 1) hts gm_1158 gm_12 gm_1161 ⟨by decide +kernel, by decide +kernel, by decide +kernel⟩ ⟨Nat.le_of_ble_eq_true rfl, Nat.le_of_ble_eq_true rfl⟩), hts _ gm_1160, hts _ gs_43⟩ (gs_preV hK hov hE hI hM hm hS hA 0 0 (by decide) rfl rfl) rfl rfl hl.1 rfl (lv_room (Nat.le_of_ble_eq_true rfl)) dX10_dry_25 ⟨Nat.le_of_ble_eq_true rfl, Nat.le_of_ble_eq_true rfl⟩) hm hS hA (fun r_4 st_4 H locs hw_4 hM hS => ?_)
    obtain ⟨n_4, hw_4⟩ := hw_4
    have hB_st_4 : gBN bM kM [11, 12, 13, 14, 15, 16, 17, 18, 19, 59, 900, 1000] st st_4 := hB_st_3.call n_4 (by decide)
    rcases hw_4 with ⟨rfl, hw_4_0⟩ | ⟨rfl, hw_4_0⟩
    · skip
      obtain ⟨e9_hw_4_0, hw_4_0_p0, hw_4_0_p1⟩ := hw_4_0
      refine lv_if_eq (tgt := 40) hx hb dX10_dry_28 (by decide) (fun h9 => absurd h9 (by decide)) (fun _ => ?_)
      refine lv_aload_n hx hb dX10_dry_31 rfl (lv_at hl 0 rfl) ?_
      refine lv_iconst (v := 0) hx hb dX10_dry_32 (by decide) ?_
      refine lv_iconst (v := 5) hx hb dX10_dry_33 (by decide) ?_
      refine gs_calli (va_runV (As := [.int 0, .int 5]) (rest := []) ⟨hx, hb, hml, hown, hts⟩ (m_readNumber l G cy sK sV ad H.size st_4 hB_st_4.1 (0 : Int32) (5 : Int32) 0 5 (by decide) (by decide) F N (((funext (fun j9 => n_4.2 7 0 j9 (show (700 : Nat) ∉ _ from by decide))).trans ((congrFun (congrFun est_3 7) 0).trans ((congrFun (gU_k (by decide)) 0).trans ((funext (fun j9 => n_1.2 7 0 j9 (show (700 : Nat) ∉ _ from by decide))).trans rfl)))).trans hF) ((congrArg Int32.toInt (((n_4.2 0 0 10 (show (10 : Nat) ∉ _ from by decide)).trans (((congrFun (congrFun (congrFun est_3 0) 0) 10).trans (congrFun (congrFun (gU_k (by decide)) 0) 10)).trans (n_1.2 0 0 10 (show (10 : Nat) ∉ _ from by decide)))))).trans hN) e9_hw_4_0 hw_4_0_p1) ⟨(gz_cb (n := 2) hts gm_1139 gm_12 gm_1142 ⟨by decide +kernel, by decide +kernel, by decide +kernel⟩ ⟨Nat.le_of_ble_eq_true rfl, Nat.le_of_ble_eq_true rfl⟩), hts _ gm_1141, hts _ gs_39⟩ (gs_preV hK hov hE hI hM hm hS hA 0 0 (by decide) rfl rfl) rfl rfl hl.1 rfl (lv_room (Nat.le_of_ble_eq_true rfl)) dX10_dry_34 ⟨Nat.le_of_ble_eq_true rfl, Nat.le_of_ble_eq_true rfl⟩) hm hS hA (fun r_5 st_5 H locs hw_5 hM hS => ?_)
      obtain ⟨n_5, hw_5⟩ := hw_5
      have hB_st_5 : gBN bM kM [11, 12, 13, 14, 15, 16, 17, 18, 19, 59, 900, 1000] st st_5 := hB_st_4.call n_5 (by decide)
      rcases hw_5 with ⟨rfl, hw_5_0, hw_5_1, hw_5_2⟩ | ⟨rfl, hw_5_0⟩
      · skip
        obtain ⟨e9_hw_5_0, hw_5_0_p0, hw_5_0_p1⟩ := hw_5_0
        refine lv_if_ne (tgt := 42) hx hb dX10_dry_37 (by decide) (fun _ => ?_) (fun h9 => absurd h9 (by decide))
        refine lv_aload_n hx hb dX10_dry_42 rfl (lv_at hl 0 rfl) ?_
        refine gs_get (C := RX10) (T := TX10) (N := 59) hx hb hts inX10 hown hK hM 0 0 22 (by decide) rfl rfl (by decide) (hts _ gm_923) (fun _ h9 => h9) rfl dX10_dry_43 ?_
        refine lv_iload_n hx hb dX10_dry_46 rfl (lv_at hl 1 rfl) ?_
        refine lv_aload_n hx hb dX10_dry_47 rfl (lv_at hl 0 rfl) ?_
        refine gs_get (C := RX10) (T := TX10) (N := 59) hx hb hts inX10 hown hK hM 0 0 18 (by decide) rfl rfl (by decide) (hts _ gm_919) (fun _ h9 => h9) rfl dX10_dry_48 ?_
        refine gs_iast hx hb hK hI hm hM hS 10 0 (by decide) (fun _ => rfl) (vp_in_iff.mpr ⟨by omega, by omega⟩) dX10_dry_51 (fun st_7 H locs est_7 hM hS => ?_)
        have hB_st_7 : gBN bM kM [11, 12, 13, 14, 15, 16, 17, 18, 19, 59, 900, 1000] st st_7 := by rw [est_7]; exact hB_st_5.up (show (1000 : Nat) ∈ _ from by decide) (gi_lo _) (gi_hi _)
        refine lv_aload_n hx hb dX10_dry_52 rfl (lv_at hl 0 rfl) ?_
        refine gs_get (C := RX10) (T := TX10) (N := 59) hx hb hts inX10 hown hK hM 0 0 18 (by decide) rfl rfl (by decide) (hts _ gm_919) (fun _ h9 => h9) rfl dX10_dry_53 ?_
        refine lv_topi (fun x_8 ex_8 => ?_)
        have ex_8 : (st_5 0 0 18) = x_8 := Eq.symm (ex_8.trans ((congrFun (congrFun (congrFun est_7 0) 0) 18).trans (congrFun (congrFun (gU_k (by decide)) 0) 18)))
        subst ex_8
        refine lv_aload_n hx hb dX10_dry_56 rfl (lv_at hl 0 rfl) ?_
        refine gs_get (C := RX10) (T := TX10) (N := 59) hx hb hts inX10 hown hK hM 0 0 21 (by decide) rfl rfl (by decide) (hts _ gm_922) (fun _ h9 => h9) rfl dX10_dry_57 ?_
        refine lv_iload_n hx hb dX10_dry_60 rfl (lv_at hl 1 rfl) ?_
        refine gs_iald hx hb hK hM 9 0 (by decide) rfl (vp_in_iff.mpr ⟨by omega, by omega⟩) dX10_dry_61 ?_
        refine lv_topi (fun x_10 ex_10 => ?_)
        have qx_10 : x_10.toInt = (st_7 9 0 (x.toNatClampNeg)).toInt := congrArg Int32.toInt ex_10
        have bx_10 : (0 : Int) ≤ x_10.toInt ∧ x_10.toInt ≤ (5 : Int) := by rw [qx_10]; exact hB_st_7.1 9 0 (x.toNatClampNeg)
        have rx_10 : x_10.toInt = ((st_1 0 0 18) : Int32).toInt := by rw [ex_10]; exact congrArg Int32.toInt ((((congrFun (congrFun (congrFun est_7 9) 0) (x.toNatClampNeg)).trans (congrFun (congrFun (gU_k (by decide)) 0) (x.toNatClampNeg))).trans ((n_5.2 9 0 (x.toNatClampNeg) (show (900 : Nat) ∉ _ from by decide)).trans ((n_4.2 9 0 (x.toNatClampNeg) (show (900 : Nat) ∉ _ from by decide)).trans ((congrFun (congrFun (congrFun est_3 9) 0) (x.toNatClampNeg)).trans (gU_same _ _ _ _ _))))))
        refine lv_icmp_ne (tgt := 77) hx hb dX10_dry_62 (by decide) (fun c_11 => ?_) (fun c_11 => ?_)
        · have ic_11 := gz_ne (rfl : (st_5 0 0 18).toInt = (st_5 0 0 18).toInt) (rfl : x_10.toInt = x_10.toInt) c_11
          refine lv_iconst (v := 1) hx hb dX10_dry_77 (by decide) ?_
          refine lv_goto (tgt := 82) hx hb dX10_dry_78 (by decide) ?_
          exact gs_iret hx hb hr hlocks hM hS (by decide) ⟨hB_st_7, (Or.inl ⟨rfl, ⟨(4, (st_1 0 0 18).toInt, (st_5 0 0 18).toInt, 0, 0, []), e9_hw_5_0, (by unfold pDryB; exact (obM hw_1_0_p0 (obM hw_4_0_p0 (obM hw_5_0_p0 ((if_neg (by omega)).trans rfl))))), (hw_5_0_p1.rows ((congrFun (congrFun (congrFun est_7 0) 0) 11).trans (congrFun (congrFun (gU_k (by decide)) 0) 11)) ((congrFun (congrFun (congrFun est_7 0) 0) 12).trans (congrFun (congrFun (gU_k (by decide)) 0) 12)) ((congrFun (congrFun (congrFun est_7 0) 0) 14).trans (congrFun (congrFun (gU_k (by decide)) 0) 14)) ((congrFun (congrFun (congrFun est_7 0) 0) 17).trans (congrFun (congrFun (gU_k (by decide)) 0) 17)) ((congrFun (congrFun (congrFun est_7 0) 0) 59).trans (congrFun (congrFun (gU_k (by decide)) 0) 59))), rfl, wf_mk ⟨by omega, by omega⟩ ⟨by omega, by omega⟩ ⟨by omega, by omega⟩ ⟨by omega, by omega⟩ ⟨by omega, by omega⟩, LMb_4 (by rw [show (st_7 9 0 (x.toNatClampNeg)).toInt = (st_1 0 0 18).toInt from (congrArg Int32.toInt ((((congrFun (congrFun (congrFun est_7 9) 0) (x.toNatClampNeg)).trans (congrFun (congrFun (gU_k (by decide)) 0) (x.toNatClampNeg))).trans ((n_5.2 9 0 (x.toNatClampNeg) (show (900 : Nat) ∉ _ from by decide)).trans ((n_4.2 9 0 (x.toNatClampNeg) (show (900 : Nat) ∉ _ from by decide)).trans ((congrFun (congrFun (congrFun est_3 9) 0) (x.toNatClampNeg)).trans (gU_same _ _ _ _ _)))))))]; all_goals first | rfl | omega) (by rw [show (st_7 10 0 (x.toNatClampNeg)).toInt = (st_5 0 0 18).toInt from (congrArg Int32.toInt (((congrFun (congrFun (congrFun est_7 10) 0) (x.toNatClampNeg)).trans (gU_same _ _ _ _ _))))]; all_goals first | rfl | omega)⟩, (by rw [est_7]; exact mO.up (mO.trans (mO.trans (by rw [est_3]; exact mO.up (mO.trans mO.rf (mO.frame n_1.2 (by decide))) (by first | (intro _; rfl) | (intro h9; exact absurd h9 (by decide)) | (intro _; omega)) (by first | (intro h9; exact absurd h9 (by decide)) | (intro _; omega))) (mO.frame n_4.2 (by decide))) (mO.frame n_5.2 (by decide))) (by first | (intro _; rfl) | (intro h9; exact absurd h9 (by decide)) | (intro _; omega)) (by first | (intro h9; exact absurd h9 (by decide)) | (intro _; omega)))⟩)⟩ (by exact Nat.le_refl _) (by exact Nat.le_refl _) dX10_dry_82
        · have ic_11 := gz_eqn (rfl : (st_5 0 0 18).toInt = (st_5 0 0 18).toInt) (rfl : x_10.toInt = x_10.toInt) c_11
          refine lv_aload_n hx hb dX10_dry_65 rfl (lv_at hl 0 rfl) ?_
          refine lv_iconst (v := 3) hx hb dX10_dry_66 (by decide) ?_
          refine lv_aload_n hx hb dX10_dry_67 rfl (lv_at hl 0 rfl) ?_
          refine gs_get (C := RX10) (T := TX10) (N := 59) hx hb hts inX10 hown hK hM 0 0 19 (by decide) rfl rfl (by decide) (hts _ gm_920) (fun _ h9 => h9) rfl dX10_dry_68 ?_
          refine lv_topi (fun x_12 ex_12 => ?_)
          have ex_12 : (st_5 0 0 19) = x_12 := Eq.symm (ex_12.trans ((congrFun (congrFun (congrFun est_7 0) 0) 19).trans (congrFun (congrFun (gU_k (by decide)) 0) 19)))
          subst ex_12
          refine gs_calli (va_runV (As := [.int 3, .int (st_5 0 0 19)]) (rest := []) ⟨hx, hb, hml, hown, hts⟩ (m_wrong l G cy sK sV ad H.size st_7 hB_st_7.1 (3 : Int32) (st_5 0 0 19) ) ⟨(gz_cb (n := 2) hts gm_1131 gm_12 gm_1134 ⟨by decide +kernel, by decide +kernel, by decide +kernel⟩ ⟨Nat.le_of_ble_eq_true rfl, Nat.le_of_ble_eq_true rfl⟩), hts _ gm_1133, hts _ gs_37⟩ (gs_preV hK hov hE hI hM hm hS hA 0 0 (by decide) rfl rfl) rfl rfl hl.1 rfl (lv_room (Nat.le_of_ble_eq_true rfl)) dX10_dry_71 ⟨Nat.le_of_ble_eq_true rfl, Nat.le_of_ble_eq_true rfl⟩) hm hS hA (fun r_14 st_14 H locs hw_14 hM hS => ?_)
          obtain ⟨n_14, hw_14⟩ := hw_14
          have hB_st_14 : gBN bM kM [11, 12, 13, 14, 15, 16, 17, 18, 19, 59, 900, 1000] st st_14 := hB_st_7.call n_14 (by decide)
          obtain rfl := hw_14
          refine lv_if_eq (tgt := 81) hx hb dX10_dry_74 (by decide) (fun _ => ?_) (fun h9 => absurd (by decide) h9)
          refine lv_iconst (v := 0) hx hb dX10_dry_81 (by decide) ?_
          exact gs_iret hx hb hr hlocks hM hS (by decide) ⟨hB_st_14, (Or.inr ⟨rfl, (by unfold pDryB; exact (obM hw_1_0_p0 (obM hw_4_0_p0 (obM hw_5_0_p0 (if_pos (by omega)))))), (mO.trans (by rw [est_7]; exact mO.up (mO.trans (mO.trans (by rw [est_3]; exact mO.up (mO.trans mO.rf (mO.frame n_1.2 (by decide))) (by first | (intro _; rfl) | (intro h9; exact absurd h9 (by decide)) | (intro _; omega)) (by first | (intro h9; exact absurd h9 (by decide)) | (intro _; omega))) (mO.frame n_4.2 (by decide))) (mO.frame n_5.2 (by decide))) (by first | (intro _; rfl) | (intro h9; exact absurd h9 (by decide)) | (intro _; omega)) (by first | (intro h9; exact absurd h9 (by decide)) | (intro _; omega))) (mO.frame n_14.2 (by decide)))⟩)⟩ (by exact Nat.le_refl _) (by exact Nat.le_refl _) dX10_dry_82
      · skip
        refine lv_if_ne (tgt := 42) hx hb dX10_dry_37 (by decide) (fun h9 => absurd (by decide) h9) (fun _ => ?_)
        refine lv_iconst (v := 0) hx hb dX10_dry_40 (by decide) ?_
        exact gs_iret hx hb hr hlocks hM hS (by decide) ⟨hB_st_5, (Or.inr ⟨rfl, (by unfold pDryB; exact (obM hw_1_0_p0 (obM hw_4_0_p0 (obN hw_5_0)))), (mO.trans (mO.trans (by rw [est_3]; exact mO.up (mO.trans mO.rf (mO.frame n_1.2 (by decide))) (by first | (intro _; rfl) | (intro h9; exact absurd h9 (by decide)) | (intro _; omega)) (by first | (intro h9; exact absurd h9 (by decide)) | (intro _; omega))) (mO.frame n_4.2 (by decide))) (mO.frame n_5.2 (by decide)))⟩)⟩ (by exact Nat.le_refl _) (by exact Nat.le_refl _) dX10_dry_41
    · skip
      refine lv_if_eq (tgt := 40) hx hb dX10_dry_28 (by decide) (fun _ => ?_) (fun h9 => absurd (by decide) h9)
      refine lv_iconst (v := 0) hx hb dX10_dry_40 (by decide) ?_
      exact gs_iret hx hb hr hlocks hM hS (by decide) ⟨hB_st_4, (Or.inr ⟨rfl, (by unfold pDryB; exact (obM hw_1_0_p0 (obN hw_4_0))), (mO.trans (by rw [est_3]; exact mO.up (mO.trans mO.rf (mO.frame n_1.2 (by decide))) (by first | (intro _; rfl) | (intro h9; exact absurd h9 (by decide)) | (intro _; omega)) (by first | (intro h9; exact absurd h9 (by decide)) | (intro _; omega))) (mO.frame n_4.2 (by decide)))⟩)⟩ (by exact Nat.le_refl _) (by exact Nat.le_refl _) dX10_dry_41
  · skip
    refine lv_if_ne (tgt := 11) hx hb dX10_dry_6 (by decide) (fun h9 => absurd (by decide) h9) (fun _ => ?_)
    refine lv_iconst (v := 0) hx hb dX10_dry_9 (by decide) ?_
    exact gs_iret hx hb hr hlocks hM hS (by decide) ⟨hB_st_1, (Or.inr ⟨rfl, (by unfold pDryB; exact (obN hw_1_0)), (mO.trans mO.rf (mO.frame n_1.2 (by decide)))⟩)⟩ (by exact Nat.le_refl _) (by exact Nat.le_refl _) dX10_dry_10
